theorem pm632 : Cond.methodLink RX6 296 yX6_requireDrawer ∈ pxAll := pxM 1158 (by decide +kernel) rfl
theorem pm633 : Cond.instanceMethod yX6_requireDrawer ∈ pxAll := pxM 1160 (by decide +kernel) rfl
theorem pm634 : Cond.selects RX6 yX6_requireDrawer yX6_requireDrawer ∈ pxAll := pxM 25 (by decide +kernel) rfl
set_option maxRecDepth 100000 in
theorem pm635 : Cond.code yX6_requireDrawer cX6_requireDrawer 2 none ∈ pxAll := pxM 1161 rfl rfl
theorem pm636 : Cond.methodLink RL 116 yX6_newDrawer ∈ pxAll := pxM 1154 (by decide +kernel) rfl
theorem pm637 : Cond.instanceMethod yX6_newDrawer ∈ pxAll := pxM 1155 (by decide +kernel) rfl
theorem pm638 : Cond.selects RX6 yX6_newDrawer yX6_newDrawer ∈ pxAll := pxM 1156 (by decide +kernel) rfl
set_option maxRecDepth 100000 in
theorem pm639 : Cond.code yX6_newDrawer cX6_newDrawer 4 (some .int) ∈ pxAll := pxM 1157 rfl rfl
theorem pm640 : Cond.methodLink RL 242 yL_newDrawer ∈ pxAll := pxM 1151 (by decide +kernel) rfl
theorem pm641 : Cond.static yL_newDrawer ∈ pxAll := pxM 1152 (by decide +kernel) rfl
set_option maxRecDepth 100000 in
theorem pm642 : Cond.codeWith yL_newDrawer cL_newDrawer 6 (some .int) [(0, 12, 15, 67), (0, 12, 19, 51)] ∈ pxAll := pxM 1153 rfl rfl
theorem pm643 : Cond.methodLink RX7 301 yX7_isDrawer ∈ pxAll := pxM 1744 (by decide +kernel) rfl
theorem pm644 : Cond.static yX7_isDrawer ∈ pxAll := pxM 1745 (by decide +kernel) rfl
set_option maxRecDepth 100000 in
theorem pm645 : Cond.code yX7_isDrawer cX7_isDrawer 1 (some .boolean) ∈ pxAll := pxM 1746 rfl rfl
theorem pm646 : Cond.methodLink RL 244 yX7_newDrawer ∈ pxAll := pxM 1740 (by decide +kernel) rfl
theorem pm647 : Cond.instanceMethod yX7_newDrawer ∈ pxAll := pxM 1741 (by decide +kernel) rfl
theorem pm648 : Cond.selects RX7 yX7_newDrawer yX7_newDrawer ∈ pxAll := pxM 1742 (by decide +kernel) rfl
set_option maxRecDepth 100000 in
theorem pm649 : Cond.code yX7_newDrawer cX7_newDrawer 6 (some .int) ∈ pxAll := pxM 1743 rfl rfl
theorem pm650 : Cond.methodLink RX6 299 yX6_isSort ∈ pxAll := pxM 1163 (by decide +kernel) rfl
theorem pm651 : Cond.static yX6_isSort ∈ pxAll := pxM 1164 (by decide +kernel) rfl
set_option maxRecDepth 100000 in
theorem pm652 : Cond.code yX6_isSort cX6_isSort 1 (some .boolean) ∈ pxAll := pxM 1165 rfl rfl
theorem pm653 : Cond.fieldLink RX1 22 "MortgageRegister$Drawer" "places" "I" ∈ pxAll := pxM 234 (by decide +kernel) rfl
theorem pm654 : Cond.methodLink RX1 25 yJ7_fill_53178 ∈ pxAll := pxM 1171 (by decide +kernel) rfl
theorem pm655 : Cond.static yJ7_fill_53178 ∈ pxAll := pxM 657 (by decide +kernel) rfl
theorem pm656 : Cond.initialized RJ7 ∈ pxAll := pxM 90 (by decide +kernel) rfl
set_option maxRecDepth 100000 in
theorem pm657 : Cond.code yJ7_fill_53178 cJ7_fill_53178 4 none ∈ pxAll := pxM 658 rfl rfl
theorem pm658 : Cond.fieldLink RX1 18 "MortgageRegister$Drawer" "sort" "I" ∈ pxAll := pxM 233 (by decide +kernel) rfl
theorem pm659 : Cond.methodLink RX6 304 yX1_renew ∈ pxAll := pxM 1167 (by decide +kernel) rfl
theorem pm660 : Cond.instanceMethod yX1_renew ∈ pxAll := pxM 1168 (by decide +kernel) rfl
theorem pm661 : Cond.selects RX1 yX1_renew yX1_renew ∈ pxAll := pxM 1169 (by decide +kernel) rfl
set_option maxRecDepth 100000 in
theorem pm662 : Cond.code yX1_renew cX1_renew 4 (some .int) ∈ pxAll := pxM 1170 rfl rfl
theorem pm663 : Cond.methodLink RX7 304 yX7_filedAt ∈ pxAll := pxM 1747 (by decide +kernel) rfl
theorem pm664 : Cond.static yX7_filedAt ∈ pxAll := pxM 1748 (by decide +kernel) rfl
set_option maxRecDepth 100000 in
theorem pm665 : Cond.code yX7_filedAt cX7_filedAt 2 (some .int) ∈ pxAll := pxM 1749 rfl rfl
theorem dL_law_2165 : decode cL_law 2165 = .ok (.aload_n 1, 1) := by decide +kernel
theorem dL_law_2166 : decode cL_law 2166 = .ok (.aload_n 0, 1) := by decide +kernel
theorem dL_law_2167 : decode cL_law 2167 = .ok (.iload 5, 2) := by decide +kernel
theorem dL_law_2169 : decode cL_law 2169 = .ok (.iconst 1, 1) := by decide +kernel
theorem dL_law_2170 : decode cL_law 2170 = .ok (.iadd, 1) := by decide +kernel
theorem dL_law_2171 : decode cL_law 2171 = .ok (.iaload, 1) := by decide +kernel
theorem dL_law_2172 : decode cL_law 2172 = .ok (.aload_n 0, 1) := by decide +kernel
theorem dL_law_2173 : decode cL_law 2173 = .ok (.iload 5, 2) := by decide +kernel
theorem dL_law_2175 : decode cL_law 2175 = .ok (.iconst 2, 1) := by decide +kernel
theorem dL_law_2176 : decode cL_law 2176 = .ok (.iadd, 1) := by decide +kernel
theorem dL_law_2177 : decode cL_law 2177 = .ok (.iaload, 1) := by decide +kernel
theorem dL_law_2178 : decode cL_law 2178 = .ok (.aload_n 0, 1) := by decide +kernel
theorem dL_law_2179 : decode cL_law 2179 = .ok (.iload 5, 2) := by decide +kernel
theorem dL_law_2181 : decode cL_law 2181 = .ok (.iconst 3, 1) := by decide +kernel
theorem dL_law_2182 : decode cL_law 2182 = .ok (.iadd, 1) := by decide +kernel
theorem dL_law_2183 : decode cL_law 2183 = .ok (.iaload, 1) := by decide +kernel
theorem dL_law_2184 : decode cL_law 2184 = .ok (.aload_n 3, 1) := by decide +kernel
theorem dL_newDrawer_0 : decode cL_newDrawer 0 = .ok (.aload 4, 2) := by decide +kernel
theorem dL_newDrawer_2 : decode cL_newDrawer 2 = .ok (.iconst 0, 1) := by decide +kernel
theorem dL_newDrawer_3 : decode cL_newDrawer 3 = .ok (.aload_n 0, 1) := by decide +kernel
theorem dL_newDrawer_4 : decode cL_newDrawer 4 = .ok (.iload_n 1, 1) := by decide +kernel
theorem dL_newDrawer_5 : decode cL_newDrawer 5 = .ok (.iload_n 2, 1) := by decide +kernel
theorem dL_newDrawer_6 : decode cL_newDrawer 6 = .ok (.iload_n 3, 1) := by decide +kernel
theorem dX6_newDrawer_0 : decode cX6_newDrawer 0 = .ok (.aload_n 0, 1) := by decide +kernel
theorem dX6_newDrawer_1 : decode cX6_newDrawer 1 = .ok (.iload_n 1, 1) := by decide +kernel
theorem dX6_requireDrawer_0 : decode cX6_requireDrawer 0 = .ok (.iload_n 1, 1) := by decide +kernel
theorem dX6_requireDrawer_1 : decode cX6_requireDrawer 1 = .ok (.ifCond .lt 8, 3) := by decide +kernel
theorem dX6_requireDrawer_9 : decode cX6_requireDrawer 9 = .ok (.new 276, 3) := by decide +kernel
theorem dX6_requireDrawer_12 : decode cX6_requireDrawer 12 = .ok (.dup, 1) := by decide +kernel
theorem dX6_requireDrawer_13 : decode cX6_requireDrawer 13 = .ok (.ldc_w 344, 3) := by decide +kernel
theorem dX6_requireDrawer_16 : decode cX6_requireDrawer 16 = .ok (.invokespecial 280, 3) := by decide +kernel
theorem dX6_requireDrawer_19 : decode cX6_requireDrawer 19 = .ok (.athrow, 1) := by decide +kernel
theorem dX6_newDrawer_2 : decode cX6_newDrawer 2 = .ok (.invokevirtual 296, 3) := by decide +kernel
theorem dL_newDrawer_7 : decode cL_newDrawer 7 = .ok (.invokevirtual 116, 3) := by decide +kernel
theorem dL_newDrawer_15 : decode cL_newDrawer 15 = .ok (.astore 5, 2) := by decide +kernel
theorem dL_newDrawer_17 : decode cL_newDrawer 17 = .ok (.iconst 1, 1) := by decide +kernel
theorem dL_newDrawer_18 : decode cL_newDrawer 18 = .ok (.ireturn, 1) := by decide +kernel
theorem dL_law_2185 : decode cL_law 2185 = .ok (.invokestatic 242, 3) := by decide +kernel
theorem dL_law_2188 : decode cL_law 2188 = .ok (.istore 6, 2) := by decide +kernel
theorem dL_law_2190 : decode cL_law 2190 = .ok (.aload_n 2, 1) := by decide +kernel
theorem dL_law_2191 : decode cL_law 2191 = .ok (.aload_n 0, 1) := by decide +kernel
theorem dL_law_2192 : decode cL_law 2192 = .ok (.iload 5, 2) := by decide +kernel
theorem dL_law_2194 : decode cL_law 2194 = .ok (.iconst 1, 1) := by decide +kernel
theorem dL_law_2195 : decode cL_law 2195 = .ok (.iadd, 1) := by decide +kernel
theorem dL_law_2196 : decode cL_law 2196 = .ok (.iaload, 1) := by decide +kernel
theorem dL_law_2197 : decode cL_law 2197 = .ok (.aload_n 0, 1) := by decide +kernel
theorem dL_law_2198 : decode cL_law 2198 = .ok (.iload 5, 2) := by decide +kernel
theorem dL_law_2200 : decode cL_law 2200 = .ok (.iconst 2, 1) := by decide +kernel
theorem dL_law_2201 : decode cL_law 2201 = .ok (.iadd, 1) := by decide +kernel
theorem dL_law_2202 : decode cL_law 2202 = .ok (.iaload, 1) := by decide +kernel
theorem dL_law_2203 : decode cL_law 2203 = .ok (.aload_n 0, 1) := by decide +kernel
theorem dL_law_2204 : decode cL_law 2204 = .ok (.iload 5, 2) := by decide +kernel
theorem dL_law_2206 : decode cL_law 2206 = .ok (.iconst 3, 1) := by decide +kernel
theorem dL_law_2207 : decode cL_law 2207 = .ok (.iadd, 1) := by decide +kernel
theorem dL_law_2208 : decode cL_law 2208 = .ok (.iaload, 1) := by decide +kernel
theorem dX7_newDrawer_0 : decode cX7_newDrawer 0 = .ok (.aload_n 0, 1) := by decide +kernel
theorem dX7_newDrawer_1 : decode cX7_newDrawer 1 = .ok (.iload_n 1, 1) := by decide +kernel
theorem dX7_isDrawer_0 : decode cX7_isDrawer 0 = .ok (.iload_n 0, 1) := by decide +kernel
theorem dX7_isDrawer_1 : decode cX7_isDrawer 1 = .ok (.iconst 0, 1) := by decide +kernel
theorem dX7_isDrawer_2 : decode cX7_isDrawer 2 = .ok (.iconst 2, 1) := by decide +kernel
theorem dX7_isDrawer_3 : decode cX7_isDrawer 3 = .ok (.invokestatic 61, 3) := by decide +kernel
theorem dX7_isDrawer_6 : decode cX7_isDrawer 6 = .ok (.ireturn, 1) := by decide +kernel
theorem dX7_newDrawer_2 : decode cX7_newDrawer 2 = .ok (.invokestatic 301, 3) := by decide +kernel
theorem dX7_newDrawer_5 : decode cX7_newDrawer 5 = .ok (.ifCond .ne 7, 3) := by decide +kernel
theorem dX7_newDrawer_8 : decode cX7_newDrawer 8 = .ok (.iconst 1, 1) := by decide +kernel
theorem dX7_newDrawer_9 : decode cX7_newDrawer 9 = .ok (.goto 27, 3) := by decide +kernel
theorem dX7_newDrawer_36 : decode cX7_newDrawer 36 = .ok (.putfield 48, 3) := by decide +kernel
theorem dX7_newDrawer_39 : decode cX7_newDrawer 39 = .ok (.aload_n 0, 1) := by decide +kernel
theorem dX7_newDrawer_40 : decode cX7_newDrawer 40 = .ok (.getfield 48, 3) := by decide +kernel
theorem dX7_newDrawer_43 : decode cX7_newDrawer 43 = .ok (.ifCond .le 5, 3) := by decide +kernel
theorem dX7_newDrawer_46 : decode cX7_newDrawer 46 = .ok (.iconst 0, 1) := by decide +kernel
theorem dX7_newDrawer_47 : decode cX7_newDrawer 47 = .ok (.ireturn, 1) := by decide +kernel
theorem dL_law_2209 : decode cL_law 2209 = .ok (.invokevirtual 244, 3) := by decide +kernel
theorem dL_law_2212 : decode cL_law 2212 = .ok (.istore 7, 2) := by decide +kernel
theorem dL_law_2214 : decode cL_law 2214 = .ok (.aload_n 2, 1) := by decide +kernel
theorem dL_law_2215 : decode cL_law 2215 = .ok (.invokevirtual 147, 3) := by decide +kernel
theorem dL_law_2218 : decode cL_law 2218 = .ok (.iload 6, 2) := by decide +kernel
theorem dL_law_2220 : decode cL_law 2220 = .ok (.if_icmp .eq 5, 3) := by decide +kernel
theorem dL_law_2225 : decode cL_law 2225 = .ok (.iload 6, 2) := by decide +kernel
theorem dL_law_2227 : decode cL_law 2227 = .ok (.ifCond .ne 15, 3) := by decide +kernel
theorem dL_law_2242 : decode cL_law 2242 = .ok (.goto 416, 3) := by decide +kernel
theorem dX6_requireDrawer_4 : decode cX6_requireDrawer 4 = .ok (.iload_n 1, 1) := by decide +kernel
theorem dX6_requireDrawer_5 : decode cX6_requireDrawer 5 = .ok (.iconst 3, 1) := by decide +kernel
theorem dX6_requireDrawer_6 : decode cX6_requireDrawer 6 = .ok (.if_icmp .lt 14, 3) := by decide +kernel
theorem dX6_requireDrawer_20 : decode cX6_requireDrawer 20 = .ok (.return_, 1) := by decide +kernel
theorem dX6_newDrawer_5 : decode cX6_newDrawer 5 = .ok (.iload_n 2, 1) := by decide +kernel
theorem dX6_isSort_0 : decode cX6_isSort 0 = .ok (.iload_n 0, 1) := by decide +kernel
theorem dX6_isSort_1 : decode cX6_isSort 1 = .ok (.ifCond .eq 8, 3) := by decide +kernel
theorem dX6_isSort_4 : decode cX6_isSort 4 = .ok (.iload_n 0, 1) := by decide +kernel
theorem dX6_isSort_5 : decode cX6_isSort 5 = .ok (.iconst 1, 1) := by decide +kernel
theorem dX6_isSort_6 : decode cX6_isSort 6 = .ok (.if_icmp .ne 7, 3) := by decide +kernel
theorem dX6_isSort_13 : decode cX6_isSort 13 = .ok (.iconst 0, 1) := by decide +kernel
theorem dX6_isSort_14 : decode cX6_isSort 14 = .ok (.ireturn, 1) := by decide +kernel
theorem dX6_newDrawer_6 : decode cX6_newDrawer 6 = .ok (.invokestatic 299, 3) := by decide +kernel
theorem dX6_newDrawer_9 : decode cX6_newDrawer 9 = .ok (.ifCond .eq 14, 3) := by decide +kernel
theorem dX6_newDrawer_23 : decode cX6_newDrawer 23 = .ok (.new 105, 3) := by decide +kernel
theorem dX6_newDrawer_26 : decode cX6_newDrawer 26 = .ok (.dup, 1) := by decide +kernel
theorem dX6_newDrawer_27 : decode cX6_newDrawer 27 = .ok (.ldc_w 302, 3) := by decide +kernel
theorem dX6_newDrawer_30 : decode cX6_newDrawer 30 = .ok (.invokespecial 109, 3) := by decide +kernel
theorem dX6_newDrawer_33 : decode cX6_newDrawer 33 = .ok (.athrow, 1) := by decide +kernel
theorem dL_newDrawer_19 : decode cL_newDrawer 19 = .ok (.astore 5, 2) := by decide +kernel
theorem dL_newDrawer_21 : decode cL_newDrawer 21 = .ok (.iconst 2, 1) := by decide +kernel
theorem dL_newDrawer_22 : decode cL_newDrawer 22 = .ok (.ireturn, 1) := by decide +kernel
theorem dX7_newDrawer_12 : decode cX7_newDrawer 12 = .ok (.iload_n 2, 1) := by decide +kernel
theorem dX7_newDrawer_13 : decode cX7_newDrawer 13 = .ok (.iconst 0, 1) := by decide +kernel
theorem dX7_newDrawer_14 : decode cX7_newDrawer 14 = .ok (.iconst 1, 1) := by decide +kernel
theorem dX7_newDrawer_15 : decode cX7_newDrawer 15 = .ok (.invokestatic 61, 3) := by decide +kernel
theorem dX7_newDrawer_18 : decode cX7_newDrawer 18 = .ok (.ifCond .eq 13, 3) := by decide +kernel
theorem dX7_newDrawer_31 : decode cX7_newDrawer 31 = .ok (.iconst 2, 1) := by decide +kernel
theorem dX7_newDrawer_32 : decode cX7_newDrawer 32 = .ok (.goto 4, 3) := by decide +kernel
theorem dX6_isSort_9 : decode cX6_isSort 9 = .ok (.iconst 1, 1) := by decide +kernel
theorem dX6_isSort_10 : decode cX6_isSort 10 = .ok (.goto 4, 3) := by decide +kernel
theorem dX6_newDrawer_12 : decode cX6_newDrawer 12 = .ok (.iload_n 3, 1) := by decide +kernel
theorem dX6_newDrawer_13 : decode cX6_newDrawer 13 = .ok (.iconst 1, 1) := by decide +kernel
theorem dX6_newDrawer_14 : decode cX6_newDrawer 14 = .ok (.if_icmp .lt 9, 3) := by decide +kernel
theorem dX7_newDrawer_21 : decode cX7_newDrawer 21 = .ok (.iload_n 3, 1) := by decide +kernel
theorem dX7_newDrawer_22 : decode cX7_newDrawer 22 = .ok (.iconst 1, 1) := by decide +kernel
theorem dX7_newDrawer_23 : decode cX7_newDrawer 23 = .ok (.bipush 6, 2) := by decide +kernel
theorem dX7_newDrawer_25 : decode cX7_newDrawer 25 = .ok (.invokestatic 61, 3) := by decide +kernel
theorem dX7_newDrawer_28 : decode cX7_newDrawer 28 = .ok (.ifCond .ne 7, 3) := by decide +kernel
theorem dX6_newDrawer_17 : decode cX6_newDrawer 17 = .ok (.iload_n 3, 1) := by decide +kernel
theorem dX6_newDrawer_18 : decode cX6_newDrawer 18 = .ok (.bipush 6, 2) := by decide +kernel
theorem dX6_newDrawer_20 : decode cX6_newDrawer 20 = .ok (.if_icmp .le 14, 3) := by decide +kernel
theorem dX6_newDrawer_34 : decode cX6_newDrawer 34 = .ok (.aload_n 0, 1) := by decide +kernel
theorem dX6_newDrawer_35 : decode cX6_newDrawer 35 = .ok (.getfield 35, 3) := by decide +kernel
theorem dX6_newDrawer_38 : decode cX6_newDrawer 38 = .ok (.iload_n 1, 1) := by decide +kernel
theorem dX6_newDrawer_39 : decode cX6_newDrawer 39 = .ok (.aaload, 1) := by decide +kernel
theorem dX6_newDrawer_40 : decode cX6_newDrawer 40 = .ok (.iload_n 2, 1) := by decide +kernel
theorem dX6_newDrawer_41 : decode cX6_newDrawer 41 = .ok (.iload_n 3, 1) := by decide +kernel
theorem dX1_renew_0 : decode cX1_renew 0 = .ok (.aload_n 0, 1) := by decide +kernel
theorem dX1_renew_1 : decode cX1_renew 1 = .ok (.getfield 22, 3) := by decide +kernel
theorem dX1_renew_4 : decode cX1_renew 4 = .ok (.istore_n 3, 1) := by decide +kernel
theorem dX1_renew_5 : decode cX1_renew 5 = .ok (.aload_n 0, 1) := by decide +kernel
theorem dX1_renew_6 : decode cX1_renew 6 = .ok (.getfield 9, 3) := by decide +kernel
theorem dX1_renew_9 : decode cX1_renew 9 = .ok (.iconst (-1), 1) := by decide +kernel
theorem dJ7_fill_53178_0 : decode cJ7_fill_53178 0 = .ok (.iconst 0, 1) := by decide +kernel
theorem dJ7_fill_53178_1 : decode cJ7_fill_53178 1 = .ok (.istore_n 2, 1) := by decide +kernel
theorem dJ7_fill_53178_2 : decode cJ7_fill_53178 2 = .ok (.aload_n 0, 1) := by decide +kernel
theorem dJ7_fill_53178_3 : decode cJ7_fill_53178 3 = .ok (.arraylength, 1) := by decide +kernel
theorem dJ7_fill_53178_4 : decode cJ7_fill_53178 4 = .ok (.istore_n 3, 1) := by decide +kernel
theorem dJ7_fill_53178_5 : decode cJ7_fill_53178 5 = .ok (.iload_n 2, 1) := by decide +kernel
theorem dJ7_fill_53178_6 : decode cJ7_fill_53178 6 = .ok (.iload_n 3, 1) := by decide +kernel
theorem dJ7_fill_53178_7 : decode cJ7_fill_53178 7 = .ok (.if_icmp .ge 13, 3) := by decide +kernel
theorem dJ7_fill_53178_10 : decode cJ7_fill_53178 10 = .ok (.aload_n 0, 1) := by decide +kernel
theorem dJ7_fill_53178_11 : decode cJ7_fill_53178 11 = .ok (.iload_n 2, 1) := by decide +kernel
theorem dJ7_fill_53178_12 : decode cJ7_fill_53178 12 = .ok (.iload_n 1, 1) := by decide +kernel
theorem dJ7_fill_53178_13 : decode cJ7_fill_53178 13 = .ok (.iastore, 1) := by decide +kernel
theorem dJ7_fill_53178_14 : decode cJ7_fill_53178 14 = .ok (.iinc 2 1, 3) := by decide +kernel
theorem dJ7_fill_53178_17 : decode cJ7_fill_53178 17 = .ok (.goto (-12), 3) := by decide +kernel
theorem dJ7_fill_53178_20 : decode cJ7_fill_53178 20 = .ok (.return_, 1) := by decide +kernel
theorem dX1_renew_10 : decode cX1_renew 10 = .ok (.invokestatic 25, 3) := by decide +kernel
theorem dX1_renew_13 : decode cX1_renew 13 = .ok (.aload_n 0, 1) := by decide +kernel
theorem dX1_renew_14 : decode cX1_renew 14 = .ok (.iload_n 1, 1) := by decide +kernel
theorem dX1_renew_15 : decode cX1_renew 15 = .ok (.putfield 18, 3) := by decide +kernel
theorem dX1_renew_18 : decode cX1_renew 18 = .ok (.aload_n 0, 1) := by decide +kernel
theorem dX1_renew_19 : decode cX1_renew 19 = .ok (.iload_n 2, 1) := by decide +kernel
theorem dX1_renew_20 : decode cX1_renew 20 = .ok (.putfield 22, 3) := by decide +kernel
theorem dX1_renew_23 : decode cX1_renew 23 = .ok (.iload_n 3, 1) := by decide +kernel
theorem dX1_renew_24 : decode cX1_renew 24 = .ok (.ireturn, 1) := by decide +kernel
theorem dX6_newDrawer_42 : decode cX6_newDrawer 42 = .ok (.invokevirtual 304, 3) := by decide +kernel
theorem dX6_newDrawer_45 : decode cX6_newDrawer 45 = .ok (.ireturn, 1) := by decide +kernel
theorem dL_newDrawer_10 : decode cL_newDrawer 10 = .ok (.i2l, 1) := by decide +kernel
theorem dL_newDrawer_11 : decode cL_newDrawer 11 = .ok (.lastore, 1) := by decide +kernel
theorem dL_newDrawer_12 : decode cL_newDrawer 12 = .ok (.goto 11, 3) := by decide +kernel
theorem dL_newDrawer_23 : decode cL_newDrawer 23 = .ok (.iconst 0, 1) := by decide +kernel
theorem dL_newDrawer_24 : decode cL_newDrawer 24 = .ok (.ireturn, 1) := by decide +kernel
theorem dX7_newDrawer_35 : decode cX7_newDrawer 35 = .ok (.iconst 0, 1) := by decide +kernel
theorem dX7_newDrawer_48 : decode cX7_newDrawer 48 = .ok (.aload_n 0, 1) := by decide +kernel
theorem dX7_newDrawer_49 : decode cX7_newDrawer 49 = .ok (.getfield 39, 3) := by decide +kernel
theorem dX7_newDrawer_52 : decode cX7_newDrawer 52 = .ok (.iload_n 1, 1) := by decide +kernel
theorem dX7_newDrawer_53 : decode cX7_newDrawer 53 = .ok (.iaload, 1) := by decide +kernel
theorem dX7_newDrawer_54 : decode cX7_newDrawer 54 = .ok (.istore 4, 2) := by decide +kernel
theorem dX7_newDrawer_56 : decode cX7_newDrawer 56 = .ok (.aload_n 0, 1) := by decide +kernel
theorem dX7_newDrawer_57 : decode cX7_newDrawer 57 = .ok (.getfield 39, 3) := by decide +kernel
theorem dX7_newDrawer_60 : decode cX7_newDrawer 60 = .ok (.iload_n 1, 1) := by decide +kernel
theorem dX7_newDrawer_61 : decode cX7_newDrawer 61 = .ok (.iload_n 3, 1) := by decide +kernel
theorem dX7_newDrawer_62 : decode cX7_newDrawer 62 = .ok (.iastore, 1) := by decide +kernel
theorem dX7_newDrawer_63 : decode cX7_newDrawer 63 = .ok (.aload_n 0, 1) := by decide +kernel
theorem dX7_newDrawer_64 : decode cX7_newDrawer 64 = .ok (.getfield 42, 3) := by decide +kernel
theorem dX7_newDrawer_67 : decode cX7_newDrawer 67 = .ok (.iload_n 1, 1) := by decide +kernel
theorem dX7_newDrawer_68 : decode cX7_newDrawer 68 = .ok (.iload_n 2, 1) := by decide +kernel
theorem dX7_newDrawer_69 : decode cX7_newDrawer 69 = .ok (.iastore, 1) := by decide +kernel
theorem dX7_newDrawer_70 : decode cX7_newDrawer 70 = .ok (.iconst 0, 1) := by decide +kernel
theorem dX7_newDrawer_71 : decode cX7_newDrawer 71 = .ok (.istore 5, 2) := by decide +kernel
theorem dX7_newDrawer_73 : decode cX7_newDrawer 73 = .ok (.iload 5, 2) := by decide +kernel
theorem dX7_newDrawer_75 : decode cX7_newDrawer 75 = .ok (.bipush 6, 2) := by decide +kernel
theorem dX7_newDrawer_77 : decode cX7_newDrawer 77 = .ok (.if_icmp .ge 21, 3) := by decide +kernel
theorem dX7_newDrawer_80 : decode cX7_newDrawer 80 = .ok (.aload_n 0, 1) := by decide +kernel
theorem dX7_newDrawer_81 : decode cX7_newDrawer 81 = .ok (.getfield 45, 3) := by decide +kernel
theorem dX7_newDrawer_84 : decode cX7_newDrawer 84 = .ok (.iload_n 1, 1) := by decide +kernel
theorem dX7_newDrawer_85 : decode cX7_newDrawer 85 = .ok (.iload 5, 2) := by decide +kernel
theorem dX7_filedAt_0 : decode cX7_filedAt 0 = .ok (.iconst 2, 1) := by decide +kernel
theorem dX7_filedAt_1 : decode cX7_filedAt 1 = .ok (.bipush 6, 2) := by decide +kernel
theorem dX7_filedAt_3 : decode cX7_filedAt 3 = .ok (.iload_n 0, 1) := by decide +kernel
theorem dX7_filedAt_4 : decode cX7_filedAt 4 = .ok (.imul, 1) := by decide +kernel
theorem dX7_filedAt_5 : decode cX7_filedAt 5 = .ok (.iload_n 1, 1) := by decide +kernel
theorem dX7_filedAt_6 : decode cX7_filedAt 6 = .ok (.iadd, 1) := by decide +kernel
theorem dX7_filedAt_7 : decode cX7_filedAt 7 = .ok (.imul, 1) := by decide +kernel
theorem dX7_filedAt_8 : decode cX7_filedAt 8 = .ok (.ireturn, 1) := by decide +kernel
theorem dX7_newDrawer_87 : decode cX7_newDrawer 87 = .ok (.invokestatic 304, 3) := by decide +kernel
theorem dX7_newDrawer_90 : decode cX7_newDrawer 90 = .ok (.iconst (-1), 1) := by decide +kernel
theorem dX7_newDrawer_91 : decode cX7_newDrawer 91 = .ok (.iastore, 1) := by decide +kernel
theorem dX7_newDrawer_92 : decode cX7_newDrawer 92 = .ok (.iinc 5 1, 3) := by decide +kernel
theorem dX7_newDrawer_95 : decode cX7_newDrawer 95 = .ok (.goto (-22), 3) := by decide +kernel
theorem dX7_newDrawer_98 : decode cX7_newDrawer 98 = .ok (.iload 4, 2) := by decide +kernel
theorem dX7_newDrawer_100 : decode cX7_newDrawer 100 = .ok (.ireturn, 1) := by decide +kernel
theorem dL_law_2230 : decode cL_law 2230 = .ok (.aload_n 3, 1) := by decide +kernel
theorem dL_law_2231 : decode cL_law 2231 = .ok (.iconst 0, 1) := by decide +kernel
theorem dL_law_2232 : decode cL_law 2232 = .ok (.laload, 1) := by decide +kernel
theorem dL_law_2233 : decode cL_law 2233 = .ok (.iload 7, 2) := by decide +kernel
theorem dL_law_2235 : decode cL_law 2235 = .ok (.i2l, 1) := by decide +kernel
theorem dL_law_2236 : decode cL_law 2236 = .ok (.lcmp, 1) := by decide +kernel
theorem dL_law_2237 : decode cL_law 2237 = .ok (.ifCond .eq 5, 3) := by decide +kernel
set_option maxHeartbeats 4000000 in
set_option maxRecDepth 100000 in
theorem k226_X6_requireDrawer (l : Launch) (hl9 : l.stackTraces = false) (G : pxG) (sz : Nat) (a0 : Nat) (i0 : Int32) (h0 : (-2147483648 : Int) ≤ i0.toInt ∧ i0.toInt ≤ (-1)) : vx_Met l yX6_requireDrawer (Cond.code yX6_requireDrawer cX6_requireDrawer 2 none :: pxAll) ({ frames := 6, cells := 1, slots := 6, locals := 90 } : Room) (va_Pc [.ref a0, .int i0] (pxPre G [] sz)) pxF (pxXC "java/lang/IndexOutOfBoundsException" (va_A [] sz)) 1 6 (va_A [] sz) := by
  refine vx_ofW (cc := cX6_requireDrawer) (maxL := 2) (ret := none) (by decide) rfl ?_
  intro p e s m args below meth c s₁ B hml hEx hv
  obtain ⟨rfl, hsz, hG, hZ, hP, hD0⟩ := hv
  have hx := B.exec
  have hb := B.bytes
  have hr := B.returns
  have hts0 := atoms_spec (ws := Cond.code yX6_requireDrawer cX6_requireDrawer 2 none :: pxAll) B.pre
  have hts : ∀ w ∈ pxAll, w.before _ s = true := fun w h => hts0 w (List.mem_cons_of_mem _ h)
  have hown : s.vm.findClass RX6 = some m.cls := findClass_of_methodNamed B.named
  have hlocks := B.notSynchronized
  subst hsz
  have hK := hG.1
  have hD := hD0.self (sz := s.heap.size)
  generalize hAe : va_A [] s.heap.size = A at hD hZ ⊢
  have hA : ∀ q : Nat, s.heap.size ≤ q → A q := fun q h => by rw [← hAe]; exact Or.inr h
  have hS : va_S A s.heap s.heap [] := va_S.rf
  have hl := lv_entry ([.ref a0, .int i0]) (n := 2) (Nat.le_of_ble_eq_true rfl)
  rw [lg_entry_eq]
  generalize (lg_sl ([.ref a0, .int i0]) ++ List.replicate (2 - (lg_sl ([.ref a0, .int i0])).length) Slot.unset).toArray = ls at hl ⊢
  have hl : lv_has ls 2 [(0, .ref a0), (1, .int i0)] := hl
  refine lv_iload_n hx hb dX6_requireDrawer_0 rfl (lv_at hl 1 rfl) ?_
  refine lv_if_lt (tgt := 9) hx hb dX6_requireDrawer_1 (by decide) (fun _ => ?_) (fun h9 => absurd (pxLt 0 (by decide) (by omega)) h9)
  exact vx_throwSW (own := RX6) (cls := "java/lang/IndexOutOfBoundsException") (names := ["java/lang/RuntimeException", "java/lang/Exception"]) hx hb hl9 hown (by decide +kernel) (by decide +kernel) (hts _ pm427) (hts _ pm428) (hG.2.2.2.2.1 8 _ rfl) (pxThr (own := RX6) (ic := 280) (by simp [pxBadC]) hts hG wsL_law_x6 pxh_x6) pxg_x6 hZ.1 hZ.2 hS (hl.1.trans hml.symm) dX6_requireDrawer_9 dX6_requireDrawer_12 dX6_requireDrawer_13 dX6_requireDrawer_16 dX6_requireDrawer_19 (fun x hx => (hEx x hx).elim) (Nat.le_of_ble_eq_true rfl) (Nat.le_of_ble_eq_true rfl) (Nat.le_of_ble_eq_true rfl) (Nat.le_of_ble_eq_true rfl) hlocks (pxXe hS) hS.2.2 (Nat.le_of_ble_eq_true rfl) (Nat.le_of_ble_eq_true rfl)
set_option maxHeartbeats 4000000 in
set_option maxRecDepth 100000 in
theorem k226_X6_newDrawer (l : Launch) (hl9 : l.stackTraces = false) (G : pxG) (sz : Nat) (a0 a1 a2 a3 a4 a5 : Nat) (i0 i1 i2 : Int32) (h0 : (-2147483648 : Int) ≤ i0.toInt ∧ i0.toInt ≤ (-1)) : vx_Met l yX6_newDrawer (Cond.code yX6_newDrawer cX6_newDrawer 4 (some .int) :: pxAll) ({ frames := 7, cells := 1, slots := 6, locals := 111 } : Room) (va_Pc [.ref a0, .int i0, .int i1, .int i2] (pxPre G [(a0, .inr (5, [.ref a1, .ref a2, .ref a3, .ref a4, .ref a5, .int 0, .int 0, .int (-1)]))] sz)) pxF (pxXC "java/lang/IndexOutOfBoundsException" (va_A [(a0, .inr (5, [.ref a1, .ref a2, .ref a3, .ref a4, .ref a5, .int 0, .int 0, .int (-1)]))] sz)) 1 6 (va_A [(a0, .inr (5, [.ref a1, .ref a2, .ref a3, .ref a4, .ref a5, .int 0, .int 0, .int (-1)]))] sz) := by
  refine vx_ofW (cc := cX6_newDrawer) (maxL := 4) (ret := (some .int)) (by decide) rfl ?_
  intro p e s m args below meth c s₁ B hml hEx hv
  obtain ⟨rfl, hsz, hG, hZ, hP, hD0⟩ := hv
  have hx := B.exec
  have hb := B.bytes
  have hr := B.returns
  have hts0 := atoms_spec (ws := Cond.code yX6_newDrawer cX6_newDrawer 4 (some .int) :: pxAll) B.pre
  have hts : ∀ w ∈ pxAll, w.before _ s = true := fun w h => hts0 w (List.mem_cons_of_mem _ h)
  have hown : s.vm.findClass RX6 = some m.cls := findClass_of_methodNamed B.named
  have hlocks := B.notSynchronized
  subst hsz
  have hK := hG.1
  have hD := hD0.self (sz := s.heap.size)
  generalize hAe : va_A [(a0, .inr (5, [.ref a1, .ref a2, .ref a3, .ref a4, .ref a5, .int 0, .int 0, .int (-1)]))] s.heap.size = A at hD hZ ⊢
  have hA : ∀ q : Nat, s.heap.size ≤ q → A q := fun q h => by rw [← hAe]; exact Or.inr h
  have hS : va_S A s.heap s.heap [] := va_S.rf
  have hl := lv_entry ([.ref a0, .int i0, .int i1, .int i2]) (n := 4) (Nat.le_of_ble_eq_true rfl)
  rw [lg_entry_eq]
  generalize (lg_sl ([.ref a0, .int i0, .int i1, .int i2]) ++ List.replicate (4 - (lg_sl ([.ref a0, .int i0, .int i1, .int i2])).length) Slot.unset).toArray = ls at hl ⊢
  have hl : lv_has ls 4 [(0, .ref a0), (1, .int i0), (2, .int i1), (3, .int i2)] := hl
  refine lv_aload_n hx hb dX6_newDrawer_0 rfl (lv_at hl 0 rfl) ?_
  refine lv_iload_n hx hb dX6_newDrawer_1 rfl (lv_at hl 1 rfl) ?_
  refine pxCx (vx_runV (As := [.int i0]) (rest := []) ⟨hx, hb, hml, hown, hts⟩ (k226_X6_requireDrawer l hl9 G s.heap.size a0 i0 ⟨by omega, by omega⟩) (cwV 1 hts (pxGV pm632 pm633 pm634 pm2 pm635) rfl rfl rfl (by decide +kernel) ⟨(Nat.le_of_ble_eq_true rfl), (Nat.le_of_ble_eq_true rfl)⟩) (pxV (ci := 5) (q0 := 0) hG hZ hP hD hS hA [] rfl (by decide) rfl rfl) rfl rfl hl.1 rfl (lv_room (Nat.le_of_ble_eq_true rfl)) dX6_newDrawer_2 ⟨(Nat.le_of_ble_eq_true rfl), (Nat.le_of_ble_eq_true rfl)⟩) hD hS hA [] rfl (fun ce q9 H locs hS hce hcv hcl => ?_)
  exact vx_out (fun x hx => (hEx x hx).elim) hlocks hce hcv hcl (fun t ht _ => ⟨rfl, hS.F ht⟩) hS.2.2 (Nat.le_of_ble_eq_true rfl) (Nat.le_of_ble_eq_true rfl)
set_option maxHeartbeats 4000000 in
set_option maxRecDepth 100000 in
theorem k226_L_newDrawer (l : Launch) (hl9 : l.stackTraces = false) (G : pxG) (sz : Nat) (a0 a1 a2 a3 a4 a5 a6 : Nat) (i0 i1 i2 : Int32) (h0 : (-2147483648 : Int) ≤ i0.toInt ∧ i0.toInt ≤ (-1)) : Met l yL_newDrawer (Cond.codeWith yL_newDrawer cL_newDrawer 6 (some .int) [(0, 12, 15, 67), (0, 12, 19, 51)] :: pxAll) ({ frames := 8, cells := 1, slots := 6, locals := 134 } : Room) (va_Pc [.ref a0, .int i0, .int i1, .int i2, .ref a1] (pxPre G [(a0, .inr (5, [.ref a2, .ref a3, .ref a4, .ref a5, .ref a6, .int 0, .int 0, .int (-1)]))] sz)) (pxQi G (fun r => r = 1) (fun q => []) (va_A [(a0, .inr (5, [.ref a2, .ref a3, .ref a4, .ref a5, .ref a6, .int 0, .int 0, .int (-1)]))] sz)) 1 6 (va_A [(a0, .inr (5, [.ref a2, .ref a3, .ref a4, .ref a5, .ref a6, .int 0, .int 0, .int (-1)]))] sz) := by
  refine va_MetW (cc := cL_newDrawer) (maxL := 6) (ret := (some .int)) (hh := [(0, 12, 15, 67), (0, 12, 19, 51)]) (by decide) rfl ?_
  intro p e s m args below meth c s₁ B hml hv
  obtain ⟨rfl, hsz, hG, hZ, hP, hD0⟩ := hv
  have hx := B.exec
  have hb := B.bytes
  have hr := B.returns
  have hts0 := atoms_spec (ws := Cond.codeWith yL_newDrawer cL_newDrawer 6 (some .int) [(0, 12, 15, 67), (0, 12, 19, 51)] :: pxAll) B.pre
  have hts : ∀ w ∈ pxAll, w.before _ s = true := fun w h => hts0 w (List.mem_cons_of_mem _ h)
  have hown : s.vm.findClass RL = some m.cls := findClass_of_methodNamed B.named
  have hlocks := B.notSynchronized
  have hTab := vx_table (x := yL_newDrawer) B (hts0 _ List.mem_cons_self)
  subst hsz
  have hK := hG.1
  have hD := hD0.self (sz := s.heap.size)
  generalize hAe : va_A [(a0, .inr (5, [.ref a2, .ref a3, .ref a4, .ref a5, .ref a6, .int 0, .int 0, .int (-1)]))] s.heap.size = A at hD hZ ⊢
  have hA : ∀ q : Nat, s.heap.size ≤ q → A q := fun q h => by rw [← hAe]; exact Or.inr h
  have hS : va_S A s.heap s.heap [] := va_S.rf
  have hl := lv_entry ([.ref a0, .int i0, .int i1, .int i2, .ref a1]) (n := 6) (Nat.le_of_ble_eq_true rfl)
  rw [lg_entry_eq]
  generalize (lg_sl ([.ref a0, .int i0, .int i1, .int i2, .ref a1]) ++ List.replicate (6 - (lg_sl ([.ref a0, .int i0, .int i1, .int i2, .ref a1])).length) Slot.unset).toArray = ls at hl ⊢
  have hl : lv_has ls 6 [(0, .ref a0), (1, .int i0), (2, .int i1), (3, .int i2), (4, .ref a1)] := hl
  refine lv_aload hx hb dL_newDrawer_0 (lv_at hl 4 rfl) ?_
  refine lv_iconst (v := 0) hx hb dL_newDrawer_2 (by decide) ?_
  refine lv_aload_n hx hb dL_newDrawer_3 rfl (lv_at hl 0 rfl) ?_
  refine lv_iload_n hx hb dL_newDrawer_4 rfl (lv_at hl 1 rfl) ?_
  refine lv_iload_n hx hb dL_newDrawer_5 rfl (lv_at hl 2 rfl) ?_
  refine lv_iload_n hx hb dL_newDrawer_6 rfl (lv_at hl 3 rfl) ?_
  refine pxCx (vx_runV (As := [.int i0, .int i1, .int i2]) (rest := [.int 0, .ref a1]) ⟨hx, hb, hml, hown, hts⟩ (k226_X6_newDrawer l hl9 G s.heap.size a0 a2 a3 a4 a5 a6 i0 i1 i2 ⟨by omega, by omega⟩) (cwV 3 hts (pxGV pm636 pm637 pm638 pm2 pm639) rfl rfl rfl (by decide +kernel) ⟨(Nat.le_of_ble_eq_true rfl), (Nat.le_of_ble_eq_true rfl)⟩) (pxV (ci := 5) (q0 := 0) hG hZ hP hD hS hA [0] rfl (by decide) rfl rfl) rfl rfl hl.1 rfl (lv_room (Nat.le_of_ble_eq_true rfl)) dL_newDrawer_7 ⟨(Nat.le_of_ble_eq_true rfl), (Nat.le_of_ble_eq_true rfl)⟩) hD hS hA [0] rfl (fun ce q9 H locs hS hce hcv hcl => ?_)
  refine vx_catch (own := RL) (name := "java/lang/IndexOutOfBoundsException") (E := "java/lang/IndexOutOfBoundsException") hown [] ⟨0, 12, 15, 67⟩ [⟨0, 12, 19, 51⟩] (by rw [hTab]; rfl) (fun z hz => nomatch hz) (by decide) (by decide) (hts _ pm437) (va_Nw.use rfl (hG.2.2.1 "java/lang/IndexOutOfBoundsException" (by simp [pxBadC]))) hce hcv hcl ?_
  have hP : va_P G.1 pxCl [] H := fun k q h => by simp at h
  have hD : va_D A [] := ⟨fun i j p q h => by simp at h, fun k q h => by simp at h⟩
  refine lv_astore (lv' := [(5, .ref q9), (0, .ref a0), (1, .int i0), (2, .int i1), (3, .int i2), (4, .ref a1)]) hx hb dL_newDrawer_15 hl (by decide) rfl (fun ls hl => ?_)
  refine lv_iconst (v := 1) hx hb dL_newDrawer_17 (by decide) ?_
  refine W.widen (k := 1) (n := 6) (Nat.le_of_ble_eq_true rfl) (Nat.le_of_ble_eq_true rfl) ?_
  exact W.iret (v := 1) hx hb hr (fun t ht hW => ⟨⟨1, (fun _ => 0), rfl, rfl, by rw [ht]; exact hP, hD⟩, hS.F ht⟩) hS.2.2 dL_newDrawer_18
set_option maxHeartbeats 4000000 in
set_option maxRecDepth 100000 in
theorem k229_X7_in (l : Launch) (G : pxG) (sz : Nat) (i0 : Int32) (h0 : (-2147483648 : Int) ≤ i0.toInt ∧ i0.toInt ≤ (-1)) : Met l yX7_in (Cond.code yX7_in cX7_in 3 (some .boolean) :: pxAll) ({ frames := 0, cells := 0, slots := 0, locals := 0 } : Room) (va_Pc [.int i0, .int 0, .int 2] (pxPre G [] sz)) (pxQi G (fun r => r = 0) (fun q => []) (va_A [] sz)) 0 0 (va_A [] sz) := by
  refine Met.ofW (cc := cX7_in) (maxL := 3) (ret := (some .boolean)) (by decide) rfl ?_
  intro p e s m args below meth c s₁ B hml hv
  obtain ⟨rfl, hsz, hG, hZ, hP, hD0⟩ := hv
  have hx := B.exec
  have hb := B.bytes
  have hr := B.returns
  have hts0 := atoms_spec (ws := Cond.code yX7_in cX7_in 3 (some .boolean) :: pxAll) B.pre
  have hts : ∀ w ∈ pxAll, w.before _ s = true := fun w h => hts0 w (List.mem_cons_of_mem _ h)
  have hown : s.vm.findClass RX7 = some m.cls := findClass_of_methodNamed B.named
  have hlocks := B.notSynchronized
  subst hsz
  have hK := hG.1
  have hD := hD0.self (sz := s.heap.size)
  generalize hAe : va_A [] s.heap.size = A at hD hZ ⊢
  have hA : ∀ q : Nat, s.heap.size ≤ q → A q := fun q h => by rw [← hAe]; exact Or.inr h
  have hS : va_S A s.heap s.heap [] := va_S.rf
  have hl := lv_entry ([.int i0, .int 0, .int 2]) (n := 3) (Nat.le_of_ble_eq_true rfl)
  rw [lg_entry_eq]
  generalize (lg_sl ([.int i0, .int 0, .int 2]) ++ List.replicate (3 - (lg_sl ([.int i0, .int 0, .int 2])).length) Slot.unset).toArray = ls at hl ⊢
  have hl : lv_has ls 3 [(0, .int i0), (1, .int 0), (2, .int 2)] := hl
  refine lv_iload_n hx hb dX7_in_0 rfl (lv_at hl 0 rfl) ?_
  refine lv_iload_n hx hb dX7_in_1 rfl (lv_at hl 1 rfl) ?_
  refine lv_icmp_lt (tgt := 14) hx hb dX7_in_2 (by decide) (fun _ => ?_) (fun h9 => absurd (pxLt 0 (by decide) (by omega)) h9)
  refine lv_iconst (v := 0) hx hb dX7_in_14 (by decide) ?_
  refine W.widen (k := 0) (n := 0) (Nat.le_of_ble_eq_true rfl) (Nat.le_of_ble_eq_true rfl) ?_
  exact W.zret (ty := .boolean) (v := 0) hx hb hr rfl (fun t ht hW => ⟨⟨0, (fun _ => 0), rfl, rfl, by rw [ht]; exact hP, hD⟩, hS.F ht⟩) hS.2.2 dX7_in_15
set_option maxHeartbeats 4000000 in
set_option maxRecDepth 100000 in
theorem k229_X7_isDrawer (l : Launch) (G : pxG) (sz : Nat) (i0 : Int32) (h0 : (-2147483648 : Int) ≤ i0.toInt ∧ i0.toInt ≤ (-1)) : Met l yX7_isDrawer (Cond.code yX7_isDrawer cX7_isDrawer 1 (some .boolean) :: pxAll) ({ frames := 1, cells := 0, slots := 0, locals := 22 } : Room) (va_Pc [.int i0] (pxPre G [] sz)) (pxQi G (fun r => r = 0) (fun q => []) (va_A [] sz)) 0 0 (va_A [] sz) := by
  refine Met.ofW (cc := cX7_isDrawer) (maxL := 1) (ret := (some .boolean)) (by decide) rfl ?_
  intro p e s m args below meth c s₁ B hml hv
  obtain ⟨rfl, hsz, hG, hZ, hP, hD0⟩ := hv
  have hx := B.exec
  have hb := B.bytes
  have hr := B.returns
  have hts0 := atoms_spec (ws := Cond.code yX7_isDrawer cX7_isDrawer 1 (some .boolean) :: pxAll) B.pre
  have hts : ∀ w ∈ pxAll, w.before _ s = true := fun w h => hts0 w (List.mem_cons_of_mem _ h)
  have hown : s.vm.findClass RX7 = some m.cls := findClass_of_methodNamed B.named
  have hlocks := B.notSynchronized
  subst hsz
  have hK := hG.1
  have hD := hD0.self (sz := s.heap.size)
  generalize hAe : va_A [] s.heap.size = A at hD hZ ⊢
  have hA : ∀ q : Nat, s.heap.size ≤ q → A q := fun q h => by rw [← hAe]; exact Or.inr h
  have hS : va_S A s.heap s.heap [] := va_S.rf
  have hl := lv_entry ([.int i0]) (n := 1) (Nat.le_of_ble_eq_true rfl)
  rw [lg_entry_eq]
  generalize (lg_sl ([.int i0]) ++ List.replicate (1 - (lg_sl ([.int i0])).length) Slot.unset).toArray = ls at hl ⊢
  have hl : lv_has ls 1 [(0, .int i0)] := hl
  refine lv_iload_n hx hb dX7_isDrawer_0 rfl (lv_at hl 0 rfl) ?_
  refine lv_iconst (v := 0) hx hb dX7_isDrawer_1 (by decide) ?_
  refine lv_iconst (v := 2) hx hb dX7_isDrawer_2 (by decide) ?_
  refine pxCi (va_runS (As := [.int i0, .int 0, .int 2]) (rest := []) ⟨hx, hb, hml, hown, hts⟩ (k229_X7_in l G s.heap.size i0 ⟨by omega, by omega⟩) (va_cwS 3 hts (pxGS pm143 pm144 pm71 pm145) rfl rfl rfl (by decide +kernel) ⟨(Nat.le_of_ble_eq_true rfl), (Nat.le_of_ble_eq_true rfl)⟩) (pxS hG hZ hP hD hS hA [] rfl (by decide)) rfl rfl hl.1 rfl (lv_room (Nat.le_of_ble_eq_true rfl)) dX7_isDrawer_3 ⟨(Nat.le_of_ble_eq_true rfl), (Nat.le_of_ble_eq_true rfl)⟩) hP hD hS hA [] [] rfl rfl (by decide) (by decide) (fun r2 q1 H locs hw hP hD hS => ?_)
  have hw : r2 = 0 := hw
  subst hw
  have hP : va_P G.1 pxCl [] H := hP
  have hD : va_D A [] := hD
  refine W.widen (k := 0) (n := 0) (Nat.le_of_ble_eq_true rfl) (Nat.le_of_ble_eq_true rfl) ?_
  exact W.zret (ty := .boolean) (v := 0) hx hb hr rfl (fun t ht hW => ⟨⟨0, (fun _ => 0), rfl, rfl, by rw [ht]; exact hP, hD⟩, hS.F ht⟩) hS.2.2 dX7_isDrawer_6
set_option maxHeartbeats 4000000 in
set_option maxRecDepth 100000 in
theorem k229_X7_newDrawer (l : Launch) (G : pxG) (sz : Nat) (a0 a1 a2 a3 a4 a5 a6 a7 a8 a9 a10 a11 : Nat) (i0 i1 i2 : Int32) (h0 : (-2147483648 : Int) ≤ i0.toInt ∧ i0.toInt ≤ (-1)) : Met l yX7_newDrawer (Cond.code yX7_newDrawer cX7_newDrawer 6 (some .int) :: pxAll) ({ frames := 2, cells := 0, slots := 0, locals := 42 } : Room) (va_Pc [.ref a0, .int i0, .int i1, .int i2] (pxPre G [(a0, .inr (6, [.ref a1, .ref a2, .ref a3, .int 0, .ref a4, .int 0, .int 0, .int 0, .int 0, .ref a5, .int 0, .ref a6, .int 0, .int 0, .int 0, .int (-1), .ref a7, .ref a8, .int 0, .ref a9, .ref a10, .ref a11]))] sz)) (pxQi G (fun r => r = 0) (fun q => [(a0, .inr (6, [.ref a1, .ref a2, .ref a3, .int 0, .ref a4, .int 0, .int 0, .int 1, .int 0, .ref a5, .int 0, .ref a6, .int 0, .int 0, .int 0, .int (-1), .ref a7, .ref a8, .int 0, .ref a9, .ref a10, .ref a11]))]) (va_A [(a0, .inr (6, [.ref a1, .ref a2, .ref a3, .int 0, .ref a4, .int 0, .int 0, .int 0, .int 0, .ref a5, .int 0, .ref a6, .int 0, .int 0, .int 0, .int (-1), .ref a7, .ref a8, .int 0, .ref a9, .ref a10, .ref a11]))] sz)) 0 0 (va_A [(a0, .inr (6, [.ref a1, .ref a2, .ref a3, .int 0, .ref a4, .int 0, .int 0, .int 0, .int 0, .ref a5, .int 0, .ref a6, .int 0, .int 0, .int 0, .int (-1), .ref a7, .ref a8, .int 0, .ref a9, .ref a10, .ref a11]))] sz) := by
  refine Met.ofW (cc := cX7_newDrawer) (maxL := 6) (ret := (some .int)) (by decide) rfl ?_
  intro p e s m args below meth c s₁ B hml hv
  obtain ⟨rfl, hsz, hG, hZ, hP, hD0⟩ := hv
  have hx := B.exec
  have hb := B.bytes
  have hr := B.returns
  have hts0 := atoms_spec (ws := Cond.code yX7_newDrawer cX7_newDrawer 6 (some .int) :: pxAll) B.pre
  have hts : ∀ w ∈ pxAll, w.before _ s = true := fun w h => hts0 w (List.mem_cons_of_mem _ h)
  have hown : s.vm.findClass RX7 = some m.cls := findClass_of_methodNamed B.named
  have hlocks := B.notSynchronized
  subst hsz
  have hK := hG.1
  have hD := hD0.self (sz := s.heap.size)
  generalize hAe : va_A [(a0, .inr (6, [.ref a1, .ref a2, .ref a3, .int 0, .ref a4, .int 0, .int 0, .int 0, .int 0, .ref a5, .int 0, .ref a6, .int 0, .int 0, .int 0, .int (-1), .ref a7, .ref a8, .int 0, .ref a9, .ref a10, .ref a11]))] s.heap.size = A at hD hZ ⊢
  have hA : ∀ q : Nat, s.heap.size ≤ q → A q := fun q h => by rw [← hAe]; exact Or.inr h
  have hS : va_S A s.heap s.heap [] := va_S.rf
  have hl := lv_entry ([.ref a0, .int i0, .int i1, .int i2]) (n := 6) (Nat.le_of_ble_eq_true rfl)
  rw [lg_entry_eq]
  generalize (lg_sl ([.ref a0, .int i0, .int i1, .int i2]) ++ List.replicate (6 - (lg_sl ([.ref a0, .int i0, .int i1, .int i2])).length) Slot.unset).toArray = ls at hl ⊢
  have hl : lv_has ls 6 [(0, .ref a0), (1, .int i0), (2, .int i1), (3, .int i2)] := hl
  refine lv_aload_n hx hb dX7_newDrawer_0 rfl (lv_at hl 0 rfl) ?_
  refine lv_iload_n hx hb dX7_newDrawer_1 rfl (lv_at hl 1 rfl) ?_
  refine pxCi (va_runS (As := [.int i0]) (rest := [.ref a0]) ⟨hx, hb, hml, hown, hts⟩ (k229_X7_isDrawer l G s.heap.size i0 ⟨by omega, by omega⟩) (va_cwS 1 hts (pxGS pm643 pm644 pm71 pm645) rfl rfl rfl (by decide +kernel) ⟨(Nat.le_of_ble_eq_true rfl), (Nat.le_of_ble_eq_true rfl)⟩) (pxS hG hZ hP hD hS hA [] rfl (by decide)) rfl rfl hl.1 rfl (lv_room (Nat.le_of_ble_eq_true rfl)) dX7_newDrawer_2 ⟨(Nat.le_of_ble_eq_true rfl), (Nat.le_of_ble_eq_true rfl)⟩) hP hD hS hA [] [0] rfl rfl (by decide) (by decide) (fun r2 q1 H locs hw hP hD hS => ?_)
  have hw : r2 = 0 := hw
  subst hw
  have hP : va_P G.1 pxCl [(a0, .inr (6, [.ref a1, .ref a2, .ref a3, .int 0, .ref a4, .int 0, .int 0, .int 0, .int 0, .ref a5, .int 0, .ref a6, .int 0, .int 0, .int 0, .int (-1), .ref a7, .ref a8, .int 0, .ref a9, .ref a10, .ref a11]))] H := hP
  have hD : va_D A [(a0, .inr (6, [.ref a1, .ref a2, .ref a3, .int 0, .ref a4, .int 0, .int 0, .int 0, .int 0, .ref a5, .int 0, .ref a6, .int 0, .int 0, .int 0, .int (-1), .ref a7, .ref a8, .int 0, .ref a9, .ref a10, .ref a11]))] := hD
  refine lv_if_ne (tgt := 12) hx hb dX7_newDrawer_5 (by decide) (fun h9 => absurd h9 (by decide)) (fun _ => ?_)
  refine lv_iconst (v := 1) hx hb dX7_newDrawer_8 (by decide) ?_
  refine lv_goto (tgt := 36) hx hb dX7_newDrawer_9 (by decide) ?_
  refine va_put (D := G.1) (ci := 6) (v := .int 1) (ty := .int) (C := RX7) (T := TX7) (N := 22) hx hb hts piX7 tyX7 tyX7_ok nmX7 hown hK hP hD hS 0 rfl rfl 7 (by decide) (hts _ pm150) (fun _ h9 => h9) rfl (by decide +kernel) rfl rfl (Nat.le_of_ble_eq_true rfl) dX7_newDrawer_36 (fun H locs hP hD hS => ?_)
  have hP : va_P G.1 pxCl [(a0, .inr (6, [.ref a1, .ref a2, .ref a3, .int 0, .ref a4, .int 0, .int 0, .int 1, .int 0, .ref a5, .int 0, .ref a6, .int 0, .int 0, .int 0, .int (-1), .ref a7, .ref a8, .int 0, .ref a9, .ref a10, .ref a11]))] H := hP
  have hD : va_D A [(a0, .inr (6, [.ref a1, .ref a2, .ref a3, .int 0, .ref a4, .int 0, .int 0, .int 1, .int 0, .ref a5, .int 0, .ref a6, .int 0, .int 0, .int 0, .int (-1), .ref a7, .ref a8, .int 0, .ref a9, .ref a10, .ref a11]))] := hD
  refine lv_aload_n hx hb dX7_newDrawer_39 rfl (lv_at hl 0 rfl) ?_
  refine va_get (D := G.1) (ci := 6) (v := .int 1) (C := RX7) (T := TX7) (N := 22) hx hb hts piX7 hown hK hP 0 rfl rfl 7 (by decide) (hts _ pm150) (fun _ h9 => h9) rfl dX7_newDrawer_40 ?_
  refine lv_if_le (tgt := 48) hx hb dX7_newDrawer_43 (by decide) (fun h9 => absurd h9 (by decide)) (fun _ => ?_)
  refine lv_iconst (v := 0) hx hb dX7_newDrawer_46 (by decide) ?_
  refine W.widen (k := 0) (n := 0) (Nat.le_of_ble_eq_true rfl) (Nat.le_of_ble_eq_true rfl) ?_
  exact W.iret (v := 0) hx hb hr (fun t ht hW => ⟨⟨0, (fun _ => 0), rfl, rfl, by rw [ht]; exact hP, hD⟩, hS.F ht⟩) hS.2.2 dX7_newDrawer_47
set_option maxHeartbeats 4000000 in
set_option maxRecDepth 100000 in
theorem k232_X6_requireDrawer (l : Launch) (G : pxG) (sz : Nat) (a0 : Nat) (i0 : Int32) (h0 : 0 ≤ i0.toInt ∧ i0.toInt ≤ 2) : Met l yX6_requireDrawer (Cond.code yX6_requireDrawer cX6_requireDrawer 2 none :: pxAll) ({ frames := 0, cells := 0, slots := 0, locals := 0 } : Room) (va_Pc [.ref a0, .int i0] (pxPre G [] sz)) (pxQv G (fun q => []) (va_A [] sz)) 0 0 (va_A [] sz) := by
  refine Met.ofW (cc := cX6_requireDrawer) (maxL := 2) (ret := none) (by decide) rfl ?_
  intro p e s m args below meth c s₁ B hml hv
  obtain ⟨rfl, hsz, hG, hZ, hP, hD0⟩ := hv
  have hx := B.exec
  have hb := B.bytes
  have hr := B.returns
  have hts0 := atoms_spec (ws := Cond.code yX6_requireDrawer cX6_requireDrawer 2 none :: pxAll) B.pre
  have hts : ∀ w ∈ pxAll, w.before _ s = true := fun w h => hts0 w (List.mem_cons_of_mem _ h)
  have hown : s.vm.findClass RX6 = some m.cls := findClass_of_methodNamed B.named
  have hlocks := B.notSynchronized
  subst hsz
  have hK := hG.1
  have hD := hD0.self (sz := s.heap.size)
  generalize hAe : va_A [] s.heap.size = A at hD hZ ⊢
  have hA : ∀ q : Nat, s.heap.size ≤ q → A q := fun q h => by rw [← hAe]; exact Or.inr h
  have hS : va_S A s.heap s.heap [] := va_S.rf
  have hl := lv_entry ([.ref a0, .int i0]) (n := 2) (Nat.le_of_ble_eq_true rfl)
  rw [lg_entry_eq]
  generalize (lg_sl ([.ref a0, .int i0]) ++ List.replicate (2 - (lg_sl ([.ref a0, .int i0])).length) Slot.unset).toArray = ls at hl ⊢
  have hl : lv_has ls 2 [(0, .ref a0), (1, .int i0)] := hl
  refine lv_iload_n hx hb dX6_requireDrawer_0 rfl (lv_at hl 1 rfl) ?_
  refine lv_if_lt (tgt := 9) hx hb dX6_requireDrawer_1 (by decide) (fun h9 => absurd h9 (pxNlt 0 (by decide) (by omega))) (fun _ => ?_)
  refine lv_iload_n hx hb dX6_requireDrawer_4 rfl (lv_at hl 1 rfl) ?_
  refine lv_iconst (v := 3) hx hb dX6_requireDrawer_5 (by decide) ?_
  refine lv_icmp_lt (tgt := 20) hx hb dX6_requireDrawer_6 (by decide) (fun _ => ?_) (fun h9 => absurd (pxLt 3 (by decide) (by omega)) h9)
  refine W.widen (k := 0) (n := 0) (Nat.le_of_ble_eq_true rfl) (Nat.le_of_ble_eq_true rfl) ?_
  exact W.vret hx hb hr (fun t ht hW => ⟨⟨(fun _ => 0), rfl, trivial, by rw [ht]; exact hP, hD⟩, hS.F ht⟩) hS.2.2 dX6_requireDrawer_20
set_option maxHeartbeats 4000000 in
set_option maxRecDepth 100000 in
theorem k233_X6_isSort (l : Launch) (G : pxG) (sz : Nat) (i0 : Int32) (h0 : (-2147483648 : Int) ≤ i0.toInt ∧ i0.toInt ≤ (-1)) : Met l yX6_isSort (Cond.code yX6_isSort cX6_isSort 1 (some .boolean) :: pxAll) ({ frames := 0, cells := 0, slots := 0, locals := 0 } : Room) (va_Pc [.int i0] (pxPre G [] sz)) (pxQi G (fun r => r = 0) (fun q => []) (va_A [] sz)) 0 0 (va_A [] sz) := by
  refine Met.ofW (cc := cX6_isSort) (maxL := 1) (ret := (some .boolean)) (by decide) rfl ?_
  intro p e s m args below meth c s₁ B hml hv
  obtain ⟨rfl, hsz, hG, hZ, hP, hD0⟩ := hv
  have hx := B.exec
  have hb := B.bytes
  have hr := B.returns
  have hts0 := atoms_spec (ws := Cond.code yX6_isSort cX6_isSort 1 (some .boolean) :: pxAll) B.pre
  have hts : ∀ w ∈ pxAll, w.before _ s = true := fun w h => hts0 w (List.mem_cons_of_mem _ h)
  have hown : s.vm.findClass RX6 = some m.cls := findClass_of_methodNamed B.named
  have hlocks := B.notSynchronized
  subst hsz
  have hK := hG.1
  have hD := hD0.self (sz := s.heap.size)
  generalize hAe : va_A [] s.heap.size = A at hD hZ ⊢
  have hA : ∀ q : Nat, s.heap.size ≤ q → A q := fun q h => by rw [← hAe]; exact Or.inr h
  have hS : va_S A s.heap s.heap [] := va_S.rf
  have hl := lv_entry ([.int i0]) (n := 1) (Nat.le_of_ble_eq_true rfl)
  rw [lg_entry_eq]
  generalize (lg_sl ([.int i0]) ++ List.replicate (1 - (lg_sl ([.int i0])).length) Slot.unset).toArray = ls at hl ⊢
  have hl : lv_has ls 1 [(0, .int i0)] := hl
  refine lv_iload_n hx hb dX6_isSort_0 rfl (lv_at hl 0 rfl) ?_
  refine lv_if_eq (tgt := 9) hx hb dX6_isSort_1 (by decide) (fun h9 => absurd h9 (pxNe 0 (by decide) (by omega))) (fun _ => ?_)
  refine lv_iload_n hx hb dX6_isSort_4 rfl (lv_at hl 0 rfl) ?_
  refine lv_iconst (v := 1) hx hb dX6_isSort_5 (by decide) ?_
  refine lv_icmp_ne (tgt := 13) hx hb dX6_isSort_6 (by decide) (fun _ => ?_) (fun h9 => absurd h9 (pxNe 1 (by decide) (by omega)))
  refine lv_iconst (v := 0) hx hb dX6_isSort_13 (by decide) ?_
  refine W.widen (k := 0) (n := 0) (Nat.le_of_ble_eq_true rfl) (Nat.le_of_ble_eq_true rfl) ?_
  exact W.zret (ty := .boolean) (v := 0) hx hb hr rfl (fun t ht hW => ⟨⟨0, (fun _ => 0), rfl, rfl, by rw [ht]; exact hP, hD⟩, hS.F ht⟩) hS.2.2 dX6_isSort_14
set_option maxHeartbeats 4000000 in
set_option maxRecDepth 100000 in
theorem k232_X6_newDrawer (l : Launch) (hl9 : l.stackTraces = false) (G : pxG) (sz : Nat) (a0 a1 a2 a3 a4 a5 : Nat) (i0 i1 i2 : Int32) (h0 : 0 ≤ i0.toInt ∧ i0.toInt ≤ 2) (h1 : (-2147483648 : Int) ≤ i1.toInt ∧ i1.toInt ≤ (-1)) : vx_Met l yX6_newDrawer (Cond.code yX6_newDrawer cX6_newDrawer 4 (some .int) :: pxAll) ({ frames := 6, cells := 1, slots := 6, locals := 90 } : Room) (va_Pc [.ref a0, .int i0, .int i1, .int i2] (pxPre G [(a0, .inr (5, [.ref a1, .ref a2, .ref a3, .ref a4, .ref a5, .int 0, .int 0, .int (-1)]))] sz)) pxF (pxXC "java/lang/IllegalArgumentException" (va_A [(a0, .inr (5, [.ref a1, .ref a2, .ref a3, .ref a4, .ref a5, .int 0, .int 0, .int (-1)]))] sz)) 1 6 (va_A [(a0, .inr (5, [.ref a1, .ref a2, .ref a3, .ref a4, .ref a5, .int 0, .int 0, .int (-1)]))] sz) := by
  refine vx_ofW (cc := cX6_newDrawer) (maxL := 4) (ret := (some .int)) (by decide) rfl ?_
  intro p e s m args below meth c s₁ B hml hEx hv
  obtain ⟨rfl, hsz, hG, hZ, hP, hD0⟩ := hv
  have hx := B.exec
  have hb := B.bytes
  have hr := B.returns
  have hts0 := atoms_spec (ws := Cond.code yX6_newDrawer cX6_newDrawer 4 (some .int) :: pxAll) B.pre
  have hts : ∀ w ∈ pxAll, w.before _ s = true := fun w h => hts0 w (List.mem_cons_of_mem _ h)
  have hown : s.vm.findClass RX6 = some m.cls := findClass_of_methodNamed B.named
  have hlocks := B.notSynchronized
  subst hsz
  have hK := hG.1
  have hD := hD0.self (sz := s.heap.size)
  generalize hAe : va_A [(a0, .inr (5, [.ref a1, .ref a2, .ref a3, .ref a4, .ref a5, .int 0, .int 0, .int (-1)]))] s.heap.size = A at hD hZ ⊢
  have hA : ∀ q : Nat, s.heap.size ≤ q → A q := fun q h => by rw [← hAe]; exact Or.inr h
  have hS : va_S A s.heap s.heap [] := va_S.rf
  have hl := lv_entry ([.ref a0, .int i0, .int i1, .int i2]) (n := 4) (Nat.le_of_ble_eq_true rfl)
  rw [lg_entry_eq]
  generalize (lg_sl ([.ref a0, .int i0, .int i1, .int i2]) ++ List.replicate (4 - (lg_sl ([.ref a0, .int i0, .int i1, .int i2])).length) Slot.unset).toArray = ls at hl ⊢
  have hl : lv_has ls 4 [(0, .ref a0), (1, .int i0), (2, .int i1), (3, .int i2)] := hl
  refine lv_aload_n hx hb dX6_newDrawer_0 rfl (lv_at hl 0 rfl) ?_
  refine lv_iload_n hx hb dX6_newDrawer_1 rfl (lv_at hl 1 rfl) ?_
  refine pxCv (va_runV (As := [.int i0]) (rest := []) ⟨hx, hb, hml, hown, hts⟩ (k232_X6_requireDrawer l G s.heap.size a0 i0 ⟨by omega, by omega⟩) (cwV 1 hts (pxGV pm632 pm633 pm634 pm2 pm635) rfl rfl rfl (by decide +kernel) ⟨(Nat.le_of_ble_eq_true rfl), (Nat.le_of_ble_eq_true rfl)⟩) (pxV (ci := 5) (q0 := 0) hG hZ hP hD hS hA [] rfl (by decide) rfl rfl) rfl rfl hl.1 rfl (lv_room (Nat.le_of_ble_eq_true rfl)) dX6_newDrawer_2 ⟨(Nat.le_of_ble_eq_true rfl), (Nat.le_of_ble_eq_true rfl)⟩) hP hD hS hA [] [0] rfl rfl (by decide) (by decide) (fun q1 H locs hP hD hS => ?_)
  have hP : va_P G.1 pxCl [(a0, .inr (5, [.ref a1, .ref a2, .ref a3, .ref a4, .ref a5, .int 0, .int 0, .int (-1)]))] H := hP
  have hD : va_D A [(a0, .inr (5, [.ref a1, .ref a2, .ref a3, .ref a4, .ref a5, .int 0, .int 0, .int (-1)]))] := hD
  refine lv_iload_n hx hb dX6_newDrawer_5 rfl (lv_at hl 2 rfl) ?_
  refine pxCi (va_runS (As := [.int i1]) (rest := []) ⟨hx, hb, hml, hown, hts⟩ (k233_X6_isSort l G H.size i1 ⟨by omega, by omega⟩) (va_cwS 1 hts (pxGS pm650 pm651 pm2 pm652) rfl rfl rfl (by decide +kernel) ⟨(Nat.le_of_ble_eq_true rfl), (Nat.le_of_ble_eq_true rfl)⟩) (pxS hG hZ hP hD hS hA [] rfl (by decide)) rfl rfl hl.1 rfl (lv_room (Nat.le_of_ble_eq_true rfl)) dX6_newDrawer_6 ⟨(Nat.le_of_ble_eq_true rfl), (Nat.le_of_ble_eq_true rfl)⟩) hP hD hS hA [] [0] rfl rfl (by decide) (by decide) (fun r4 q3 H locs hw hP hD hS => ?_)
  have hw : r4 = 0 := hw
  subst hw
  have hP : va_P G.1 pxCl [(a0, .inr (5, [.ref a1, .ref a2, .ref a3, .ref a4, .ref a5, .int 0, .int 0, .int (-1)]))] H := hP
  have hD : va_D A [(a0, .inr (5, [.ref a1, .ref a2, .ref a3, .ref a4, .ref a5, .int 0, .int 0, .int (-1)]))] := hD
  refine lv_if_eq (tgt := 23) hx hb dX6_newDrawer_9 (by decide) (fun _ => ?_) (fun h9 => absurd (by decide) h9)
  exact vx_throwSW (own := RX6) (cls := "java/lang/IllegalArgumentException") (names := ["java/lang/RuntimeException", "java/lang/Exception"]) hx hb hl9 hown (by decide +kernel) (by decide +kernel) (hts _ pm591) (hts _ pm592) (hG.2.2.2.2.1 9 _ rfl) (pxThr (own := RX6) (ic := 109) (by simp [pxBadC]) hts hG wsL_law_x3 pxh_x3) pxg_x3 hZ.1 hZ.2 hS (hl.1.trans hml.symm) dX6_newDrawer_23 dX6_newDrawer_26 dX6_newDrawer_27 dX6_newDrawer_30 dX6_newDrawer_33 (fun x hx => (hEx x hx).elim) (Nat.le_of_ble_eq_true rfl) (Nat.le_of_ble_eq_true rfl) (Nat.le_of_ble_eq_true rfl) (Nat.le_of_ble_eq_true rfl) hlocks (pxXe hS) hS.2.2 (Nat.le_of_ble_eq_true rfl) (Nat.le_of_ble_eq_true rfl)
set_option maxHeartbeats 4000000 in
set_option maxRecDepth 100000 in
theorem k232_L_newDrawer (l : Launch) (hl9 : l.stackTraces = false) (G : pxG) (sz : Nat) (a0 a1 a2 a3 a4 a5 a6 : Nat) (i0 i1 i2 : Int32) (h0 : 0 ≤ i0.toInt ∧ i0.toInt ≤ 2) (h1 : (-2147483648 : Int) ≤ i1.toInt ∧ i1.toInt ≤ (-1)) : Met l yL_newDrawer (Cond.codeWith yL_newDrawer cL_newDrawer 6 (some .int) [(0, 12, 15, 67), (0, 12, 19, 51)] :: pxAll) ({ frames := 7, cells := 1, slots := 6, locals := 113 } : Room) (va_Pc [.ref a0, .int i0, .int i1, .int i2, .ref a1] (pxPre G [(a0, .inr (5, [.ref a2, .ref a3, .ref a4, .ref a5, .ref a6, .int 0, .int 0, .int (-1)]))] sz)) (pxQi G (fun r => r = 2) (fun q => []) (va_A [(a0, .inr (5, [.ref a2, .ref a3, .ref a4, .ref a5, .ref a6, .int 0, .int 0, .int (-1)]))] sz)) 1 6 (va_A [(a0, .inr (5, [.ref a2, .ref a3, .ref a4, .ref a5, .ref a6, .int 0, .int 0, .int (-1)]))] sz) := by
  refine va_MetW (cc := cL_newDrawer) (maxL := 6) (ret := (some .int)) (hh := [(0, 12, 15, 67), (0, 12, 19, 51)]) (by decide) rfl ?_
  intro p e s m args below meth c s₁ B hml hv
  obtain ⟨rfl, hsz, hG, hZ, hP, hD0⟩ := hv
  have hx := B.exec
  have hb := B.bytes
  have hr := B.returns
  have hts0 := atoms_spec (ws := Cond.codeWith yL_newDrawer cL_newDrawer 6 (some .int) [(0, 12, 15, 67), (0, 12, 19, 51)] :: pxAll) B.pre
  have hts : ∀ w ∈ pxAll, w.before _ s = true := fun w h => hts0 w (List.mem_cons_of_mem _ h)
  have hown : s.vm.findClass RL = some m.cls := findClass_of_methodNamed B.named
  have hlocks := B.notSynchronized
  have hTab := vx_table (x := yL_newDrawer) B (hts0 _ List.mem_cons_self)
  subst hsz
  have hK := hG.1
  have hD := hD0.self (sz := s.heap.size)
  generalize hAe : va_A [(a0, .inr (5, [.ref a2, .ref a3, .ref a4, .ref a5, .ref a6, .int 0, .int 0, .int (-1)]))] s.heap.size = A at hD hZ ⊢
  have hA : ∀ q : Nat, s.heap.size ≤ q → A q := fun q h => by rw [← hAe]; exact Or.inr h
  have hS : va_S A s.heap s.heap [] := va_S.rf
  have hl := lv_entry ([.ref a0, .int i0, .int i1, .int i2, .ref a1]) (n := 6) (Nat.le_of_ble_eq_true rfl)
  rw [lg_entry_eq]
  generalize (lg_sl ([.ref a0, .int i0, .int i1, .int i2, .ref a1]) ++ List.replicate (6 - (lg_sl ([.ref a0, .int i0, .int i1, .int i2, .ref a1])).length) Slot.unset).toArray = ls at hl ⊢
  have hl : lv_has ls 6 [(0, .ref a0), (1, .int i0), (2, .int i1), (3, .int i2), (4, .ref a1)] := hl
  refine lv_aload hx hb dL_newDrawer_0 (lv_at hl 4 rfl) ?_
  refine lv_iconst (v := 0) hx hb dL_newDrawer_2 (by decide) ?_
  refine lv_aload_n hx hb dL_newDrawer_3 rfl (lv_at hl 0 rfl) ?_
  refine lv_iload_n hx hb dL_newDrawer_4 rfl (lv_at hl 1 rfl) ?_
  refine lv_iload_n hx hb dL_newDrawer_5 rfl (lv_at hl 2 rfl) ?_
  refine lv_iload_n hx hb dL_newDrawer_6 rfl (lv_at hl 3 rfl) ?_
  refine pxCx (vx_runV (As := [.int i0, .int i1, .int i2]) (rest := [.int 0, .ref a1]) ⟨hx, hb, hml, hown, hts⟩ (k232_X6_newDrawer l hl9 G s.heap.size a0 a2 a3 a4 a5 a6 i0 i1 i2 ⟨by omega, by omega⟩ ⟨by omega, by omega⟩) (cwV 3 hts (pxGV pm636 pm637 pm638 pm2 pm639) rfl rfl rfl (by decide +kernel) ⟨(Nat.le_of_ble_eq_true rfl), (Nat.le_of_ble_eq_true rfl)⟩) (pxV (ci := 5) (q0 := 0) hG hZ hP hD hS hA [0] rfl (by decide) rfl rfl) rfl rfl hl.1 rfl (lv_room (Nat.le_of_ble_eq_true rfl)) dL_newDrawer_7 ⟨(Nat.le_of_ble_eq_true rfl), (Nat.le_of_ble_eq_true rfl)⟩) hD hS hA [0] rfl (fun ce q9 H locs hS hce hcv hcl => ?_)
  refine vx_catch (own := RL) (name := "java/lang/IllegalArgumentException") (E := "java/lang/IllegalArgumentException") hown [⟨0, 12, 15, 67⟩] ⟨0, 12, 19, 51⟩ [] (by rw [hTab]; rfl) (by intro z hz; rcases List.mem_cons.mp hz with rfl | hz; exact Or.inr ⟨by decide, "java/lang/IndexOutOfBoundsException", hts _ pm437, hG.2.2.2.2.2.1 ("java/lang/IllegalArgumentException", "java/lang/IndexOutOfBoundsException") (by simp [pxNc])⟩; cases hz) (by decide) (by decide) (hts _ pm597) (va_Nw.use rfl (hG.2.2.1 "java/lang/IllegalArgumentException" (by simp [pxBadC]))) hce hcv hcl ?_
  have hP : va_P G.1 pxCl [] H := fun k q h => by simp at h
  have hD : va_D A [] := ⟨fun i j p q h => by simp at h, fun k q h => by simp at h⟩
  refine lv_astore (lv' := [(5, .ref q9), (0, .ref a0), (1, .int i0), (2, .int i1), (3, .int i2), (4, .ref a1)]) hx hb dL_newDrawer_19 hl (by decide) rfl (fun ls hl => ?_)
  refine lv_iconst (v := 2) hx hb dL_newDrawer_21 (by decide) ?_
  refine W.widen (k := 1) (n := 6) (Nat.le_of_ble_eq_true rfl) (Nat.le_of_ble_eq_true rfl) ?_
  exact W.iret (v := 2) hx hb hr (fun t ht hW => ⟨⟨2, (fun _ => 0), rfl, rfl, by rw [ht]; exact hP, hD⟩, hS.F ht⟩) hS.2.2 dL_newDrawer_22
set_option maxHeartbeats 4000000 in
set_option maxRecDepth 100000 in
theorem k236_X7_in (l : Launch) (G : pxG) (sz : Nat) (i0 : Int32) (h0 : 0 ≤ i0.toInt ∧ i0.toInt ≤ 2) : Met l yX7_in (Cond.code yX7_in cX7_in 3 (some .boolean) :: pxAll) ({ frames := 0, cells := 0, slots := 0, locals := 0 } : Room) (va_Pc [.int i0, .int 0, .int 2] (pxPre G [] sz)) (pxQi G (fun r => r = 1) (fun q => []) (va_A [] sz)) 0 0 (va_A [] sz) := by
  refine Met.ofW (cc := cX7_in) (maxL := 3) (ret := (some .boolean)) (by decide) rfl ?_
  intro p e s m args below meth c s₁ B hml hv
  obtain ⟨rfl, hsz, hG, hZ, hP, hD0⟩ := hv
  have hx := B.exec
  have hb := B.bytes
  have hr := B.returns
  have hts0 := atoms_spec (ws := Cond.code yX7_in cX7_in 3 (some .boolean) :: pxAll) B.pre
  have hts : ∀ w ∈ pxAll, w.before _ s = true := fun w h => hts0 w (List.mem_cons_of_mem _ h)
  have hown : s.vm.findClass RX7 = some m.cls := findClass_of_methodNamed B.named
  have hlocks := B.notSynchronized
  subst hsz
  have hK := hG.1
  have hD := hD0.self (sz := s.heap.size)
  generalize hAe : va_A [] s.heap.size = A at hD hZ ⊢
  have hA : ∀ q : Nat, s.heap.size ≤ q → A q := fun q h => by rw [← hAe]; exact Or.inr h
  have hS : va_S A s.heap s.heap [] := va_S.rf
  have hl := lv_entry ([.int i0, .int 0, .int 2]) (n := 3) (Nat.le_of_ble_eq_true rfl)
  rw [lg_entry_eq]
  generalize (lg_sl ([.int i0, .int 0, .int 2]) ++ List.replicate (3 - (lg_sl ([.int i0, .int 0, .int 2])).length) Slot.unset).toArray = ls at hl ⊢
  have hl : lv_has ls 3 [(0, .int i0), (1, .int 0), (2, .int 2)] := hl
  refine lv_iload_n hx hb dX7_in_0 rfl (lv_at hl 0 rfl) ?_
  refine lv_iload_n hx hb dX7_in_1 rfl (lv_at hl 1 rfl) ?_
  refine lv_icmp_lt (tgt := 14) hx hb dX7_in_2 (by decide) (fun h9 => absurd h9 (pxNlt 0 (by decide) (by omega))) (fun _ => ?_)
  refine lv_iload_n hx hb dX7_in_5 rfl (lv_at hl 0 rfl) ?_
  refine lv_iload_n hx hb dX7_in_6 rfl (lv_at hl 2 rfl) ?_
  refine lv_icmp_gt (tgt := 14) hx hb dX7_in_7 (by decide) (fun h9 => absurd h9 (pxNlt2 2 (by decide) (by omega))) (fun _ => ?_)
  refine lv_iconst (v := 1) hx hb dX7_in_10 (by decide) ?_
  refine lv_goto (tgt := 15) hx hb dX7_in_11 (by decide) ?_
  refine W.widen (k := 0) (n := 0) (Nat.le_of_ble_eq_true rfl) (Nat.le_of_ble_eq_true rfl) ?_
  exact W.zret (ty := .boolean) (v := 1) hx hb hr rfl (fun t ht hW => ⟨⟨1, (fun _ => 0), rfl, rfl, by rw [ht]; exact hP, hD⟩, hS.F ht⟩) hS.2.2 dX7_in_15
set_option maxHeartbeats 4000000 in
set_option maxRecDepth 100000 in
theorem k236_X7_isDrawer (l : Launch) (G : pxG) (sz : Nat) (i0 : Int32) (h0 : 0 ≤ i0.toInt ∧ i0.toInt ≤ 2) : Met l yX7_isDrawer (Cond.code yX7_isDrawer cX7_isDrawer 1 (some .boolean) :: pxAll) ({ frames := 1, cells := 0, slots := 0, locals := 22 } : Room) (va_Pc [.int i0] (pxPre G [] sz)) (pxQi G (fun r => r = 1) (fun q => []) (va_A [] sz)) 0 0 (va_A [] sz) := by
  refine Met.ofW (cc := cX7_isDrawer) (maxL := 1) (ret := (some .boolean)) (by decide) rfl ?_
  intro p e s m args below meth c s₁ B hml hv
  obtain ⟨rfl, hsz, hG, hZ, hP, hD0⟩ := hv
  have hx := B.exec
  have hb := B.bytes
  have hr := B.returns
  have hts0 := atoms_spec (ws := Cond.code yX7_isDrawer cX7_isDrawer 1 (some .boolean) :: pxAll) B.pre
  have hts : ∀ w ∈ pxAll, w.before _ s = true := fun w h => hts0 w (List.mem_cons_of_mem _ h)
  have hown : s.vm.findClass RX7 = some m.cls := findClass_of_methodNamed B.named
  have hlocks := B.notSynchronized
  subst hsz
  have hK := hG.1
  have hD := hD0.self (sz := s.heap.size)
  generalize hAe : va_A [] s.heap.size = A at hD hZ ⊢
  have hA : ∀ q : Nat, s.heap.size ≤ q → A q := fun q h => by rw [← hAe]; exact Or.inr h
  have hS : va_S A s.heap s.heap [] := va_S.rf
  have hl := lv_entry ([.int i0]) (n := 1) (Nat.le_of_ble_eq_true rfl)
  rw [lg_entry_eq]
  generalize (lg_sl ([.int i0]) ++ List.replicate (1 - (lg_sl ([.int i0])).length) Slot.unset).toArray = ls at hl ⊢
  have hl : lv_has ls 1 [(0, .int i0)] := hl
  refine lv_iload_n hx hb dX7_isDrawer_0 rfl (lv_at hl 0 rfl) ?_
  refine lv_iconst (v := 0) hx hb dX7_isDrawer_1 (by decide) ?_
  refine lv_iconst (v := 2) hx hb dX7_isDrawer_2 (by decide) ?_
  refine pxCi (va_runS (As := [.int i0, .int 0, .int 2]) (rest := []) ⟨hx, hb, hml, hown, hts⟩ (k236_X7_in l G s.heap.size i0 ⟨by omega, by omega⟩) (va_cwS 3 hts (pxGS pm143 pm144 pm71 pm145) rfl rfl rfl (by decide +kernel) ⟨(Nat.le_of_ble_eq_true rfl), (Nat.le_of_ble_eq_true rfl)⟩) (pxS hG hZ hP hD hS hA [] rfl (by decide)) rfl rfl hl.1 rfl (lv_room (Nat.le_of_ble_eq_true rfl)) dX7_isDrawer_3 ⟨(Nat.le_of_ble_eq_true rfl), (Nat.le_of_ble_eq_true rfl)⟩) hP hD hS hA [] [] rfl rfl (by decide) (by decide) (fun r2 q1 H locs hw hP hD hS => ?_)
  have hw : r2 = 1 := hw
  subst hw
  have hP : va_P G.1 pxCl [] H := hP
  have hD : va_D A [] := hD
  refine W.widen (k := 0) (n := 0) (Nat.le_of_ble_eq_true rfl) (Nat.le_of_ble_eq_true rfl) ?_
  exact W.zret (ty := .boolean) (v := 1) hx hb hr rfl (fun t ht hW => ⟨⟨1, (fun _ => 0), rfl, rfl, by rw [ht]; exact hP, hD⟩, hS.F ht⟩) hS.2.2 dX7_isDrawer_6
set_option maxHeartbeats 4000000 in
set_option maxRecDepth 100000 in
theorem k238_X7_in (l : Launch) (G : pxG) (sz : Nat) (i0 : Int32) (h0 : (-2147483648 : Int) ≤ i0.toInt ∧ i0.toInt ≤ (-1)) : Met l yX7_in (Cond.code yX7_in cX7_in 3 (some .boolean) :: pxAll) ({ frames := 0, cells := 0, slots := 0, locals := 0 } : Room) (va_Pc [.int i0, .int 0, .int 1] (pxPre G [] sz)) (pxQi G (fun r => r = 0) (fun q => []) (va_A [] sz)) 0 0 (va_A [] sz) := by
  refine Met.ofW (cc := cX7_in) (maxL := 3) (ret := (some .boolean)) (by decide) rfl ?_
  intro p e s m args below meth c s₁ B hml hv
  obtain ⟨rfl, hsz, hG, hZ, hP, hD0⟩ := hv
  have hx := B.exec
  have hb := B.bytes
  have hr := B.returns
  have hts0 := atoms_spec (ws := Cond.code yX7_in cX7_in 3 (some .boolean) :: pxAll) B.pre
  have hts : ∀ w ∈ pxAll, w.before _ s = true := fun w h => hts0 w (List.mem_cons_of_mem _ h)
  have hown : s.vm.findClass RX7 = some m.cls := findClass_of_methodNamed B.named
  have hlocks := B.notSynchronized
  subst hsz
  have hK := hG.1
  have hD := hD0.self (sz := s.heap.size)
  generalize hAe : va_A [] s.heap.size = A at hD hZ ⊢
  have hA : ∀ q : Nat, s.heap.size ≤ q → A q := fun q h => by rw [← hAe]; exact Or.inr h
  have hS : va_S A s.heap s.heap [] := va_S.rf
  have hl := lv_entry ([.int i0, .int 0, .int 1]) (n := 3) (Nat.le_of_ble_eq_true rfl)
  rw [lg_entry_eq]
  generalize (lg_sl ([.int i0, .int 0, .int 1]) ++ List.replicate (3 - (lg_sl ([.int i0, .int 0, .int 1])).length) Slot.unset).toArray = ls at hl ⊢
  have hl : lv_has ls 3 [(0, .int i0), (1, .int 0), (2, .int 1)] := hl
  refine lv_iload_n hx hb dX7_in_0 rfl (lv_at hl 0 rfl) ?_
  refine lv_iload_n hx hb dX7_in_1 rfl (lv_at hl 1 rfl) ?_
  refine lv_icmp_lt (tgt := 14) hx hb dX7_in_2 (by decide) (fun _ => ?_) (fun h9 => absurd (pxLt 0 (by decide) (by omega)) h9)
  refine lv_iconst (v := 0) hx hb dX7_in_14 (by decide) ?_
  refine W.widen (k := 0) (n := 0) (Nat.le_of_ble_eq_true rfl) (Nat.le_of_ble_eq_true rfl) ?_
  exact W.zret (ty := .boolean) (v := 0) hx hb hr rfl (fun t ht hW => ⟨⟨0, (fun _ => 0), rfl, rfl, by rw [ht]; exact hP, hD⟩, hS.F ht⟩) hS.2.2 dX7_in_15
set_option maxHeartbeats 4000000 in
set_option maxRecDepth 100000 in
theorem k236_X7_newDrawer (l : Launch) (G : pxG) (sz : Nat) (a0 a1 a2 a3 a4 a5 a6 a7 a8 a9 a10 a11 : Nat) (i0 i1 i2 : Int32) (h0 : 0 ≤ i0.toInt ∧ i0.toInt ≤ 2) (h1 : (-2147483648 : Int) ≤ i1.toInt ∧ i1.toInt ≤ (-1)) : Met l yX7_newDrawer (Cond.code yX7_newDrawer cX7_newDrawer 6 (some .int) :: pxAll) ({ frames := 2, cells := 0, slots := 0, locals := 42 } : Room) (va_Pc [.ref a0, .int i0, .int i1, .int i2] (pxPre G [(a0, .inr (6, [.ref a1, .ref a2, .ref a3, .int 0, .ref a4, .int 0, .int 0, .int 0, .int 0, .ref a5, .int 0, .ref a6, .int 0, .int 0, .int 0, .int (-1), .ref a7, .ref a8, .int 0, .ref a9, .ref a10, .ref a11]))] sz)) (pxQi G (fun r => r = 0) (fun q => [(a0, .inr (6, [.ref a1, .ref a2, .ref a3, .int 0, .ref a4, .int 0, .int 0, .int 2, .int 0, .ref a5, .int 0, .ref a6, .int 0, .int 0, .int 0, .int (-1), .ref a7, .ref a8, .int 0, .ref a9, .ref a10, .ref a11]))]) (va_A [(a0, .inr (6, [.ref a1, .ref a2, .ref a3, .int 0, .ref a4, .int 0, .int 0, .int 0, .int 0, .ref a5, .int 0, .ref a6, .int 0, .int 0, .int 0, .int (-1), .ref a7, .ref a8, .int 0, .ref a9, .ref a10, .ref a11]))] sz)) 0 0 (va_A [(a0, .inr (6, [.ref a1, .ref a2, .ref a3, .int 0, .ref a4, .int 0, .int 0, .int 0, .int 0, .ref a5, .int 0, .ref a6, .int 0, .int 0, .int 0, .int (-1), .ref a7, .ref a8, .int 0, .ref a9, .ref a10, .ref a11]))] sz) := by
  refine Met.ofW (cc := cX7_newDrawer) (maxL := 6) (ret := (some .int)) (by decide) rfl ?_
  intro p e s m args below meth c s₁ B hml hv
  obtain ⟨rfl, hsz, hG, hZ, hP, hD0⟩ := hv
  have hx := B.exec
  have hb := B.bytes
  have hr := B.returns
  have hts0 := atoms_spec (ws := Cond.code yX7_newDrawer cX7_newDrawer 6 (some .int) :: pxAll) B.pre
  have hts : ∀ w ∈ pxAll, w.before _ s = true := fun w h => hts0 w (List.mem_cons_of_mem _ h)
  have hown : s.vm.findClass RX7 = some m.cls := findClass_of_methodNamed B.named
  have hlocks := B.notSynchronized
  subst hsz
  have hK := hG.1
  have hD := hD0.self (sz := s.heap.size)
  generalize hAe : va_A [(a0, .inr (6, [.ref a1, .ref a2, .ref a3, .int 0, .ref a4, .int 0, .int 0, .int 0, .int 0, .ref a5, .int 0, .ref a6, .int 0, .int 0, .int 0, .int (-1), .ref a7, .ref a8, .int 0, .ref a9, .ref a10, .ref a11]))] s.heap.size = A at hD hZ ⊢
  have hA : ∀ q : Nat, s.heap.size ≤ q → A q := fun q h => by rw [← hAe]; exact Or.inr h
  have hS : va_S A s.heap s.heap [] := va_S.rf
  have hl := lv_entry ([.ref a0, .int i0, .int i1, .int i2]) (n := 6) (Nat.le_of_ble_eq_true rfl)
  rw [lg_entry_eq]
  generalize (lg_sl ([.ref a0, .int i0, .int i1, .int i2]) ++ List.replicate (6 - (lg_sl ([.ref a0, .int i0, .int i1, .int i2])).length) Slot.unset).toArray = ls at hl ⊢
  have hl : lv_has ls 6 [(0, .ref a0), (1, .int i0), (2, .int i1), (3, .int i2)] := hl
  refine lv_aload_n hx hb dX7_newDrawer_0 rfl (lv_at hl 0 rfl) ?_
  refine lv_iload_n hx hb dX7_newDrawer_1 rfl (lv_at hl 1 rfl) ?_
  refine pxCi (va_runS (As := [.int i0]) (rest := [.ref a0]) ⟨hx, hb, hml, hown, hts⟩ (k236_X7_isDrawer l G s.heap.size i0 ⟨by omega, by omega⟩) (va_cwS 1 hts (pxGS pm643 pm644 pm71 pm645) rfl rfl rfl (by decide +kernel) ⟨(Nat.le_of_ble_eq_true rfl), (Nat.le_of_ble_eq_true rfl)⟩) (pxS hG hZ hP hD hS hA [] rfl (by decide)) rfl rfl hl.1 rfl (lv_room (Nat.le_of_ble_eq_true rfl)) dX7_newDrawer_2 ⟨(Nat.le_of_ble_eq_true rfl), (Nat.le_of_ble_eq_true rfl)⟩) hP hD hS hA [] [0] rfl rfl (by decide) (by decide) (fun r2 q1 H locs hw hP hD hS => ?_)
  have hw : r2 = 1 := hw
  subst hw
  have hP : va_P G.1 pxCl [(a0, .inr (6, [.ref a1, .ref a2, .ref a3, .int 0, .ref a4, .int 0, .int 0, .int 0, .int 0, .ref a5, .int 0, .ref a6, .int 0, .int 0, .int 0, .int (-1), .ref a7, .ref a8, .int 0, .ref a9, .ref a10, .ref a11]))] H := hP
  have hD : va_D A [(a0, .inr (6, [.ref a1, .ref a2, .ref a3, .int 0, .ref a4, .int 0, .int 0, .int 0, .int 0, .ref a5, .int 0, .ref a6, .int 0, .int 0, .int 0, .int (-1), .ref a7, .ref a8, .int 0, .ref a9, .ref a10, .ref a11]))] := hD
  refine lv_if_ne (tgt := 12) hx hb dX7_newDrawer_5 (by decide) (fun _ => ?_) (fun h9 => absurd h9 (by decide))
  refine lv_iload_n hx hb dX7_newDrawer_12 rfl (lv_at hl 2 rfl) ?_
  refine lv_iconst (v := 0) hx hb dX7_newDrawer_13 (by decide) ?_
  refine lv_iconst (v := 1) hx hb dX7_newDrawer_14 (by decide) ?_
  refine pxCi (va_runS (As := [.int i1, .int 0, .int 1]) (rest := [.ref a0]) ⟨hx, hb, hml, hown, hts⟩ (k238_X7_in l G H.size i1 ⟨by omega, by omega⟩) (va_cwS 3 hts (pxGS pm143 pm144 pm71 pm145) rfl rfl rfl (by decide +kernel) ⟨(Nat.le_of_ble_eq_true rfl), (Nat.le_of_ble_eq_true rfl)⟩) (pxS hG hZ hP hD hS hA [] rfl (by decide)) rfl rfl hl.1 rfl (lv_room (Nat.le_of_ble_eq_true rfl)) dX7_newDrawer_15 ⟨(Nat.le_of_ble_eq_true rfl), (Nat.le_of_ble_eq_true rfl)⟩) hP hD hS hA [] [0] rfl rfl (by decide) (by decide) (fun r4 q3 H locs hw hP hD hS => ?_)
  have hw : r4 = 0 := hw
  subst hw
  have hP : va_P G.1 pxCl [(a0, .inr (6, [.ref a1, .ref a2, .ref a3, .int 0, .ref a4, .int 0, .int 0, .int 0, .int 0, .ref a5, .int 0, .ref a6, .int 0, .int 0, .int 0, .int (-1), .ref a7, .ref a8, .int 0, .ref a9, .ref a10, .ref a11]))] H := hP
  have hD : va_D A [(a0, .inr (6, [.ref a1, .ref a2, .ref a3, .int 0, .ref a4, .int 0, .int 0, .int 0, .int 0, .ref a5, .int 0, .ref a6, .int 0, .int 0, .int 0, .int (-1), .ref a7, .ref a8, .int 0, .ref a9, .ref a10, .ref a11]))] := hD
  refine lv_if_eq (tgt := 31) hx hb dX7_newDrawer_18 (by decide) (fun _ => ?_) (fun h9 => absurd (by decide) h9)
  refine lv_iconst (v := 2) hx hb dX7_newDrawer_31 (by decide) ?_
  refine lv_goto (tgt := 36) hx hb dX7_newDrawer_32 (by decide) ?_
  refine va_put (D := G.1) (ci := 6) (v := .int 2) (ty := .int) (C := RX7) (T := TX7) (N := 22) hx hb hts piX7 tyX7 tyX7_ok nmX7 hown hK hP hD hS 0 rfl rfl 7 (by decide) (hts _ pm150) (fun _ h9 => h9) rfl (by decide +kernel) rfl rfl (Nat.le_of_ble_eq_true rfl) dX7_newDrawer_36 (fun H locs hP hD hS => ?_)
  have hP : va_P G.1 pxCl [(a0, .inr (6, [.ref a1, .ref a2, .ref a3, .int 0, .ref a4, .int 0, .int 0, .int 2, .int 0, .ref a5, .int 0, .ref a6, .int 0, .int 0, .int 0, .int (-1), .ref a7, .ref a8, .int 0, .ref a9, .ref a10, .ref a11]))] H := hP
  have hD : va_D A [(a0, .inr (6, [.ref a1, .ref a2, .ref a3, .int 0, .ref a4, .int 0, .int 0, .int 2, .int 0, .ref a5, .int 0, .ref a6, .int 0, .int 0, .int 0, .int (-1), .ref a7, .ref a8, .int 0, .ref a9, .ref a10, .ref a11]))] := hD
  refine lv_aload_n hx hb dX7_newDrawer_39 rfl (lv_at hl 0 rfl) ?_
  refine va_get (D := G.1) (ci := 6) (v := .int 2) (C := RX7) (T := TX7) (N := 22) hx hb hts piX7 hown hK hP 0 rfl rfl 7 (by decide) (hts _ pm150) (fun _ h9 => h9) rfl dX7_newDrawer_40 ?_
  refine lv_if_le (tgt := 48) hx hb dX7_newDrawer_43 (by decide) (fun h9 => absurd h9 (by decide)) (fun _ => ?_)
  refine lv_iconst (v := 0) hx hb dX7_newDrawer_46 (by decide) ?_
  refine W.widen (k := 0) (n := 0) (Nat.le_of_ble_eq_true rfl) (Nat.le_of_ble_eq_true rfl) ?_
  exact W.iret (v := 0) hx hb hr (fun t ht hW => ⟨⟨0, (fun _ => 0), rfl, rfl, by rw [ht]; exact hP, hD⟩, hS.F ht⟩) hS.2.2 dX7_newDrawer_47
set_option maxHeartbeats 4000000 in
set_option maxRecDepth 100000 in
theorem k240_X7_thrown (l : Launch) (G : pxG) (sz : Nat) (a0 a1 a2 a3 a4 a5 a6 a7 a8 a9 a10 a11 : Nat) : Met l yX7_thrown (Cond.code yX7_thrown cX7_thrown 1 (some .int) :: pxAll) ({ frames := 0, cells := 0, slots := 0, locals := 0 } : Room) (va_Pc [.ref a0] (pxPre G [(a0, .inr (6, [.ref a1, .ref a2, .ref a3, .int 0, .ref a4, .int 0, .int 0, .int 2, .int 0, .ref a5, .int 0, .ref a6, .int 0, .int 0, .int 0, .int (-1), .ref a7, .ref a8, .int 0, .ref a9, .ref a10, .ref a11]))] sz)) (pxQi G (fun r => r = 2) (fun q => [(a0, .inr (6, [.ref a1, .ref a2, .ref a3, .int 0, .ref a4, .int 0, .int 0, .int 2, .int 0, .ref a5, .int 0, .ref a6, .int 0, .int 0, .int 0, .int (-1), .ref a7, .ref a8, .int 0, .ref a9, .ref a10, .ref a11]))]) (va_A [(a0, .inr (6, [.ref a1, .ref a2, .ref a3, .int 0, .ref a4, .int 0, .int 0, .int 2, .int 0, .ref a5, .int 0, .ref a6, .int 0, .int 0, .int 0, .int (-1), .ref a7, .ref a8, .int 0, .ref a9, .ref a10, .ref a11]))] sz)) 0 0 (va_A [(a0, .inr (6, [.ref a1, .ref a2, .ref a3, .int 0, .ref a4, .int 0, .int 0, .int 2, .int 0, .ref a5, .int 0, .ref a6, .int 0, .int 0, .int 0, .int (-1), .ref a7, .ref a8, .int 0, .ref a9, .ref a10, .ref a11]))] sz) := by
  refine Met.ofW (cc := cX7_thrown) (maxL := 1) (ret := (some .int)) (by decide) rfl ?_
  intro p e s m args below meth c s₁ B hml hv
  obtain ⟨rfl, hsz, hG, hZ, hP, hD0⟩ := hv
  have hx := B.exec
  have hb := B.bytes
  have hr := B.returns
  have hts0 := atoms_spec (ws := Cond.code yX7_thrown cX7_thrown 1 (some .int) :: pxAll) B.pre
  have hts : ∀ w ∈ pxAll, w.before _ s = true := fun w h => hts0 w (List.mem_cons_of_mem _ h)
  have hown : s.vm.findClass RX7 = some m.cls := findClass_of_methodNamed B.named
  have hlocks := B.notSynchronized
  subst hsz
  have hK := hG.1
  have hD := hD0.self (sz := s.heap.size)
  generalize hAe : va_A [(a0, .inr (6, [.ref a1, .ref a2, .ref a3, .int 0, .ref a4, .int 0, .int 0, .int 2, .int 0, .ref a5, .int 0, .ref a6, .int 0, .int 0, .int 0, .int (-1), .ref a7, .ref a8, .int 0, .ref a9, .ref a10, .ref a11]))] s.heap.size = A at hD hZ ⊢
  have hA : ∀ q : Nat, s.heap.size ≤ q → A q := fun q h => by rw [← hAe]; exact Or.inr h
  have hS : va_S A s.heap s.heap [] := va_S.rf
  have hl := lv_entry ([.ref a0]) (n := 1) (Nat.le_of_ble_eq_true rfl)
  rw [lg_entry_eq]
  generalize (lg_sl ([.ref a0]) ++ List.replicate (1 - (lg_sl ([.ref a0])).length) Slot.unset).toArray = ls at hl ⊢
  have hl : lv_has ls 1 [(0, .ref a0)] := hl
  refine lv_aload_n hx hb dX7_thrown_0 rfl (lv_at hl 0 rfl) ?_
  refine va_get (D := G.1) (ci := 6) (v := .int 2) (C := RX7) (T := TX7) (N := 22) hx hb hts piX7 hown hK hP 0 rfl rfl 7 (by decide) (hts _ pm150) (fun _ h9 => h9) rfl dX7_thrown_1 ?_
  refine W.widen (k := 0) (n := 0) (Nat.le_of_ble_eq_true rfl) (Nat.le_of_ble_eq_true rfl) ?_
  exact W.iret (v := 2) hx hb hr (fun t ht hW => ⟨⟨2, (fun _ => 0), rfl, rfl, by rw [ht]; exact hP, hD⟩, hS.F ht⟩) hS.2.2 dX7_thrown_4
set_option maxHeartbeats 4000000 in
set_option maxRecDepth 100000 in
theorem k241_X6_isSort (l : Launch) (G : pxG) (sz : Nat) : Met l yX6_isSort (Cond.code yX6_isSort cX6_isSort 1 (some .boolean) :: pxAll) ({ frames := 0, cells := 0, slots := 0, locals := 0 } : Room) (va_Pc [.int 0] (pxPre G [] sz)) (pxQi G (fun r => r = 1) (fun q => []) (va_A [] sz)) 0 0 (va_A [] sz) := by
  refine Met.ofW (cc := cX6_isSort) (maxL := 1) (ret := (some .boolean)) (by decide) rfl ?_
  intro p e s m args below meth c s₁ B hml hv
  obtain ⟨rfl, hsz, hG, hZ, hP, hD0⟩ := hv
  have hx := B.exec
  have hb := B.bytes
  have hr := B.returns
  have hts0 := atoms_spec (ws := Cond.code yX6_isSort cX6_isSort 1 (some .boolean) :: pxAll) B.pre
  have hts : ∀ w ∈ pxAll, w.before _ s = true := fun w h => hts0 w (List.mem_cons_of_mem _ h)
  have hown : s.vm.findClass RX6 = some m.cls := findClass_of_methodNamed B.named
  have hlocks := B.notSynchronized
  subst hsz
  have hK := hG.1
  have hD := hD0.self (sz := s.heap.size)
  generalize hAe : va_A [] s.heap.size = A at hD hZ ⊢
  have hA : ∀ q : Nat, s.heap.size ≤ q → A q := fun q h => by rw [← hAe]; exact Or.inr h
  have hS : va_S A s.heap s.heap [] := va_S.rf
  have hl := lv_entry ([.int 0]) (n := 1) (Nat.le_of_ble_eq_true rfl)
  rw [lg_entry_eq]
  generalize (lg_sl ([.int 0]) ++ List.replicate (1 - (lg_sl ([.int 0])).length) Slot.unset).toArray = ls at hl ⊢
  have hl : lv_has ls 1 [(0, .int 0)] := hl
  refine lv_iload_n hx hb dX6_isSort_0 rfl (lv_at hl 0 rfl) ?_
  refine lv_if_eq (tgt := 9) hx hb dX6_isSort_1 (by decide) (fun _ => ?_) (fun h9 => absurd (by decide) h9)
  refine lv_iconst (v := 1) hx hb dX6_isSort_9 (by decide) ?_
  refine lv_goto (tgt := 14) hx hb dX6_isSort_10 (by decide) ?_
  refine W.widen (k := 0) (n := 0) (Nat.le_of_ble_eq_true rfl) (Nat.le_of_ble_eq_true rfl) ?_
  exact W.zret (ty := .boolean) (v := 1) hx hb hr rfl (fun t ht hW => ⟨⟨1, (fun _ => 0), rfl, rfl, by rw [ht]; exact hP, hD⟩, hS.F ht⟩) hS.2.2 dX6_isSort_14
set_option maxHeartbeats 4000000 in
set_option maxRecDepth 100000 in
theorem k241_X6_newDrawer (l : Launch) (hl9 : l.stackTraces = false) (G : pxG) (sz : Nat) (a0 a1 a2 a3 a4 a5 : Nat) (i0 i1 : Int32) (h0 : 0 ≤ i0.toInt ∧ i0.toInt ≤ 2) (h1 : (-2147483648 : Int) ≤ i1.toInt ∧ i1.toInt ≤ 0) : vx_Met l yX6_newDrawer (Cond.code yX6_newDrawer cX6_newDrawer 4 (some .int) :: pxAll) ({ frames := 6, cells := 1, slots := 6, locals := 90 } : Room) (va_Pc [.ref a0, .int i0, .int 0, .int i1] (pxPre G [(a0, .inr (5, [.ref a1, .ref a2, .ref a3, .ref a4, .ref a5, .int 0, .int 0, .int (-1)]))] sz)) pxF (pxXC "java/lang/IllegalArgumentException" (va_A [(a0, .inr (5, [.ref a1, .ref a2, .ref a3, .ref a4, .ref a5, .int 0, .int 0, .int (-1)]))] sz)) 1 6 (va_A [(a0, .inr (5, [.ref a1, .ref a2, .ref a3, .ref a4, .ref a5, .int 0, .int 0, .int (-1)]))] sz) := by
  refine vx_ofW (cc := cX6_newDrawer) (maxL := 4) (ret := (some .int)) (by decide) rfl ?_
  intro p e s m args below meth c s₁ B hml hEx hv
  obtain ⟨rfl, hsz, hG, hZ, hP, hD0⟩ := hv
  have hx := B.exec
  have hb := B.bytes
  have hr := B.returns
  have hts0 := atoms_spec (ws := Cond.code yX6_newDrawer cX6_newDrawer 4 (some .int) :: pxAll) B.pre
  have hts : ∀ w ∈ pxAll, w.before _ s = true := fun w h => hts0 w (List.mem_cons_of_mem _ h)
  have hown : s.vm.findClass RX6 = some m.cls := findClass_of_methodNamed B.named
  have hlocks := B.notSynchronized
  subst hsz
  have hK := hG.1
  have hD := hD0.self (sz := s.heap.size)
  generalize hAe : va_A [(a0, .inr (5, [.ref a1, .ref a2, .ref a3, .ref a4, .ref a5, .int 0, .int 0, .int (-1)]))] s.heap.size = A at hD hZ ⊢
  have hA : ∀ q : Nat, s.heap.size ≤ q → A q := fun q h => by rw [← hAe]; exact Or.inr h
  have hS : va_S A s.heap s.heap [] := va_S.rf
  have hl := lv_entry ([.ref a0, .int i0, .int 0, .int i1]) (n := 4) (Nat.le_of_ble_eq_true rfl)
  rw [lg_entry_eq]
  generalize (lg_sl ([.ref a0, .int i0, .int 0, .int i1]) ++ List.replicate (4 - (lg_sl ([.ref a0, .int i0, .int 0, .int i1])).length) Slot.unset).toArray = ls at hl ⊢
  have hl : lv_has ls 4 [(0, .ref a0), (1, .int i0), (2, .int 0), (3, .int i1)] := hl
  refine lv_aload_n hx hb dX6_newDrawer_0 rfl (lv_at hl 0 rfl) ?_
  refine lv_iload_n hx hb dX6_newDrawer_1 rfl (lv_at hl 1 rfl) ?_
  refine pxCv (va_runV (As := [.int i0]) (rest := []) ⟨hx, hb, hml, hown, hts⟩ (k232_X6_requireDrawer l G s.heap.size a0 i0 ⟨by omega, by omega⟩) (cwV 1 hts (pxGV pm632 pm633 pm634 pm2 pm635) rfl rfl rfl (by decide +kernel) ⟨(Nat.le_of_ble_eq_true rfl), (Nat.le_of_ble_eq_true rfl)⟩) (pxV (ci := 5) (q0 := 0) hG hZ hP hD hS hA [] rfl (by decide) rfl rfl) rfl rfl hl.1 rfl (lv_room (Nat.le_of_ble_eq_true rfl)) dX6_newDrawer_2 ⟨(Nat.le_of_ble_eq_true rfl), (Nat.le_of_ble_eq_true rfl)⟩) hP hD hS hA [] [0] rfl rfl (by decide) (by decide) (fun q1 H locs hP hD hS => ?_)
  have hP : va_P G.1 pxCl [(a0, .inr (5, [.ref a1, .ref a2, .ref a3, .ref a4, .ref a5, .int 0, .int 0, .int (-1)]))] H := hP
  have hD : va_D A [(a0, .inr (5, [.ref a1, .ref a2, .ref a3, .ref a4, .ref a5, .int 0, .int 0, .int (-1)]))] := hD
  refine lv_iload_n hx hb dX6_newDrawer_5 rfl (lv_at hl 2 rfl) ?_
  refine pxCi (va_runS (As := [.int 0]) (rest := []) ⟨hx, hb, hml, hown, hts⟩ (k241_X6_isSort l G H.size) (va_cwS 1 hts (pxGS pm650 pm651 pm2 pm652) rfl rfl rfl (by decide +kernel) ⟨(Nat.le_of_ble_eq_true rfl), (Nat.le_of_ble_eq_true rfl)⟩) (pxS hG hZ hP hD hS hA [] rfl (by decide)) rfl rfl hl.1 rfl (lv_room (Nat.le_of_ble_eq_true rfl)) dX6_newDrawer_6 ⟨(Nat.le_of_ble_eq_true rfl), (Nat.le_of_ble_eq_true rfl)⟩) hP hD hS hA [] [0] rfl rfl (by decide) (by decide) (fun r4 q3 H locs hw hP hD hS => ?_)
  have hw : r4 = 1 := hw
  subst hw
  have hP : va_P G.1 pxCl [(a0, .inr (5, [.ref a1, .ref a2, .ref a3, .ref a4, .ref a5, .int 0, .int 0, .int (-1)]))] H := hP
  have hD : va_D A [(a0, .inr (5, [.ref a1, .ref a2, .ref a3, .ref a4, .ref a5, .int 0, .int 0, .int (-1)]))] := hD
  refine lv_if_eq (tgt := 23) hx hb dX6_newDrawer_9 (by decide) (fun h9 => absurd h9 (by decide)) (fun _ => ?_)
  refine lv_iload_n hx hb dX6_newDrawer_12 rfl (lv_at hl 3 rfl) ?_
  refine lv_iconst (v := 1) hx hb dX6_newDrawer_13 (by decide) ?_
  refine lv_icmp_lt (tgt := 23) hx hb dX6_newDrawer_14 (by decide) (fun _ => ?_) (fun h9 => absurd (pxLt 1 (by decide) (by omega)) h9)
  exact vx_throwSW (own := RX6) (cls := "java/lang/IllegalArgumentException") (names := ["java/lang/RuntimeException", "java/lang/Exception"]) hx hb hl9 hown (by decide +kernel) (by decide +kernel) (hts _ pm591) (hts _ pm592) (hG.2.2.2.2.1 9 _ rfl) (pxThr (own := RX6) (ic := 109) (by simp [pxBadC]) hts hG wsL_law_x3 pxh_x3) pxg_x3 hZ.1 hZ.2 hS (hl.1.trans hml.symm) dX6_newDrawer_23 dX6_newDrawer_26 dX6_newDrawer_27 dX6_newDrawer_30 dX6_newDrawer_33 (fun x hx => (hEx x hx).elim) (Nat.le_of_ble_eq_true rfl) (Nat.le_of_ble_eq_true rfl) (Nat.le_of_ble_eq_true rfl) (Nat.le_of_ble_eq_true rfl) hlocks (pxXe hS) hS.2.2 (Nat.le_of_ble_eq_true rfl) (Nat.le_of_ble_eq_true rfl)
set_option maxHeartbeats 4000000 in
set_option maxRecDepth 100000 in
theorem k241_L_newDrawer (l : Launch) (hl9 : l.stackTraces = false) (G : pxG) (sz : Nat) (a0 a1 a2 a3 a4 a5 a6 : Nat) (i0 i1 : Int32) (h0 : 0 ≤ i0.toInt ∧ i0.toInt ≤ 2) (h1 : (-2147483648 : Int) ≤ i1.toInt ∧ i1.toInt ≤ 0) : Met l yL_newDrawer (Cond.codeWith yL_newDrawer cL_newDrawer 6 (some .int) [(0, 12, 15, 67), (0, 12, 19, 51)] :: pxAll) ({ frames := 7, cells := 1, slots := 6, locals := 113 } : Room) (va_Pc [.ref a0, .int i0, .int 0, .int i1, .ref a1] (pxPre G [(a0, .inr (5, [.ref a2, .ref a3, .ref a4, .ref a5, .ref a6, .int 0, .int 0, .int (-1)]))] sz)) (pxQi G (fun r => r = 2) (fun q => []) (va_A [(a0, .inr (5, [.ref a2, .ref a3, .ref a4, .ref a5, .ref a6, .int 0, .int 0, .int (-1)]))] sz)) 1 6 (va_A [(a0, .inr (5, [.ref a2, .ref a3, .ref a4, .ref a5, .ref a6, .int 0, .int 0, .int (-1)]))] sz) := by
  refine va_MetW (cc := cL_newDrawer) (maxL := 6) (ret := (some .int)) (hh := [(0, 12, 15, 67), (0, 12, 19, 51)]) (by decide) rfl ?_
  intro p e s m args below meth c s₁ B hml hv
  obtain ⟨rfl, hsz, hG, hZ, hP, hD0⟩ := hv
  have hx := B.exec
  have hb := B.bytes
  have hr := B.returns
  have hts0 := atoms_spec (ws := Cond.codeWith yL_newDrawer cL_newDrawer 6 (some .int) [(0, 12, 15, 67), (0, 12, 19, 51)] :: pxAll) B.pre
  have hts : ∀ w ∈ pxAll, w.before _ s = true := fun w h => hts0 w (List.mem_cons_of_mem _ h)
  have hown : s.vm.findClass RL = some m.cls := findClass_of_methodNamed B.named
  have hlocks := B.notSynchronized
  have hTab := vx_table (x := yL_newDrawer) B (hts0 _ List.mem_cons_self)
  subst hsz
  have hK := hG.1
  have hD := hD0.self (sz := s.heap.size)
  generalize hAe : va_A [(a0, .inr (5, [.ref a2, .ref a3, .ref a4, .ref a5, .ref a6, .int 0, .int 0, .int (-1)]))] s.heap.size = A at hD hZ ⊢
  have hA : ∀ q : Nat, s.heap.size ≤ q → A q := fun q h => by rw [← hAe]; exact Or.inr h
  have hS : va_S A s.heap s.heap [] := va_S.rf
  have hl := lv_entry ([.ref a0, .int i0, .int 0, .int i1, .ref a1]) (n := 6) (Nat.le_of_ble_eq_true rfl)
  rw [lg_entry_eq]
  generalize (lg_sl ([.ref a0, .int i0, .int 0, .int i1, .ref a1]) ++ List.replicate (6 - (lg_sl ([.ref a0, .int i0, .int 0, .int i1, .ref a1])).length) Slot.unset).toArray = ls at hl ⊢
  have hl : lv_has ls 6 [(0, .ref a0), (1, .int i0), (2, .int 0), (3, .int i1), (4, .ref a1)] := hl
  refine lv_aload hx hb dL_newDrawer_0 (lv_at hl 4 rfl) ?_
  refine lv_iconst (v := 0) hx hb dL_newDrawer_2 (by decide) ?_
  refine lv_aload_n hx hb dL_newDrawer_3 rfl (lv_at hl 0 rfl) ?_
  refine lv_iload_n hx hb dL_newDrawer_4 rfl (lv_at hl 1 rfl) ?_
  refine lv_iload_n hx hb dL_newDrawer_5 rfl (lv_at hl 2 rfl) ?_
  refine lv_iload_n hx hb dL_newDrawer_6 rfl (lv_at hl 3 rfl) ?_
  refine pxCx (vx_runV (As := [.int i0, .int 0, .int i1]) (rest := [.int 0, .ref a1]) ⟨hx, hb, hml, hown, hts⟩ (k241_X6_newDrawer l hl9 G s.heap.size a0 a2 a3 a4 a5 a6 i0 i1 ⟨by omega, by omega⟩ ⟨by omega, by omega⟩) (cwV 3 hts (pxGV pm636 pm637 pm638 pm2 pm639) rfl rfl rfl (by decide +kernel) ⟨(Nat.le_of_ble_eq_true rfl), (Nat.le_of_ble_eq_true rfl)⟩) (pxV (ci := 5) (q0 := 0) hG hZ hP hD hS hA [0] rfl (by decide) rfl rfl) rfl rfl hl.1 rfl (lv_room (Nat.le_of_ble_eq_true rfl)) dL_newDrawer_7 ⟨(Nat.le_of_ble_eq_true rfl), (Nat.le_of_ble_eq_true rfl)⟩) hD hS hA [0] rfl (fun ce q9 H locs hS hce hcv hcl => ?_)
  refine vx_catch (own := RL) (name := "java/lang/IllegalArgumentException") (E := "java/lang/IllegalArgumentException") hown [⟨0, 12, 15, 67⟩] ⟨0, 12, 19, 51⟩ [] (by rw [hTab]; rfl) (by intro z hz; rcases List.mem_cons.mp hz with rfl | hz; exact Or.inr ⟨by decide, "java/lang/IndexOutOfBoundsException", hts _ pm437, hG.2.2.2.2.2.1 ("java/lang/IllegalArgumentException", "java/lang/IndexOutOfBoundsException") (by simp [pxNc])⟩; cases hz) (by decide) (by decide) (hts _ pm597) (va_Nw.use rfl (hG.2.2.1 "java/lang/IllegalArgumentException" (by simp [pxBadC]))) hce hcv hcl ?_
  have hP : va_P G.1 pxCl [] H := fun k q h => by simp at h
  have hD : va_D A [] := ⟨fun i j p q h => by simp at h, fun k q h => by simp at h⟩
  refine lv_astore (lv' := [(5, .ref q9), (0, .ref a0), (1, .int i0), (2, .int 0), (3, .int i1), (4, .ref a1)]) hx hb dL_newDrawer_19 hl (by decide) rfl (fun ls hl => ?_)
  refine lv_iconst (v := 2) hx hb dL_newDrawer_21 (by decide) ?_
  refine W.widen (k := 1) (n := 6) (Nat.le_of_ble_eq_true rfl) (Nat.le_of_ble_eq_true rfl) ?_
  exact W.iret (v := 2) hx hb hr (fun t ht hW => ⟨⟨2, (fun _ => 0), rfl, rfl, by rw [ht]; exact hP, hD⟩, hS.F ht⟩) hS.2.2 dL_newDrawer_22
set_option maxHeartbeats 4000000 in
set_option maxRecDepth 100000 in
theorem k244_X7_in (l : Launch) (G : pxG) (sz : Nat) : Met l yX7_in (Cond.code yX7_in cX7_in 3 (some .boolean) :: pxAll) ({ frames := 0, cells := 0, slots := 0, locals := 0 } : Room) (va_Pc [.int 0, .int 0, .int 1] (pxPre G [] sz)) (pxQi G (fun r => r = 1) (fun q => []) (va_A [] sz)) 0 0 (va_A [] sz) := by
  refine Met.ofW (cc := cX7_in) (maxL := 3) (ret := (some .boolean)) (by decide) rfl ?_
  intro p e s m args below meth c s₁ B hml hv
  obtain ⟨rfl, hsz, hG, hZ, hP, hD0⟩ := hv
  have hx := B.exec
  have hb := B.bytes
  have hr := B.returns
  have hts0 := atoms_spec (ws := Cond.code yX7_in cX7_in 3 (some .boolean) :: pxAll) B.pre
  have hts : ∀ w ∈ pxAll, w.before _ s = true := fun w h => hts0 w (List.mem_cons_of_mem _ h)
  have hown : s.vm.findClass RX7 = some m.cls := findClass_of_methodNamed B.named
  have hlocks := B.notSynchronized
  subst hsz
  have hK := hG.1
  have hD := hD0.self (sz := s.heap.size)
  generalize hAe : va_A [] s.heap.size = A at hD hZ ⊢
  have hA : ∀ q : Nat, s.heap.size ≤ q → A q := fun q h => by rw [← hAe]; exact Or.inr h
  have hS : va_S A s.heap s.heap [] := va_S.rf
  have hl := lv_entry ([.int 0, .int 0, .int 1]) (n := 3) (Nat.le_of_ble_eq_true rfl)
  rw [lg_entry_eq]
  generalize (lg_sl ([.int 0, .int 0, .int 1]) ++ List.replicate (3 - (lg_sl ([.int 0, .int 0, .int 1])).length) Slot.unset).toArray = ls at hl ⊢
  have hl : lv_has ls 3 [(0, .int 0), (1, .int 0), (2, .int 1)] := hl
  refine lv_iload_n hx hb dX7_in_0 rfl (lv_at hl 0 rfl) ?_
  refine lv_iload_n hx hb dX7_in_1 rfl (lv_at hl 1 rfl) ?_
  refine lv_icmp_lt (tgt := 14) hx hb dX7_in_2 (by decide) (fun h9 => absurd h9 (by decide)) (fun _ => ?_)
  refine lv_iload_n hx hb dX7_in_5 rfl (lv_at hl 0 rfl) ?_
  refine lv_iload_n hx hb dX7_in_6 rfl (lv_at hl 2 rfl) ?_
  refine lv_icmp_gt (tgt := 14) hx hb dX7_in_7 (by decide) (fun h9 => absurd h9 (by decide)) (fun _ => ?_)
  refine lv_iconst (v := 1) hx hb dX7_in_10 (by decide) ?_
  refine lv_goto (tgt := 15) hx hb dX7_in_11 (by decide) ?_
  refine W.widen (k := 0) (n := 0) (Nat.le_of_ble_eq_true rfl) (Nat.le_of_ble_eq_true rfl) ?_
  exact W.zret (ty := .boolean) (v := 1) hx hb hr rfl (fun t ht hW => ⟨⟨1, (fun _ => 0), rfl, rfl, by rw [ht]; exact hP, hD⟩, hS.F ht⟩) hS.2.2 dX7_in_15
set_option maxHeartbeats 4000000 in
set_option maxRecDepth 100000 in
theorem k245_X7_in (l : Launch) (G : pxG) (sz : Nat) (i0 : Int32) (h0 : (-2147483648 : Int) ≤ i0.toInt ∧ i0.toInt ≤ 0) : Met l yX7_in (Cond.code yX7_in cX7_in 3 (some .boolean) :: pxAll) ({ frames := 0, cells := 0, slots := 0, locals := 0 } : Room) (va_Pc [.int i0, .int 1, .int 6] (pxPre G [] sz)) (pxQi G (fun r => r = 0) (fun q => []) (va_A [] sz)) 0 0 (va_A [] sz) := by
  refine Met.ofW (cc := cX7_in) (maxL := 3) (ret := (some .boolean)) (by decide) rfl ?_
  intro p e s m args below meth c s₁ B hml hv
  obtain ⟨rfl, hsz, hG, hZ, hP, hD0⟩ := hv
  have hx := B.exec
  have hb := B.bytes
  have hr := B.returns
  have hts0 := atoms_spec (ws := Cond.code yX7_in cX7_in 3 (some .boolean) :: pxAll) B.pre
  have hts : ∀ w ∈ pxAll, w.before _ s = true := fun w h => hts0 w (List.mem_cons_of_mem _ h)
  have hown : s.vm.findClass RX7 = some m.cls := findClass_of_methodNamed B.named
  have hlocks := B.notSynchronized
  subst hsz
  have hK := hG.1
  have hD := hD0.self (sz := s.heap.size)
  generalize hAe : va_A [] s.heap.size = A at hD hZ ⊢
  have hA : ∀ q : Nat, s.heap.size ≤ q → A q := fun q h => by rw [← hAe]; exact Or.inr h
  have hS : va_S A s.heap s.heap [] := va_S.rf
  have hl := lv_entry ([.int i0, .int 1, .int 6]) (n := 3) (Nat.le_of_ble_eq_true rfl)
  rw [lg_entry_eq]
  generalize (lg_sl ([.int i0, .int 1, .int 6]) ++ List.replicate (3 - (lg_sl ([.int i0, .int 1, .int 6])).length) Slot.unset).toArray = ls at hl ⊢
  have hl : lv_has ls 3 [(0, .int i0), (1, .int 1), (2, .int 6)] := hl
  refine lv_iload_n hx hb dX7_in_0 rfl (lv_at hl 0 rfl) ?_
  refine lv_iload_n hx hb dX7_in_1 rfl (lv_at hl 1 rfl) ?_
  refine lv_icmp_lt (tgt := 14) hx hb dX7_in_2 (by decide) (fun _ => ?_) (fun h9 => absurd (pxLt 1 (by decide) (by omega)) h9)
  refine lv_iconst (v := 0) hx hb dX7_in_14 (by decide) ?_
  refine W.widen (k := 0) (n := 0) (Nat.le_of_ble_eq_true rfl) (Nat.le_of_ble_eq_true rfl) ?_
  exact W.zret (ty := .boolean) (v := 0) hx hb hr rfl (fun t ht hW => ⟨⟨0, (fun _ => 0), rfl, rfl, by rw [ht]; exact hP, hD⟩, hS.F ht⟩) hS.2.2 dX7_in_15
set_option maxHeartbeats 4000000 in
set_option maxRecDepth 100000 in
theorem k244_X7_newDrawer (l : Launch) (G : pxG) (sz : Nat) (a0 a1 a2 a3 a4 a5 a6 a7 a8 a9 a10 a11 : Nat) (i0 i1 : Int32) (h0 : 0 ≤ i0.toInt ∧ i0.toInt ≤ 2) (h1 : (-2147483648 : Int) ≤ i1.toInt ∧ i1.toInt ≤ 0) : Met l yX7_newDrawer (Cond.code yX7_newDrawer cX7_newDrawer 6 (some .int) :: pxAll) ({ frames := 2, cells := 0, slots := 0, locals := 42 } : Room) (va_Pc [.ref a0, .int i0, .int 0, .int i1] (pxPre G [(a0, .inr (6, [.ref a1, .ref a2, .ref a3, .int 0, .ref a4, .int 0, .int 0, .int 0, .int 0, .ref a5, .int 0, .ref a6, .int 0, .int 0, .int 0, .int (-1), .ref a7, .ref a8, .int 0, .ref a9, .ref a10, .ref a11]))] sz)) (pxQi G (fun r => r = 0) (fun q => [(a0, .inr (6, [.ref a1, .ref a2, .ref a3, .int 0, .ref a4, .int 0, .int 0, .int 2, .int 0, .ref a5, .int 0, .ref a6, .int 0, .int 0, .int 0, .int (-1), .ref a7, .ref a8, .int 0, .ref a9, .ref a10, .ref a11]))]) (va_A [(a0, .inr (6, [.ref a1, .ref a2, .ref a3, .int 0, .ref a4, .int 0, .int 0, .int 0, .int 0, .ref a5, .int 0, .ref a6, .int 0, .int 0, .int 0, .int (-1), .ref a7, .ref a8, .int 0, .ref a9, .ref a10, .ref a11]))] sz)) 0 0 (va_A [(a0, .inr (6, [.ref a1, .ref a2, .ref a3, .int 0, .ref a4, .int 0, .int 0, .int 0, .int 0, .ref a5, .int 0, .ref a6, .int 0, .int 0, .int 0, .int (-1), .ref a7, .ref a8, .int 0, .ref a9, .ref a10, .ref a11]))] sz) := by
  refine Met.ofW (cc := cX7_newDrawer) (maxL := 6) (ret := (some .int)) (by decide) rfl ?_
  intro p e s m args below meth c s₁ B hml hv
  obtain ⟨rfl, hsz, hG, hZ, hP, hD0⟩ := hv
  have hx := B.exec
  have hb := B.bytes
  have hr := B.returns
  have hts0 := atoms_spec (ws := Cond.code yX7_newDrawer cX7_newDrawer 6 (some .int) :: pxAll) B.pre
  have hts : ∀ w ∈ pxAll, w.before _ s = true := fun w h => hts0 w (List.mem_cons_of_mem _ h)
  have hown : s.vm.findClass RX7 = some m.cls := findClass_of_methodNamed B.named
  have hlocks := B.notSynchronized
  subst hsz
  have hK := hG.1
  have hD := hD0.self (sz := s.heap.size)
  generalize hAe : va_A [(a0, .inr (6, [.ref a1, .ref a2, .ref a3, .int 0, .ref a4, .int 0, .int 0, .int 0, .int 0, .ref a5, .int 0, .ref a6, .int 0, .int 0, .int 0, .int (-1), .ref a7, .ref a8, .int 0, .ref a9, .ref a10, .ref a11]))] s.heap.size = A at hD hZ ⊢
  have hA : ∀ q : Nat, s.heap.size ≤ q → A q := fun q h => by rw [← hAe]; exact Or.inr h
  have hS : va_S A s.heap s.heap [] := va_S.rf
  have hl := lv_entry ([.ref a0, .int i0, .int 0, .int i1]) (n := 6) (Nat.le_of_ble_eq_true rfl)
  rw [lg_entry_eq]
  generalize (lg_sl ([.ref a0, .int i0, .int 0, .int i1]) ++ List.replicate (6 - (lg_sl ([.ref a0, .int i0, .int 0, .int i1])).length) Slot.unset).toArray = ls at hl ⊢
  have hl : lv_has ls 6 [(0, .ref a0), (1, .int i0), (2, .int 0), (3, .int i1)] := hl
  refine lv_aload_n hx hb dX7_newDrawer_0 rfl (lv_at hl 0 rfl) ?_
  refine lv_iload_n hx hb dX7_newDrawer_1 rfl (lv_at hl 1 rfl) ?_
  refine pxCi (va_runS (As := [.int i0]) (rest := [.ref a0]) ⟨hx, hb, hml, hown, hts⟩ (k236_X7_isDrawer l G s.heap.size i0 ⟨by omega, by omega⟩) (va_cwS 1 hts (pxGS pm643 pm644 pm71 pm645) rfl rfl rfl (by decide +kernel) ⟨(Nat.le_of_ble_eq_true rfl), (Nat.le_of_ble_eq_true rfl)⟩) (pxS hG hZ hP hD hS hA [] rfl (by decide)) rfl rfl hl.1 rfl (lv_room (Nat.le_of_ble_eq_true rfl)) dX7_newDrawer_2 ⟨(Nat.le_of_ble_eq_true rfl), (Nat.le_of_ble_eq_true rfl)⟩) hP hD hS hA [] [0] rfl rfl (by decide) (by decide) (fun r2 q1 H locs hw hP hD hS => ?_)
  have hw : r2 = 1 := hw
  subst hw
  have hP : va_P G.1 pxCl [(a0, .inr (6, [.ref a1, .ref a2, .ref a3, .int 0, .ref a4, .int 0, .int 0, .int 0, .int 0, .ref a5, .int 0, .ref a6, .int 0, .int 0, .int 0, .int (-1), .ref a7, .ref a8, .int 0, .ref a9, .ref a10, .ref a11]))] H := hP
  have hD : va_D A [(a0, .inr (6, [.ref a1, .ref a2, .ref a3, .int 0, .ref a4, .int 0, .int 0, .int 0, .int 0, .ref a5, .int 0, .ref a6, .int 0, .int 0, .int 0, .int (-1), .ref a7, .ref a8, .int 0, .ref a9, .ref a10, .ref a11]))] := hD
  refine lv_if_ne (tgt := 12) hx hb dX7_newDrawer_5 (by decide) (fun _ => ?_) (fun h9 => absurd h9 (by decide))
  refine lv_iload_n hx hb dX7_newDrawer_12 rfl (lv_at hl 2 rfl) ?_
  refine lv_iconst (v := 0) hx hb dX7_newDrawer_13 (by decide) ?_
  refine lv_iconst (v := 1) hx hb dX7_newDrawer_14 (by decide) ?_
  refine pxCi (va_runS (As := [.int 0, .int 0, .int 1]) (rest := [.ref a0]) ⟨hx, hb, hml, hown, hts⟩ (k244_X7_in l G H.size) (va_cwS 3 hts (pxGS pm143 pm144 pm71 pm145) rfl rfl rfl (by decide +kernel) ⟨(Nat.le_of_ble_eq_true rfl), (Nat.le_of_ble_eq_true rfl)⟩) (pxS hG hZ hP hD hS hA [] rfl (by decide)) rfl rfl hl.1 rfl (lv_room (Nat.le_of_ble_eq_true rfl)) dX7_newDrawer_15 ⟨(Nat.le_of_ble_eq_true rfl), (Nat.le_of_ble_eq_true rfl)⟩) hP hD hS hA [] [0] rfl rfl (by decide) (by decide) (fun r4 q3 H locs hw hP hD hS => ?_)
  have hw : r4 = 1 := hw
  subst hw
  have hP : va_P G.1 pxCl [(a0, .inr (6, [.ref a1, .ref a2, .ref a3, .int 0, .ref a4, .int 0, .int 0, .int 0, .int 0, .ref a5, .int 0, .ref a6, .int 0, .int 0, .int 0, .int (-1), .ref a7, .ref a8, .int 0, .ref a9, .ref a10, .ref a11]))] H := hP
  have hD : va_D A [(a0, .inr (6, [.ref a1, .ref a2, .ref a3, .int 0, .ref a4, .int 0, .int 0, .int 0, .int 0, .ref a5, .int 0, .ref a6, .int 0, .int 0, .int 0, .int (-1), .ref a7, .ref a8, .int 0, .ref a9, .ref a10, .ref a11]))] := hD
  refine lv_if_eq (tgt := 31) hx hb dX7_newDrawer_18 (by decide) (fun h9 => absurd h9 (by decide)) (fun _ => ?_)
  refine lv_iload_n hx hb dX7_newDrawer_21 rfl (lv_at hl 3 rfl) ?_
  refine lv_iconst (v := 1) hx hb dX7_newDrawer_22 (by decide) ?_
  refine lv_bipush (v := 6) hx hb dX7_newDrawer_23 (by decide) ?_
  refine pxCi (va_runS (As := [.int i1, .int 1, .int 6]) (rest := [.ref a0]) ⟨hx, hb, hml, hown, hts⟩ (k245_X7_in l G H.size i1 ⟨by omega, by omega⟩) (va_cwS 3 hts (pxGS pm143 pm144 pm71 pm145) rfl rfl rfl (by decide +kernel) ⟨(Nat.le_of_ble_eq_true rfl), (Nat.le_of_ble_eq_true rfl)⟩) (pxS hG hZ hP hD hS hA [] rfl (by decide)) rfl rfl hl.1 rfl (lv_room (Nat.le_of_ble_eq_true rfl)) dX7_newDrawer_25 ⟨(Nat.le_of_ble_eq_true rfl), (Nat.le_of_ble_eq_true rfl)⟩) hP hD hS hA [] [0] rfl rfl (by decide) (by decide) (fun r6 q5 H locs hw hP hD hS => ?_)
  have hw : r6 = 0 := hw
  subst hw
  have hP : va_P G.1 pxCl [(a0, .inr (6, [.ref a1, .ref a2, .ref a3, .int 0, .ref a4, .int 0, .int 0, .int 0, .int 0, .ref a5, .int 0, .ref a6, .int 0, .int 0, .int 0, .int (-1), .ref a7, .ref a8, .int 0, .ref a9, .ref a10, .ref a11]))] H := hP
  have hD : va_D A [(a0, .inr (6, [.ref a1, .ref a2, .ref a3, .int 0, .ref a4, .int 0, .int 0, .int 0, .int 0, .ref a5, .int 0, .ref a6, .int 0, .int 0, .int 0, .int (-1), .ref a7, .ref a8, .int 0, .ref a9, .ref a10, .ref a11]))] := hD
  refine lv_if_ne (tgt := 35) hx hb dX7_newDrawer_28 (by decide) (fun h9 => absurd h9 (by decide)) (fun _ => ?_)
  refine lv_iconst (v := 2) hx hb dX7_newDrawer_31 (by decide) ?_
  refine lv_goto (tgt := 36) hx hb dX7_newDrawer_32 (by decide) ?_
  refine va_put (D := G.1) (ci := 6) (v := .int 2) (ty := .int) (C := RX7) (T := TX7) (N := 22) hx hb hts piX7 tyX7 tyX7_ok nmX7 hown hK hP hD hS 0 rfl rfl 7 (by decide) (hts _ pm150) (fun _ h9 => h9) rfl (by decide +kernel) rfl rfl (Nat.le_of_ble_eq_true rfl) dX7_newDrawer_36 (fun H locs hP hD hS => ?_)
  have hP : va_P G.1 pxCl [(a0, .inr (6, [.ref a1, .ref a2, .ref a3, .int 0, .ref a4, .int 0, .int 0, .int 2, .int 0, .ref a5, .int 0, .ref a6, .int 0, .int 0, .int 0, .int (-1), .ref a7, .ref a8, .int 0, .ref a9, .ref a10, .ref a11]))] H := hP
  have hD : va_D A [(a0, .inr (6, [.ref a1, .ref a2, .ref a3, .int 0, .ref a4, .int 0, .int 0, .int 2, .int 0, .ref a5, .int 0, .ref a6, .int 0, .int 0, .int 0, .int (-1), .ref a7, .ref a8, .int 0, .ref a9, .ref a10, .ref a11]))] := hD
  refine lv_aload_n hx hb dX7_newDrawer_39 rfl (lv_at hl 0 rfl) ?_
  refine va_get (D := G.1) (ci := 6) (v := .int 2) (C := RX7) (T := TX7) (N := 22) hx hb hts piX7 hown hK hP 0 rfl rfl 7 (by decide) (hts _ pm150) (fun _ h9 => h9) rfl dX7_newDrawer_40 ?_
  refine lv_if_le (tgt := 48) hx hb dX7_newDrawer_43 (by decide) (fun h9 => absurd h9 (by decide)) (fun _ => ?_)
  refine lv_iconst (v := 0) hx hb dX7_newDrawer_46 (by decide) ?_
  refine W.widen (k := 0) (n := 0) (Nat.le_of_ble_eq_true rfl) (Nat.le_of_ble_eq_true rfl) ?_
  exact W.iret (v := 0) hx hb hr (fun t ht hW => ⟨⟨0, (fun _ => 0), rfl, rfl, by rw [ht]; exact hP, hD⟩, hS.F ht⟩) hS.2.2 dX7_newDrawer_47
set_option maxHeartbeats 4000000 in
set_option maxRecDepth 100000 in
theorem k247_J7_fill_53178 (l : Launch) (G : pxG) (sz : Nat) (a0 : Nat) : Met l yJ7_fill_53178 (Cond.code yJ7_fill_53178 cJ7_fill_53178 4 none :: pxAll) ({ frames := 0, cells := 0, slots := 0, locals := 0 } : Room) (va_Pc [.ref a0, .int (-1)] (pxPre G [(a0, .inl (G.2.1 0, 6, .inl (fun _ => 0)))] sz)) (pxQv G (fun q => [(a0, .inl (G.2.1 0, 6, .inl (upd (upd (upd (upd (upd (upd (fun _ => 0) 0 (-1)) 1 (-1)) 2 (-1)) 3 (-1)) 4 (-1)) 5 (-1))))]) (va_A [(a0, .inl (G.2.1 0, 6, .inl (fun _ => 0)))] sz)) 0 0 (va_A [(a0, .inl (G.2.1 0, 6, .inl (fun _ => 0)))] sz) := by
  refine Met.ofW (cc := cJ7_fill_53178) (maxL := 4) (ret := none) (by decide) rfl ?_
  intro p e s m args below meth c s₁ B hml hv
  obtain ⟨rfl, hsz, hG, hZ, hP, hD0⟩ := hv
  have hx := B.exec
  have hb := B.bytes
  have hr := B.returns
  have hts0 := atoms_spec (ws := Cond.code yJ7_fill_53178 cJ7_fill_53178 4 none :: pxAll) B.pre
  have hts : ∀ w ∈ pxAll, w.before _ s = true := fun w h => hts0 w (List.mem_cons_of_mem _ h)
  have hown : s.vm.findClass RJ7 = some m.cls := findClass_of_methodNamed B.named
  have hlocks := B.notSynchronized
  subst hsz
  have hK := hG.1
  have hD := hD0.self (sz := s.heap.size)
  generalize hAe : va_A [(a0, .inl (G.2.1 0, 6, .inl (fun _ => 0)))] s.heap.size = A at hD hZ ⊢
  have hA : ∀ q : Nat, s.heap.size ≤ q → A q := fun q h => by rw [← hAe]; exact Or.inr h
  have hS : va_S A s.heap s.heap [] := va_S.rf
  have hl := lv_entry ([.ref a0, .int (-1)]) (n := 4) (Nat.le_of_ble_eq_true rfl)
  rw [lg_entry_eq]
  generalize (lg_sl ([.ref a0, .int (-1)]) ++ List.replicate (4 - (lg_sl ([.ref a0, .int (-1)])).length) Slot.unset).toArray = ls at hl ⊢
  have hl : lv_has ls 4 [(0, .ref a0), (1, .int (-1))] := hl
  refine lv_iconst (v := 0) hx hb dJ7_fill_53178_0 (by decide) ?_
  refine lv_istore_n (lv' := [(2, .int 0), (0, .ref a0), (1, .int (-1))]) hx hb dJ7_fill_53178_1 rfl hl (by decide) rfl (fun ls hl => ?_)
  refine lv_aload_n hx hb dJ7_fill_53178_2 rfl (lv_at hl 1 rfl) ?_
  refine va_alen (v := 6) hx hb hK hP 0 0 rfl rfl rfl dJ7_fill_53178_3 ?_
  refine lv_istore_n (lv' := [(3, .int 6), (2, .int 0), (0, .ref a0), (1, .int (-1))]) hx hb dJ7_fill_53178_4 rfl hl (by decide) rfl (fun ls hl => ?_)
  refine lv_iload_n hx hb dJ7_fill_53178_5 rfl (lv_at hl 1 rfl) ?_
  refine lv_iload_n hx hb dJ7_fill_53178_6 rfl (lv_at hl 0 rfl) ?_
  refine lv_icmp_ge (tgt := 20) hx hb dJ7_fill_53178_7 (by decide) (fun h9 => absurd h9 (by decide)) (fun _ => ?_)
  refine lv_aload_n hx hb dJ7_fill_53178_10 rfl (lv_at hl 2 rfl) ?_
  refine lv_iload_n hx hb dJ7_fill_53178_11 rfl (lv_at hl 1 rfl) ?_
  refine lv_iload_n hx hb dJ7_fill_53178_12 rfl (lv_at hl 3 rfl) ?_
  refine va_iast hx hb hK hP hD hS 0 0 rfl rfl (show ¬ ((0 : Int32) < 0 ∨ 6 ≤ (0 : Int32).toNatClampNeg) by decide +kernel) dJ7_fill_53178_13 (fun H locs hP hD hS => ?_)
  have hP : va_P G.1 pxCl [(a0, .inl (G.2.1 0, 6, .inl (upd (fun _ => 0) 0 (-1))))] H := hP
  have hD : va_D A [(a0, .inl (G.2.1 0, 6, .inl (upd (fun _ => 0) 0 (-1))))] := hD
  refine lv_iinc (v := 1) (lv' := [(2, .int 1), (3, .int 6), (0, .ref a0), (1, .int (-1))]) hx hb dJ7_fill_53178_14 hl (k := 1) rfl (by decide) (by decide) rfl (fun ls hl => ?_)
  refine lv_goto (tgt := 5) hx hb dJ7_fill_53178_17 (by decide) ?_
  refine lv_iload_n hx hb dJ7_fill_53178_5 rfl (lv_at hl 0 rfl) ?_
  refine lv_iload_n hx hb dJ7_fill_53178_6 rfl (lv_at hl 1 rfl) ?_
  refine lv_icmp_ge (tgt := 20) hx hb dJ7_fill_53178_7 (by decide) (fun h9 => absurd h9 (by decide)) (fun _ => ?_)
  refine lv_aload_n hx hb dJ7_fill_53178_10 rfl (lv_at hl 2 rfl) ?_
  refine lv_iload_n hx hb dJ7_fill_53178_11 rfl (lv_at hl 0 rfl) ?_
  refine lv_iload_n hx hb dJ7_fill_53178_12 rfl (lv_at hl 3 rfl) ?_
  refine va_iast hx hb hK hP hD hS 0 0 rfl rfl (show ¬ ((1 : Int32) < 0 ∨ 6 ≤ (1 : Int32).toNatClampNeg) by decide +kernel) dJ7_fill_53178_13 (fun H locs hP hD hS => ?_)
  have hP : va_P G.1 pxCl [(a0, .inl (G.2.1 0, 6, .inl (upd (upd (fun _ => 0) 0 (-1)) 1 (-1))))] H := hP
  have hD : va_D A [(a0, .inl (G.2.1 0, 6, .inl (upd (upd (fun _ => 0) 0 (-1)) 1 (-1))))] := hD
  refine lv_iinc (v := 2) (lv' := [(2, .int 2), (3, .int 6), (0, .ref a0), (1, .int (-1))]) hx hb dJ7_fill_53178_14 hl (k := 0) rfl (by decide) (by decide) rfl (fun ls hl => ?_)
  refine lv_goto (tgt := 5) hx hb dJ7_fill_53178_17 (by decide) ?_
  refine lv_iload_n hx hb dJ7_fill_53178_5 rfl (lv_at hl 0 rfl) ?_
  refine lv_iload_n hx hb dJ7_fill_53178_6 rfl (lv_at hl 1 rfl) ?_
  refine lv_icmp_ge (tgt := 20) hx hb dJ7_fill_53178_7 (by decide) (fun h9 => absurd h9 (by decide)) (fun _ => ?_)
  refine lv_aload_n hx hb dJ7_fill_53178_10 rfl (lv_at hl 2 rfl) ?_
  refine lv_iload_n hx hb dJ7_fill_53178_11 rfl (lv_at hl 0 rfl) ?_
  refine lv_iload_n hx hb dJ7_fill_53178_12 rfl (lv_at hl 3 rfl) ?_
  refine va_iast hx hb hK hP hD hS 0 0 rfl rfl (show ¬ ((2 : Int32) < 0 ∨ 6 ≤ (2 : Int32).toNatClampNeg) by decide +kernel) dJ7_fill_53178_13 (fun H locs hP hD hS => ?_)
  have hP : va_P G.1 pxCl [(a0, .inl (G.2.1 0, 6, .inl (upd (upd (upd (fun _ => 0) 0 (-1)) 1 (-1)) 2 (-1))))] H := hP
  have hD : va_D A [(a0, .inl (G.2.1 0, 6, .inl (upd (upd (upd (fun _ => 0) 0 (-1)) 1 (-1)) 2 (-1))))] := hD
  refine lv_iinc (v := 3) (lv' := [(2, .int 3), (3, .int 6), (0, .ref a0), (1, .int (-1))]) hx hb dJ7_fill_53178_14 hl (k := 0) rfl (by decide) (by decide) rfl (fun ls hl => ?_)
  refine lv_goto (tgt := 5) hx hb dJ7_fill_53178_17 (by decide) ?_
  refine lv_iload_n hx hb dJ7_fill_53178_5 rfl (lv_at hl 0 rfl) ?_
  refine lv_iload_n hx hb dJ7_fill_53178_6 rfl (lv_at hl 1 rfl) ?_
  refine lv_icmp_ge (tgt := 20) hx hb dJ7_fill_53178_7 (by decide) (fun h9 => absurd h9 (by decide)) (fun _ => ?_)
  refine lv_aload_n hx hb dJ7_fill_53178_10 rfl (lv_at hl 2 rfl) ?_
  refine lv_iload_n hx hb dJ7_fill_53178_11 rfl (lv_at hl 0 rfl) ?_
  refine lv_iload_n hx hb dJ7_fill_53178_12 rfl (lv_at hl 3 rfl) ?_
  refine va_iast hx hb hK hP hD hS 0 0 rfl rfl (show ¬ ((3 : Int32) < 0 ∨ 6 ≤ (3 : Int32).toNatClampNeg) by decide +kernel) dJ7_fill_53178_13 (fun H locs hP hD hS => ?_)
  have hP : va_P G.1 pxCl [(a0, .inl (G.2.1 0, 6, .inl (upd (upd (upd (upd (fun _ => 0) 0 (-1)) 1 (-1)) 2 (-1)) 3 (-1))))] H := hP
  have hD : va_D A [(a0, .inl (G.2.1 0, 6, .inl (upd (upd (upd (upd (fun _ => 0) 0 (-1)) 1 (-1)) 2 (-1)) 3 (-1))))] := hD
  refine lv_iinc (v := 4) (lv' := [(2, .int 4), (3, .int 6), (0, .ref a0), (1, .int (-1))]) hx hb dJ7_fill_53178_14 hl (k := 0) rfl (by decide) (by decide) rfl (fun ls hl => ?_)
  refine lv_goto (tgt := 5) hx hb dJ7_fill_53178_17 (by decide) ?_
  refine lv_iload_n hx hb dJ7_fill_53178_5 rfl (lv_at hl 0 rfl) ?_
  refine lv_iload_n hx hb dJ7_fill_53178_6 rfl (lv_at hl 1 rfl) ?_
  refine lv_icmp_ge (tgt := 20) hx hb dJ7_fill_53178_7 (by decide) (fun h9 => absurd h9 (by decide)) (fun _ => ?_)
  refine lv_aload_n hx hb dJ7_fill_53178_10 rfl (lv_at hl 2 rfl) ?_
  refine lv_iload_n hx hb dJ7_fill_53178_11 rfl (lv_at hl 0 rfl) ?_
  refine lv_iload_n hx hb dJ7_fill_53178_12 rfl (lv_at hl 3 rfl) ?_
  refine va_iast hx hb hK hP hD hS 0 0 rfl rfl (show ¬ ((4 : Int32) < 0 ∨ 6 ≤ (4 : Int32).toNatClampNeg) by decide +kernel) dJ7_fill_53178_13 (fun H locs hP hD hS => ?_)
  have hP : va_P G.1 pxCl [(a0, .inl (G.2.1 0, 6, .inl (upd (upd (upd (upd (upd (fun _ => 0) 0 (-1)) 1 (-1)) 2 (-1)) 3 (-1)) 4 (-1))))] H := hP
  have hD : va_D A [(a0, .inl (G.2.1 0, 6, .inl (upd (upd (upd (upd (upd (fun _ => 0) 0 (-1)) 1 (-1)) 2 (-1)) 3 (-1)) 4 (-1))))] := hD
  refine lv_iinc (v := 5) (lv' := [(2, .int 5), (3, .int 6), (0, .ref a0), (1, .int (-1))]) hx hb dJ7_fill_53178_14 hl (k := 0) rfl (by decide) (by decide) rfl (fun ls hl => ?_)
  refine lv_goto (tgt := 5) hx hb dJ7_fill_53178_17 (by decide) ?_
  refine lv_iload_n hx hb dJ7_fill_53178_5 rfl (lv_at hl 0 rfl) ?_
  refine lv_iload_n hx hb dJ7_fill_53178_6 rfl (lv_at hl 1 rfl) ?_
  refine lv_icmp_ge (tgt := 20) hx hb dJ7_fill_53178_7 (by decide) (fun h9 => absurd h9 (by decide)) (fun _ => ?_)
  refine lv_aload_n hx hb dJ7_fill_53178_10 rfl (lv_at hl 2 rfl) ?_
  refine lv_iload_n hx hb dJ7_fill_53178_11 rfl (lv_at hl 0 rfl) ?_
  refine lv_iload_n hx hb dJ7_fill_53178_12 rfl (lv_at hl 3 rfl) ?_
  refine va_iast hx hb hK hP hD hS 0 0 rfl rfl (show ¬ ((5 : Int32) < 0 ∨ 6 ≤ (5 : Int32).toNatClampNeg) by decide +kernel) dJ7_fill_53178_13 (fun H locs hP hD hS => ?_)
  have hP : va_P G.1 pxCl [(a0, .inl (G.2.1 0, 6, .inl (upd (upd (upd (upd (upd (upd (fun _ => 0) 0 (-1)) 1 (-1)) 2 (-1)) 3 (-1)) 4 (-1)) 5 (-1))))] H := hP
  have hD : va_D A [(a0, .inl (G.2.1 0, 6, .inl (upd (upd (upd (upd (upd (upd (fun _ => 0) 0 (-1)) 1 (-1)) 2 (-1)) 3 (-1)) 4 (-1)) 5 (-1))))] := hD
  refine lv_iinc (v := 6) (lv' := [(2, .int 6), (3, .int 6), (0, .ref a0), (1, .int (-1))]) hx hb dJ7_fill_53178_14 hl (k := 0) rfl (by decide) (by decide) rfl (fun ls hl => ?_)
  refine lv_goto (tgt := 5) hx hb dJ7_fill_53178_17 (by decide) ?_
  refine lv_iload_n hx hb dJ7_fill_53178_5 rfl (lv_at hl 0 rfl) ?_
  refine lv_iload_n hx hb dJ7_fill_53178_6 rfl (lv_at hl 1 rfl) ?_
  refine lv_icmp_ge (tgt := 20) hx hb dJ7_fill_53178_7 (by decide) (fun _ => ?_) (fun h9 => absurd (by decide) h9)
  refine W.widen (k := 0) (n := 0) (Nat.le_of_ble_eq_true rfl) (Nat.le_of_ble_eq_true rfl) ?_
  exact W.vret hx hb hr (fun t ht hW => ⟨⟨(fun _ => 0), rfl, trivial, by rw [ht]; exact hP, hD⟩, hS.F ht⟩) hS.2.2 dJ7_fill_53178_20
set_option maxHeartbeats 4000000 in
set_option maxRecDepth 100000 in
theorem k247_X1_renew (l : Launch) (G : pxG) (sz : Nat) (a0 a1 a2 : Nat) (i0 : Int32) : Met l yX1_renew (Cond.code yX1_renew cX1_renew 4 (some .int) :: pxAll) ({ frames := 1, cells := 0, slots := 0, locals := 23 } : Room) (va_Pc [.ref a0, .int 0, .int i0] (pxPre G [(a0, .inr (0, [.ref a1, .ref a2, .int 0, .int 0])), (a1, .inl (G.2.1 0, 6, .inl (fun _ => 0)))] sz)) (pxQi G (fun r => r = 0) (fun q => [(a0, .inr (0, [.ref a1, .ref a2, .int 0, .int i0])), (a1, .inl (G.2.1 0, 6, .inl (upd (upd (upd (upd (upd (upd (fun _ => 0) 0 (-1)) 1 (-1)) 2 (-1)) 3 (-1)) 4 (-1)) 5 (-1))))]) (va_A [(a0, .inr (0, [.ref a1, .ref a2, .int 0, .int 0])), (a1, .inl (G.2.1 0, 6, .inl (fun _ => 0)))] sz)) 0 0 (va_A [(a0, .inr (0, [.ref a1, .ref a2, .int 0, .int 0])), (a1, .inl (G.2.1 0, 6, .inl (fun _ => 0)))] sz) := by
  refine Met.ofW (cc := cX1_renew) (maxL := 4) (ret := (some .int)) (by decide) rfl ?_
  intro p e s m args below meth c s₁ B hml hv
  obtain ⟨rfl, hsz, hG, hZ, hP, hD0⟩ := hv
  have hx := B.exec
  have hb := B.bytes
  have hr := B.returns
  have hts0 := atoms_spec (ws := Cond.code yX1_renew cX1_renew 4 (some .int) :: pxAll) B.pre
  have hts : ∀ w ∈ pxAll, w.before _ s = true := fun w h => hts0 w (List.mem_cons_of_mem _ h)
  have hown : s.vm.findClass RX1 = some m.cls := findClass_of_methodNamed B.named
  have hlocks := B.notSynchronized
  subst hsz
  have hK := hG.1
  have hD := hD0.self (sz := s.heap.size)
  generalize hAe : va_A [(a0, .inr (0, [.ref a1, .ref a2, .int 0, .int 0])), (a1, .inl (G.2.1 0, 6, .inl (fun _ => 0)))] s.heap.size = A at hD hZ ⊢
  have hA : ∀ q : Nat, s.heap.size ≤ q → A q := fun q h => by rw [← hAe]; exact Or.inr h
  have hS : va_S A s.heap s.heap [] := va_S.rf
  have hl := lv_entry ([.ref a0, .int 0, .int i0]) (n := 4) (Nat.le_of_ble_eq_true rfl)
  rw [lg_entry_eq]
  generalize (lg_sl ([.ref a0, .int 0, .int i0]) ++ List.replicate (4 - (lg_sl ([.ref a0, .int 0, .int i0])).length) Slot.unset).toArray = ls at hl ⊢
  have hl : lv_has ls 4 [(0, .ref a0), (1, .int 0), (2, .int i0)] := hl
  refine lv_aload_n hx hb dX1_renew_0 rfl (lv_at hl 0 rfl) ?_
  refine va_get (D := G.1) (ci := 0) (v := .int 0) (C := RX1) (T := TX1) (N := 4) hx hb hts piX1 hown hK hP 0 rfl rfl 3 (by decide) (hts _ pm653) (fun _ h9 => h9) rfl dX1_renew_1 ?_
  refine lv_istore_n (lv' := [(3, .int 0), (0, .ref a0), (1, .int 0), (2, .int i0)]) hx hb dX1_renew_4 rfl hl (by decide) rfl (fun ls hl => ?_)
  refine lv_aload_n hx hb dX1_renew_5 rfl (lv_at hl 1 rfl) ?_
  refine va_get (D := G.1) (ci := 0) (v := .ref a1) (C := RX1) (T := TX1) (N := 4) hx hb hts piX1 hown hK hP 0 rfl rfl 0 (by decide) (hts _ pm62) (fun _ h9 => h9) rfl dX1_renew_6 ?_
  refine lv_iconst (v := (-1)) hx hb dX1_renew_9 (by decide) ?_
  refine pxCv (va_runS (As := [.ref a1, .int (-1)]) (rest := []) ⟨hx, hb, hml, hown, hts⟩ (k247_J7_fill_53178 l G s.heap.size a1) (va_cwS 2 hts (pxGS pm654 pm655 pm656 pm657) rfl rfl rfl (by decide +kernel) ⟨(Nat.le_of_ble_eq_true rfl), (Nat.le_of_ble_eq_true rfl)⟩) (pxS hG hZ hP hD hS hA [1] rfl (by decide)) rfl rfl hl.1 rfl (lv_room (Nat.le_of_ble_eq_true rfl)) dX1_renew_10 ⟨(Nat.le_of_ble_eq_true rfl), (Nat.le_of_ble_eq_true rfl)⟩) hP hD hS hA [1] [0] rfl rfl (by decide) (by decide) (fun q1 H locs hP hD hS => ?_)
  have hP : va_P G.1 pxCl [(a0, .inr (0, [.ref a1, .ref a2, .int 0, .int 0])), (a1, .inl (G.2.1 0, 6, .inl (upd (upd (upd (upd (upd (upd (fun _ => 0) 0 (-1)) 1 (-1)) 2 (-1)) 3 (-1)) 4 (-1)) 5 (-1))))] H := hP
  have hD : va_D A [(a0, .inr (0, [.ref a1, .ref a2, .int 0, .int 0])), (a1, .inl (G.2.1 0, 6, .inl (upd (upd (upd (upd (upd (upd (fun _ => 0) 0 (-1)) 1 (-1)) 2 (-1)) 3 (-1)) 4 (-1)) 5 (-1))))] := hD
  refine lv_aload_n hx hb dX1_renew_13 rfl (lv_at hl 1 rfl) ?_
  refine lv_iload_n hx hb dX1_renew_14 rfl (lv_at hl 2 rfl) ?_
  refine va_put (D := G.1) (ci := 0) (v := .int 0) (ty := .int) (C := RX1) (T := TX1) (N := 4) hx hb hts piX1 tyX1 tyX1_ok nmX1 hown hK hP hD hS 0 rfl rfl 2 (by decide) (hts _ pm658) (fun _ h9 => h9) rfl (by decide +kernel) rfl rfl (Nat.le_of_ble_eq_true rfl) dX1_renew_15 (fun H locs hP hD hS => ?_)
  have hP : va_P G.1 pxCl [(a0, .inr (0, [.ref a1, .ref a2, .int 0, .int 0])), (a1, .inl (G.2.1 0, 6, .inl (upd (upd (upd (upd (upd (upd (fun _ => 0) 0 (-1)) 1 (-1)) 2 (-1)) 3 (-1)) 4 (-1)) 5 (-1))))] H := hP
  have hD : va_D A [(a0, .inr (0, [.ref a1, .ref a2, .int 0, .int 0])), (a1, .inl (G.2.1 0, 6, .inl (upd (upd (upd (upd (upd (upd (fun _ => 0) 0 (-1)) 1 (-1)) 2 (-1)) 3 (-1)) 4 (-1)) 5 (-1))))] := hD
  refine lv_aload_n hx hb dX1_renew_18 rfl (lv_at hl 1 rfl) ?_
  refine lv_iload_n hx hb dX1_renew_19 rfl (lv_at hl 3 rfl) ?_
  refine va_put (D := G.1) (ci := 0) (v := .int i0) (ty := .int) (C := RX1) (T := TX1) (N := 4) hx hb hts piX1 tyX1 tyX1_ok nmX1 hown hK hP hD hS 0 rfl rfl 3 (by decide) (hts _ pm653) (fun _ h9 => h9) rfl (by decide +kernel) rfl rfl (Nat.le_of_ble_eq_true rfl) dX1_renew_20 (fun H locs hP hD hS => ?_)
  have hP : va_P G.1 pxCl [(a0, .inr (0, [.ref a1, .ref a2, .int 0, .int i0])), (a1, .inl (G.2.1 0, 6, .inl (upd (upd (upd (upd (upd (upd (fun _ => 0) 0 (-1)) 1 (-1)) 2 (-1)) 3 (-1)) 4 (-1)) 5 (-1))))] H := hP
  have hD : va_D A [(a0, .inr (0, [.ref a1, .ref a2, .int 0, .int i0])), (a1, .inl (G.2.1 0, 6, .inl (upd (upd (upd (upd (upd (upd (fun _ => 0) 0 (-1)) 1 (-1)) 2 (-1)) 3 (-1)) 4 (-1)) 5 (-1))))] := hD
  refine lv_iload_n hx hb dX1_renew_23 rfl (lv_at hl 0 rfl) ?_
  refine W.widen (k := 0) (n := 0) (Nat.le_of_ble_eq_true rfl) (Nat.le_of_ble_eq_true rfl) ?_
  exact W.iret (v := 0) hx hb hr (fun t ht hW => ⟨⟨0, (fun _ => 0), rfl, rfl, by rw [ht]; exact hP, hD⟩, hS.F ht⟩) hS.2.2 dX1_renew_24
set_option maxHeartbeats 4000000 in
set_option maxRecDepth 100000 in
theorem k247_X6_newDrawer (l : Launch) (G : pxG) (sz : Nat) (a0 a1 a2 a3 a4 a5 a6 a7 a8 a9 a10 a11 a12 a13 a14 : Nat) (i0 i1 : Int32) (h0 : 0 ≤ i0.toInt ∧ i0.toInt ≤ 2) (h1 : 1 ≤ i1.toInt ∧ i1.toInt ≤ 6) : Met l yX6_newDrawer (Cond.code yX6_newDrawer cX6_newDrawer 4 (some .int) :: pxAll) ({ frames := 2, cells := 0, slots := 0, locals := 46 } : Room) (va_Pc [.ref a0, .int i0, .int 0, .int i1] (pxPre G [(a0, .inr (5, [.ref a8, .ref a9, .ref a10, .ref a11, .ref a1, .int 0, .int 0, .int (-1)])), (a1, .inl (G.2.1 6, 3, .inr (.inr (.inr (.inr (va_up (va_up (va_up (fun _ => none) 0 (some a2)) 1 (some a4)) 2 (some a6))))))), (a2, .inr (0, [.ref a3, .ref a12, .int 0, .int 0])), (a3, .inl (G.2.1 0, 6, .inl (fun _ => 0))), (a4, .inr (0, [.ref a5, .ref a13, .int 0, .int 0])), (a5, .inl (G.2.1 0, 6, .inl (fun _ => 0))), (a6, .inr (0, [.ref a7, .ref a14, .int 0, .int 0])), (a7, .inl (G.2.1 0, 6, .inl (fun _ => 0)))] sz)) (pxQi G (fun r => r = 0) (fun q => []) (va_A [(a0, .inr (5, [.ref a8, .ref a9, .ref a10, .ref a11, .ref a1, .int 0, .int 0, .int (-1)])), (a1, .inl (G.2.1 6, 3, .inr (.inr (.inr (.inr (va_up (va_up (va_up (fun _ => none) 0 (some a2)) 1 (some a4)) 2 (some a6))))))), (a2, .inr (0, [.ref a3, .ref a12, .int 0, .int 0])), (a3, .inl (G.2.1 0, 6, .inl (fun _ => 0))), (a4, .inr (0, [.ref a5, .ref a13, .int 0, .int 0])), (a5, .inl (G.2.1 0, 6, .inl (fun _ => 0))), (a6, .inr (0, [.ref a7, .ref a14, .int 0, .int 0])), (a7, .inl (G.2.1 0, 6, .inl (fun _ => 0)))] sz)) 0 0 (va_A [(a0, .inr (5, [.ref a8, .ref a9, .ref a10, .ref a11, .ref a1, .int 0, .int 0, .int (-1)])), (a1, .inl (G.2.1 6, 3, .inr (.inr (.inr (.inr (va_up (va_up (va_up (fun _ => none) 0 (some a2)) 1 (some a4)) 2 (some a6))))))), (a2, .inr (0, [.ref a3, .ref a12, .int 0, .int 0])), (a3, .inl (G.2.1 0, 6, .inl (fun _ => 0))), (a4, .inr (0, [.ref a5, .ref a13, .int 0, .int 0])), (a5, .inl (G.2.1 0, 6, .inl (fun _ => 0))), (a6, .inr (0, [.ref a7, .ref a14, .int 0, .int 0])), (a7, .inl (G.2.1 0, 6, .inl (fun _ => 0)))] sz) := by
  refine Met.ofW (cc := cX6_newDrawer) (maxL := 4) (ret := (some .int)) (by decide) rfl ?_
  intro p e s m args below meth c s₁ B hml hv
  obtain ⟨rfl, hsz, hG, hZ, hP, hD0⟩ := hv
  have hx := B.exec
  have hb := B.bytes
  have hr := B.returns
  have hts0 := atoms_spec (ws := Cond.code yX6_newDrawer cX6_newDrawer 4 (some .int) :: pxAll) B.pre
  have hts : ∀ w ∈ pxAll, w.before _ s = true := fun w h => hts0 w (List.mem_cons_of_mem _ h)
  have hown : s.vm.findClass RX6 = some m.cls := findClass_of_methodNamed B.named
  have hlocks := B.notSynchronized
  subst hsz
  have hK := hG.1
  have hD := hD0.self (sz := s.heap.size)
  generalize hAe : va_A [(a0, .inr (5, [.ref a8, .ref a9, .ref a10, .ref a11, .ref a1, .int 0, .int 0, .int (-1)])), (a1, .inl (G.2.1 6, 3, .inr (.inr (.inr (.inr (va_up (va_up (va_up (fun _ => none) 0 (some a2)) 1 (some a4)) 2 (some a6))))))), (a2, .inr (0, [.ref a3, .ref a12, .int 0, .int 0])), (a3, .inl (G.2.1 0, 6, .inl (fun _ => 0))), (a4, .inr (0, [.ref a5, .ref a13, .int 0, .int 0])), (a5, .inl (G.2.1 0, 6, .inl (fun _ => 0))), (a6, .inr (0, [.ref a7, .ref a14, .int 0, .int 0])), (a7, .inl (G.2.1 0, 6, .inl (fun _ => 0)))] s.heap.size = A at hD hZ ⊢
  have hA : ∀ q : Nat, s.heap.size ≤ q → A q := fun q h => by rw [← hAe]; exact Or.inr h
  have hS : va_S A s.heap s.heap [] := va_S.rf
  have hl := lv_entry ([.ref a0, .int i0, .int 0, .int i1]) (n := 4) (Nat.le_of_ble_eq_true rfl)
  rw [lg_entry_eq]
  generalize (lg_sl ([.ref a0, .int i0, .int 0, .int i1]) ++ List.replicate (4 - (lg_sl ([.ref a0, .int i0, .int 0, .int i1])).length) Slot.unset).toArray = ls at hl ⊢
  have hl : lv_has ls 4 [(0, .ref a0), (1, .int i0), (2, .int 0), (3, .int i1)] := hl
  have r0 := pxRng i0
  have r1 := pxRng i1
  refine lv_aload_n hx hb dX6_newDrawer_0 rfl (lv_at hl 0 rfl) ?_
  refine lv_iload_n hx hb dX6_newDrawer_1 rfl (lv_at hl 1 rfl) ?_
  refine pxCv (va_runV (As := [.int i0]) (rest := []) ⟨hx, hb, hml, hown, hts⟩ (k232_X6_requireDrawer l G s.heap.size a0 i0 ⟨by omega, by omega⟩) (cwV 1 hts (pxGV pm632 pm633 pm634 pm2 pm635) rfl rfl rfl (by decide +kernel) ⟨(Nat.le_of_ble_eq_true rfl), (Nat.le_of_ble_eq_true rfl)⟩) (pxV (ci := 5) (q0 := 0) hG hZ hP hD hS hA [] rfl (by decide) rfl rfl) rfl rfl hl.1 rfl (lv_room (Nat.le_of_ble_eq_true rfl)) dX6_newDrawer_2 ⟨(Nat.le_of_ble_eq_true rfl), (Nat.le_of_ble_eq_true rfl)⟩) hP hD hS hA [] [0, 1, 2, 3, 4, 5, 6, 7] rfl rfl (by decide) (by decide) (fun q1 H locs hP hD hS => ?_)
  have hP : va_P G.1 pxCl [(a0, .inr (5, [.ref a8, .ref a9, .ref a10, .ref a11, .ref a1, .int 0, .int 0, .int (-1)])), (a1, .inl (G.2.1 6, 3, .inr (.inr (.inr (.inr (va_up (va_up (va_up (fun _ => none) 0 (some a2)) 1 (some a4)) 2 (some a6))))))), (a2, .inr (0, [.ref a3, .ref a12, .int 0, .int 0])), (a3, .inl (G.2.1 0, 6, .inl (fun _ => 0))), (a4, .inr (0, [.ref a5, .ref a13, .int 0, .int 0])), (a5, .inl (G.2.1 0, 6, .inl (fun _ => 0))), (a6, .inr (0, [.ref a7, .ref a14, .int 0, .int 0])), (a7, .inl (G.2.1 0, 6, .inl (fun _ => 0)))] H := hP
  have hD : va_D A [(a0, .inr (5, [.ref a8, .ref a9, .ref a10, .ref a11, .ref a1, .int 0, .int 0, .int (-1)])), (a1, .inl (G.2.1 6, 3, .inr (.inr (.inr (.inr (va_up (va_up (va_up (fun _ => none) 0 (some a2)) 1 (some a4)) 2 (some a6))))))), (a2, .inr (0, [.ref a3, .ref a12, .int 0, .int 0])), (a3, .inl (G.2.1 0, 6, .inl (fun _ => 0))), (a4, .inr (0, [.ref a5, .ref a13, .int 0, .int 0])), (a5, .inl (G.2.1 0, 6, .inl (fun _ => 0))), (a6, .inr (0, [.ref a7, .ref a14, .int 0, .int 0])), (a7, .inl (G.2.1 0, 6, .inl (fun _ => 0)))] := hD
  refine lv_iload_n hx hb dX6_newDrawer_5 rfl (lv_at hl 2 rfl) ?_
  refine pxCi (va_runS (As := [.int 0]) (rest := []) ⟨hx, hb, hml, hown, hts⟩ (k241_X6_isSort l G H.size) (va_cwS 1 hts (pxGS pm650 pm651 pm2 pm652) rfl rfl rfl (by decide +kernel) ⟨(Nat.le_of_ble_eq_true rfl), (Nat.le_of_ble_eq_true rfl)⟩) (pxS hG hZ hP hD hS hA [] rfl (by decide)) rfl rfl hl.1 rfl (lv_room (Nat.le_of_ble_eq_true rfl)) dX6_newDrawer_6 ⟨(Nat.le_of_ble_eq_true rfl), (Nat.le_of_ble_eq_true rfl)⟩) hP hD hS hA [] [0, 1, 2, 3, 4, 5, 6, 7] rfl rfl (by decide) (by decide) (fun r4 q3 H locs hw hP hD hS => ?_)
  have hw : r4 = 1 := hw
  subst hw
  have hP : va_P G.1 pxCl [(a0, .inr (5, [.ref a8, .ref a9, .ref a10, .ref a11, .ref a1, .int 0, .int 0, .int (-1)])), (a1, .inl (G.2.1 6, 3, .inr (.inr (.inr (.inr (va_up (va_up (va_up (fun _ => none) 0 (some a2)) 1 (some a4)) 2 (some a6))))))), (a2, .inr (0, [.ref a3, .ref a12, .int 0, .int 0])), (a3, .inl (G.2.1 0, 6, .inl (fun _ => 0))), (a4, .inr (0, [.ref a5, .ref a13, .int 0, .int 0])), (a5, .inl (G.2.1 0, 6, .inl (fun _ => 0))), (a6, .inr (0, [.ref a7, .ref a14, .int 0, .int 0])), (a7, .inl (G.2.1 0, 6, .inl (fun _ => 0)))] H := hP
  have hD : va_D A [(a0, .inr (5, [.ref a8, .ref a9, .ref a10, .ref a11, .ref a1, .int 0, .int 0, .int (-1)])), (a1, .inl (G.2.1 6, 3, .inr (.inr (.inr (.inr (va_up (va_up (va_up (fun _ => none) 0 (some a2)) 1 (some a4)) 2 (some a6))))))), (a2, .inr (0, [.ref a3, .ref a12, .int 0, .int 0])), (a3, .inl (G.2.1 0, 6, .inl (fun _ => 0))), (a4, .inr (0, [.ref a5, .ref a13, .int 0, .int 0])), (a5, .inl (G.2.1 0, 6, .inl (fun _ => 0))), (a6, .inr (0, [.ref a7, .ref a14, .int 0, .int 0])), (a7, .inl (G.2.1 0, 6, .inl (fun _ => 0)))] := hD
  refine lv_if_eq (tgt := 23) hx hb dX6_newDrawer_9 (by decide) (fun h9 => absurd h9 (by decide)) (fun _ => ?_)
  refine lv_iload_n hx hb dX6_newDrawer_12 rfl (lv_at hl 3 rfl) ?_
  refine lv_iconst (v := 1) hx hb dX6_newDrawer_13 (by decide) ?_
  refine lv_icmp_lt (tgt := 23) hx hb dX6_newDrawer_14 (by decide) (fun h9 => absurd h9 (pxNlt 1 (by decide) (by omega))) (fun _ => ?_)
  refine lv_iload_n hx hb dX6_newDrawer_17 rfl (lv_at hl 3 rfl) ?_
  refine lv_bipush (v := 6) hx hb dX6_newDrawer_18 (by decide) ?_
  refine lv_icmp_le (tgt := 34) hx hb dX6_newDrawer_20 (by decide) (fun _ => ?_) (fun h9 => absurd (pxLe 6 (by decide) (by omega)) h9)
  refine lv_aload_n hx hb dX6_newDrawer_34 rfl (lv_at hl 0 rfl) ?_
  refine va_get (D := G.1) (ci := 5) (v := .ref a1) (C := RX6) (T := TX6) (N := 8) hx hb hts piX6 hown hK hP 0 rfl rfl 4 (by decide) (hts _ pm57) (fun _ h9 => h9) rfl dX6_newDrawer_35 ?_
  refine lv_iload_n hx hb dX6_newDrawer_38 rfl (lv_at hl 1 rfl) ?_
  rcases Int.lt_or_le i0.toInt 1 with f1 | f1
  · skip
    obtain rfl : i0 = 0 := pxEq 0 (by have h9 : (0 : Int32).toInt = 0 := (by decide); omega)
    refine va_aldq hx hb hK hP 1 6 rfl rfl (show ¬ ((0 : Int32) < 0 ∨ 3 ≤ (0 : Int32).toNatClampNeg) by decide +kernel) dX6_newDrawer_39 ?_
    refine pxTop (w := .ref a2) rfl ?_
    refine lv_iload_n hx hb dX6_newDrawer_40 rfl (lv_at hl 2 rfl) ?_
    refine lv_iload_n hx hb dX6_newDrawer_41 rfl (lv_at hl 3 rfl) ?_
    refine pxCi (va_runV (As := [.int 0, .int i1]) (rest := []) ⟨hx, hb, hml, hown, hts⟩ (k247_X1_renew l G H.size a2 a3 a12 i1) (cwV 2 hts (pxGV pm659 pm660 pm661 pm60 pm662) rfl rfl rfl (by decide +kernel) ⟨(Nat.le_of_ble_eq_true rfl), (Nat.le_of_ble_eq_true rfl)⟩) (pxV (ci := 0) (q0 := 2) hG hZ hP hD hS hA [2, 3] rfl (by decide) rfl rfl) rfl rfl hl.1 rfl (lv_room (Nat.le_of_ble_eq_true rfl)) dX6_newDrawer_42 ⟨(Nat.le_of_ble_eq_true rfl), (Nat.le_of_ble_eq_true rfl)⟩) hP hD hS hA [2, 3] [0, 1, 4, 5, 6, 7] rfl rfl (by decide) (by decide) (fun r6 q5 H locs hw hP hD hS => ?_)
    have hw : r6 = 0 := hw
    subst hw
    have hP : va_P G.1 pxCl [(a0, .inr (5, [.ref a8, .ref a9, .ref a10, .ref a11, .ref a1, .int 0, .int 0, .int (-1)])), (a1, .inl (G.2.1 6, 3, .inr (.inr (.inr (.inr (va_up (va_up (va_up (fun _ => none) 0 (some a2)) 1 (some a4)) 2 (some a6))))))), (a4, .inr (0, [.ref a5, .ref a13, .int 0, .int 0])), (a5, .inl (G.2.1 0, 6, .inl (fun _ => 0))), (a6, .inr (0, [.ref a7, .ref a14, .int 0, .int 0])), (a7, .inl (G.2.1 0, 6, .inl (fun _ => 0))), (a2, .inr (0, [.ref a3, .ref a12, .int 0, .int i1])), (a3, .inl (G.2.1 0, 6, .inl (upd (upd (upd (upd (upd (upd (fun _ => 0) 0 (-1)) 1 (-1)) 2 (-1)) 3 (-1)) 4 (-1)) 5 (-1))))] H := hP
    have hD : va_D A [(a0, .inr (5, [.ref a8, .ref a9, .ref a10, .ref a11, .ref a1, .int 0, .int 0, .int (-1)])), (a1, .inl (G.2.1 6, 3, .inr (.inr (.inr (.inr (va_up (va_up (va_up (fun _ => none) 0 (some a2)) 1 (some a4)) 2 (some a6))))))), (a4, .inr (0, [.ref a5, .ref a13, .int 0, .int 0])), (a5, .inl (G.2.1 0, 6, .inl (fun _ => 0))), (a6, .inr (0, [.ref a7, .ref a14, .int 0, .int 0])), (a7, .inl (G.2.1 0, 6, .inl (fun _ => 0))), (a2, .inr (0, [.ref a3, .ref a12, .int 0, .int i1])), (a3, .inl (G.2.1 0, 6, .inl (upd (upd (upd (upd (upd (upd (fun _ => 0) 0 (-1)) 1 (-1)) 2 (-1)) 3 (-1)) 4 (-1)) 5 (-1))))] := hD
    have hD : va_D A [] := hD.sub [] (by decide) rfl
    have hP : va_P G.1 pxCl [] H := hP.sub [] rfl
    refine W.widen (k := 0) (n := 0) (Nat.le_of_ble_eq_true rfl) (Nat.le_of_ble_eq_true rfl) ?_
    exact W.iret (v := 0) hx hb hr (fun t ht hW => ⟨⟨0, (fun _ => 0), rfl, rfl, by rw [ht]; exact hP, hD⟩, hS.F ht⟩) hS.2.2 dX6_newDrawer_45
  · skip
    rcases Int.lt_or_le i0.toInt 2 with f2 | f2
    · skip
      obtain rfl : i0 = 1 := pxEq 1 (by have h9 : (1 : Int32).toInt = 1 := (by decide); omega)
      refine va_aldq hx hb hK hP 1 6 rfl rfl (show ¬ ((1 : Int32) < 0 ∨ 3 ≤ (1 : Int32).toNatClampNeg) by decide +kernel) dX6_newDrawer_39 ?_
      refine pxTop (w := .ref a4) rfl ?_
      refine lv_iload_n hx hb dX6_newDrawer_40 rfl (lv_at hl 2 rfl) ?_
      refine lv_iload_n hx hb dX6_newDrawer_41 rfl (lv_at hl 3 rfl) ?_
      refine pxCi (va_runV (As := [.int 0, .int i1]) (rest := []) ⟨hx, hb, hml, hown, hts⟩ (k247_X1_renew l G H.size a4 a5 a13 i1) (cwV 2 hts (pxGV pm659 pm660 pm661 pm60 pm662) rfl rfl rfl (by decide +kernel) ⟨(Nat.le_of_ble_eq_true rfl), (Nat.le_of_ble_eq_true rfl)⟩) (pxV (ci := 0) (q0 := 4) hG hZ hP hD hS hA [4, 5] rfl (by decide) rfl rfl) rfl rfl hl.1 rfl (lv_room (Nat.le_of_ble_eq_true rfl)) dX6_newDrawer_42 ⟨(Nat.le_of_ble_eq_true rfl), (Nat.le_of_ble_eq_true rfl)⟩) hP hD hS hA [4, 5] [0, 1, 2, 3, 6, 7] rfl rfl (by decide) (by decide) (fun r6 q5 H locs hw hP hD hS => ?_)
      have hw : r6 = 0 := hw
      subst hw
      have hP : va_P G.1 pxCl [(a0, .inr (5, [.ref a8, .ref a9, .ref a10, .ref a11, .ref a1, .int 0, .int 0, .int (-1)])), (a1, .inl (G.2.1 6, 3, .inr (.inr (.inr (.inr (va_up (va_up (va_up (fun _ => none) 0 (some a2)) 1 (some a4)) 2 (some a6))))))), (a2, .inr (0, [.ref a3, .ref a12, .int 0, .int 0])), (a3, .inl (G.2.1 0, 6, .inl (fun _ => 0))), (a6, .inr (0, [.ref a7, .ref a14, .int 0, .int 0])), (a7, .inl (G.2.1 0, 6, .inl (fun _ => 0))), (a4, .inr (0, [.ref a5, .ref a13, .int 0, .int i1])), (a5, .inl (G.2.1 0, 6, .inl (upd (upd (upd (upd (upd (upd (fun _ => 0) 0 (-1)) 1 (-1)) 2 (-1)) 3 (-1)) 4 (-1)) 5 (-1))))] H := hP
      have hD : va_D A [(a0, .inr (5, [.ref a8, .ref a9, .ref a10, .ref a11, .ref a1, .int 0, .int 0, .int (-1)])), (a1, .inl (G.2.1 6, 3, .inr (.inr (.inr (.inr (va_up (va_up (va_up (fun _ => none) 0 (some a2)) 1 (some a4)) 2 (some a6))))))), (a2, .inr (0, [.ref a3, .ref a12, .int 0, .int 0])), (a3, .inl (G.2.1 0, 6, .inl (fun _ => 0))), (a6, .inr (0, [.ref a7, .ref a14, .int 0, .int 0])), (a7, .inl (G.2.1 0, 6, .inl (fun _ => 0))), (a4, .inr (0, [.ref a5, .ref a13, .int 0, .int i1])), (a5, .inl (G.2.1 0, 6, .inl (upd (upd (upd (upd (upd (upd (fun _ => 0) 0 (-1)) 1 (-1)) 2 (-1)) 3 (-1)) 4 (-1)) 5 (-1))))] := hD
      have hD : va_D A [] := hD.sub [] (by decide) rfl
      have hP : va_P G.1 pxCl [] H := hP.sub [] rfl
      refine W.widen (k := 0) (n := 0) (Nat.le_of_ble_eq_true rfl) (Nat.le_of_ble_eq_true rfl) ?_
      exact W.iret (v := 0) hx hb hr (fun t ht hW => ⟨⟨0, (fun _ => 0), rfl, rfl, by rw [ht]; exact hP, hD⟩, hS.F ht⟩) hS.2.2 dX6_newDrawer_45
    · skip
      obtain rfl : i0 = 2 := pxEq 2 (by have h9 : (2 : Int32).toInt = 2 := (by decide); omega)
      refine va_aldq hx hb hK hP 1 6 rfl rfl (show ¬ ((2 : Int32) < 0 ∨ 3 ≤ (2 : Int32).toNatClampNeg) by decide +kernel) dX6_newDrawer_39 ?_
      refine pxTop (w := .ref a6) rfl ?_
      refine lv_iload_n hx hb dX6_newDrawer_40 rfl (lv_at hl 2 rfl) ?_
      refine lv_iload_n hx hb dX6_newDrawer_41 rfl (lv_at hl 3 rfl) ?_
      refine pxCi (va_runV (As := [.int 0, .int i1]) (rest := []) ⟨hx, hb, hml, hown, hts⟩ (k247_X1_renew l G H.size a6 a7 a14 i1) (cwV 2 hts (pxGV pm659 pm660 pm661 pm60 pm662) rfl rfl rfl (by decide +kernel) ⟨(Nat.le_of_ble_eq_true rfl), (Nat.le_of_ble_eq_true rfl)⟩) (pxV (ci := 0) (q0 := 6) hG hZ hP hD hS hA [6, 7] rfl (by decide) rfl rfl) rfl rfl hl.1 rfl (lv_room (Nat.le_of_ble_eq_true rfl)) dX6_newDrawer_42 ⟨(Nat.le_of_ble_eq_true rfl), (Nat.le_of_ble_eq_true rfl)⟩) hP hD hS hA [6, 7] [0, 1, 2, 3, 4, 5] rfl rfl (by decide) (by decide) (fun r6 q5 H locs hw hP hD hS => ?_)
      have hw : r6 = 0 := hw
      subst hw
      have hP : va_P G.1 pxCl [(a0, .inr (5, [.ref a8, .ref a9, .ref a10, .ref a11, .ref a1, .int 0, .int 0, .int (-1)])), (a1, .inl (G.2.1 6, 3, .inr (.inr (.inr (.inr (va_up (va_up (va_up (fun _ => none) 0 (some a2)) 1 (some a4)) 2 (some a6))))))), (a2, .inr (0, [.ref a3, .ref a12, .int 0, .int 0])), (a3, .inl (G.2.1 0, 6, .inl (fun _ => 0))), (a4, .inr (0, [.ref a5, .ref a13, .int 0, .int 0])), (a5, .inl (G.2.1 0, 6, .inl (fun _ => 0))), (a6, .inr (0, [.ref a7, .ref a14, .int 0, .int i1])), (a7, .inl (G.2.1 0, 6, .inl (upd (upd (upd (upd (upd (upd (fun _ => 0) 0 (-1)) 1 (-1)) 2 (-1)) 3 (-1)) 4 (-1)) 5 (-1))))] H := hP
      have hD : va_D A [(a0, .inr (5, [.ref a8, .ref a9, .ref a10, .ref a11, .ref a1, .int 0, .int 0, .int (-1)])), (a1, .inl (G.2.1 6, 3, .inr (.inr (.inr (.inr (va_up (va_up (va_up (fun _ => none) 0 (some a2)) 1 (some a4)) 2 (some a6))))))), (a2, .inr (0, [.ref a3, .ref a12, .int 0, .int 0])), (a3, .inl (G.2.1 0, 6, .inl (fun _ => 0))), (a4, .inr (0, [.ref a5, .ref a13, .int 0, .int 0])), (a5, .inl (G.2.1 0, 6, .inl (fun _ => 0))), (a6, .inr (0, [.ref a7, .ref a14, .int 0, .int i1])), (a7, .inl (G.2.1 0, 6, .inl (upd (upd (upd (upd (upd (upd (fun _ => 0) 0 (-1)) 1 (-1)) 2 (-1)) 3 (-1)) 4 (-1)) 5 (-1))))] := hD
      have hD : va_D A [] := hD.sub [] (by decide) rfl
      have hP : va_P G.1 pxCl [] H := hP.sub [] rfl
      refine W.widen (k := 0) (n := 0) (Nat.le_of_ble_eq_true rfl) (Nat.le_of_ble_eq_true rfl) ?_
      exact W.iret (v := 0) hx hb hr (fun t ht hW => ⟨⟨0, (fun _ => 0), rfl, rfl, by rw [ht]; exact hP, hD⟩, hS.F ht⟩) hS.2.2 dX6_newDrawer_45
set_option maxHeartbeats 4000000 in
set_option maxRecDepth 100000 in
theorem k247_L_newDrawer (l : Launch) (G : pxG) (sz : Nat) (a0 a1 a2 a3 a4 a5 a6 a7 a8 a9 a10 a11 a12 a13 a14 a15 : Nat) (i0 i1 : Int32) (h0 : 0 ≤ i0.toInt ∧ i0.toInt ≤ 2) (h1 : 1 ≤ i1.toInt ∧ i1.toInt ≤ 6) : Met l yL_newDrawer (Cond.codeWith yL_newDrawer cL_newDrawer 6 (some .int) [(0, 12, 15, 67), (0, 12, 19, 51)] :: pxAll) ({ frames := 3, cells := 0, slots := 0, locals := 69 } : Room) (va_Pc [.ref a0, .int i0, .int 0, .int i1, .ref a8] (pxPre G [(a0, .inr (5, [.ref a9, .ref a10, .ref a11, .ref a12, .ref a1, .int 0, .int 0, .int (-1)])), (a1, .inl (G.2.1 6, 3, .inr (.inr (.inr (.inr (va_up (va_up (va_up (fun _ => none) 0 (some a2)) 1 (some a4)) 2 (some a6))))))), (a2, .inr (0, [.ref a3, .ref a13, .int 0, .int 0])), (a3, .inl (G.2.1 0, 6, .inl (fun _ => 0))), (a4, .inr (0, [.ref a5, .ref a14, .int 0, .int 0])), (a5, .inl (G.2.1 0, 6, .inl (fun _ => 0))), (a6, .inr (0, [.ref a7, .ref a15, .int 0, .int 0])), (a7, .inl (G.2.1 0, 6, .inl (fun _ => 0))), (a8, .inl (G.2.1 1, 1, .inr (.inl (fun _ => 0))))] sz)) (pxQi G (fun r => r = 0) (fun q => [(a8, .inl (G.2.1 1, 1, .inr (.inl (vp_updL (fun _ => 0) 0 0))))]) (va_A [(a0, .inr (5, [.ref a9, .ref a10, .ref a11, .ref a12, .ref a1, .int 0, .int 0, .int (-1)])), (a1, .inl (G.2.1 6, 3, .inr (.inr (.inr (.inr (va_up (va_up (va_up (fun _ => none) 0 (some a2)) 1 (some a4)) 2 (some a6))))))), (a2, .inr (0, [.ref a3, .ref a13, .int 0, .int 0])), (a3, .inl (G.2.1 0, 6, .inl (fun _ => 0))), (a4, .inr (0, [.ref a5, .ref a14, .int 0, .int 0])), (a5, .inl (G.2.1 0, 6, .inl (fun _ => 0))), (a6, .inr (0, [.ref a7, .ref a15, .int 0, .int 0])), (a7, .inl (G.2.1 0, 6, .inl (fun _ => 0))), (a8, .inl (G.2.1 1, 1, .inr (.inl (fun _ => 0))))] sz)) 0 0 (va_A [(a0, .inr (5, [.ref a9, .ref a10, .ref a11, .ref a12, .ref a1, .int 0, .int 0, .int (-1)])), (a1, .inl (G.2.1 6, 3, .inr (.inr (.inr (.inr (va_up (va_up (va_up (fun _ => none) 0 (some a2)) 1 (some a4)) 2 (some a6))))))), (a2, .inr (0, [.ref a3, .ref a13, .int 0, .int 0])), (a3, .inl (G.2.1 0, 6, .inl (fun _ => 0))), (a4, .inr (0, [.ref a5, .ref a14, .int 0, .int 0])), (a5, .inl (G.2.1 0, 6, .inl (fun _ => 0))), (a6, .inr (0, [.ref a7, .ref a15, .int 0, .int 0])), (a7, .inl (G.2.1 0, 6, .inl (fun _ => 0))), (a8, .inl (G.2.1 1, 1, .inr (.inl (fun _ => 0))))] sz) := by
  refine va_MetW (cc := cL_newDrawer) (maxL := 6) (ret := (some .int)) (hh := [(0, 12, 15, 67), (0, 12, 19, 51)]) (by decide) rfl ?_
  intro p e s m args below meth c s₁ B hml hv
  obtain ⟨rfl, hsz, hG, hZ, hP, hD0⟩ := hv
  have hx := B.exec
  have hb := B.bytes
  have hr := B.returns
  have hts0 := atoms_spec (ws := Cond.codeWith yL_newDrawer cL_newDrawer 6 (some .int) [(0, 12, 15, 67), (0, 12, 19, 51)] :: pxAll) B.pre
  have hts : ∀ w ∈ pxAll, w.before _ s = true := fun w h => hts0 w (List.mem_cons_of_mem _ h)
  have hown : s.vm.findClass RL = some m.cls := findClass_of_methodNamed B.named
  have hlocks := B.notSynchronized
  have hTab := vx_table (x := yL_newDrawer) B (hts0 _ List.mem_cons_self)
  subst hsz
  have hK := hG.1
  have hD := hD0.self (sz := s.heap.size)
  generalize hAe : va_A [(a0, .inr (5, [.ref a9, .ref a10, .ref a11, .ref a12, .ref a1, .int 0, .int 0, .int (-1)])), (a1, .inl (G.2.1 6, 3, .inr (.inr (.inr (.inr (va_up (va_up (va_up (fun _ => none) 0 (some a2)) 1 (some a4)) 2 (some a6))))))), (a2, .inr (0, [.ref a3, .ref a13, .int 0, .int 0])), (a3, .inl (G.2.1 0, 6, .inl (fun _ => 0))), (a4, .inr (0, [.ref a5, .ref a14, .int 0, .int 0])), (a5, .inl (G.2.1 0, 6, .inl (fun _ => 0))), (a6, .inr (0, [.ref a7, .ref a15, .int 0, .int 0])), (a7, .inl (G.2.1 0, 6, .inl (fun _ => 0))), (a8, .inl (G.2.1 1, 1, .inr (.inl (fun _ => 0))))] s.heap.size = A at hD hZ ⊢
  have hA : ∀ q : Nat, s.heap.size ≤ q → A q := fun q h => by rw [← hAe]; exact Or.inr h
  have hS : va_S A s.heap s.heap [] := va_S.rf
  have hl := lv_entry ([.ref a0, .int i0, .int 0, .int i1, .ref a8]) (n := 6) (Nat.le_of_ble_eq_true rfl)
  rw [lg_entry_eq]
  generalize (lg_sl ([.ref a0, .int i0, .int 0, .int i1, .ref a8]) ++ List.replicate (6 - (lg_sl ([.ref a0, .int i0, .int 0, .int i1, .ref a8])).length) Slot.unset).toArray = ls at hl ⊢
  have hl : lv_has ls 6 [(0, .ref a0), (1, .int i0), (2, .int 0), (3, .int i1), (4, .ref a8)] := hl
  refine lv_aload hx hb dL_newDrawer_0 (lv_at hl 4 rfl) ?_
  refine lv_iconst (v := 0) hx hb dL_newDrawer_2 (by decide) ?_
  refine lv_aload_n hx hb dL_newDrawer_3 rfl (lv_at hl 0 rfl) ?_
  refine lv_iload_n hx hb dL_newDrawer_4 rfl (lv_at hl 1 rfl) ?_
  refine lv_iload_n hx hb dL_newDrawer_5 rfl (lv_at hl 2 rfl) ?_
  refine lv_iload_n hx hb dL_newDrawer_6 rfl (lv_at hl 3 rfl) ?_
  refine pxCi (va_runV (As := [.int i0, .int 0, .int i1]) (rest := [.int 0, .ref a8]) ⟨hx, hb, hml, hown, hts⟩ (k247_X6_newDrawer l G s.heap.size a0 a1 a2 a3 a4 a5 a6 a7 a9 a10 a11 a12 a13 a14 a15 i0 i1 ⟨by omega, by omega⟩ ⟨by omega, by omega⟩) (cwV 3 hts (pxGV pm636 pm637 pm638 pm2 pm639) rfl rfl rfl (by decide +kernel) ⟨(Nat.le_of_ble_eq_true rfl), (Nat.le_of_ble_eq_true rfl)⟩) (pxV (ci := 5) (q0 := 0) hG hZ hP hD hS hA [0, 1, 2, 3, 4, 5, 6, 7] rfl (by decide) rfl rfl) rfl rfl hl.1 rfl (lv_room (Nat.le_of_ble_eq_true rfl)) dL_newDrawer_7 ⟨(Nat.le_of_ble_eq_true rfl), (Nat.le_of_ble_eq_true rfl)⟩) hP hD hS hA [0, 1, 2, 3, 4, 5, 6, 7] [8] rfl rfl (by decide) (by decide) (fun r2 q1 H locs hw hP hD hS => ?_)
  have hw : r2 = 0 := hw
  subst hw
  have hP : va_P G.1 pxCl [(a8, .inl (G.2.1 1, 1, .inr (.inl (fun _ => 0))))] H := hP
  have hD : va_D A [(a8, .inl (G.2.1 1, 1, .inr (.inl (fun _ => 0))))] := hD
  refine lv_i2l (v := 0) hx hb dL_newDrawer_10 (by decide) ?_
  refine va_last hx hb hK hP hD hS 0 1 rfl rfl (show ¬ ((0 : Int32) < 0 ∨ 1 ≤ (0 : Int32).toNatClampNeg) by decide +kernel) dL_newDrawer_11 (fun H locs hP hD hS => ?_)
  have hP : va_P G.1 pxCl [(a8, .inl (G.2.1 1, 1, .inr (.inl (vp_updL (fun _ => 0) 0 0))))] H := hP
  have hD : va_D A [(a8, .inl (G.2.1 1, 1, .inr (.inl (vp_updL (fun _ => 0) 0 0))))] := hD
  refine lv_goto (tgt := 23) hx hb dL_newDrawer_12 (by decide) ?_
  refine lv_iconst (v := 0) hx hb dL_newDrawer_23 (by decide) ?_
  refine W.widen (k := 0) (n := 0) (Nat.le_of_ble_eq_true rfl) (Nat.le_of_ble_eq_true rfl) ?_
  exact W.iret (v := 0) hx hb hr (fun t ht hW => ⟨⟨0, (fun _ => 0), rfl, rfl, by rw [ht]; exact hP, hD⟩, hS.F ht⟩) hS.2.2 dL_newDrawer_24
set_option maxHeartbeats 4000000 in
set_option maxRecDepth 100000 in
theorem k251_X7_in (l : Launch) (G : pxG) (sz : Nat) (i0 : Int32) (h0 : 1 ≤ i0.toInt ∧ i0.toInt ≤ 6) : Met l yX7_in (Cond.code yX7_in cX7_in 3 (some .boolean) :: pxAll) ({ frames := 0, cells := 0, slots := 0, locals := 0 } : Room) (va_Pc [.int i0, .int 1, .int 6] (pxPre G [] sz)) (pxQi G (fun r => r = 1) (fun q => []) (va_A [] sz)) 0 0 (va_A [] sz) := by
  refine Met.ofW (cc := cX7_in) (maxL := 3) (ret := (some .boolean)) (by decide) rfl ?_
  intro p e s m args below meth c s₁ B hml hv
  obtain ⟨rfl, hsz, hG, hZ, hP, hD0⟩ := hv
  have hx := B.exec
  have hb := B.bytes
  have hr := B.returns
  have hts0 := atoms_spec (ws := Cond.code yX7_in cX7_in 3 (some .boolean) :: pxAll) B.pre
  have hts : ∀ w ∈ pxAll, w.before _ s = true := fun w h => hts0 w (List.mem_cons_of_mem _ h)
  have hown : s.vm.findClass RX7 = some m.cls := findClass_of_methodNamed B.named
  have hlocks := B.notSynchronized
  subst hsz
  have hK := hG.1
  have hD := hD0.self (sz := s.heap.size)
  generalize hAe : va_A [] s.heap.size = A at hD hZ ⊢
  have hA : ∀ q : Nat, s.heap.size ≤ q → A q := fun q h => by rw [← hAe]; exact Or.inr h
  have hS : va_S A s.heap s.heap [] := va_S.rf
  have hl := lv_entry ([.int i0, .int 1, .int 6]) (n := 3) (Nat.le_of_ble_eq_true rfl)
  rw [lg_entry_eq]
  generalize (lg_sl ([.int i0, .int 1, .int 6]) ++ List.replicate (3 - (lg_sl ([.int i0, .int 1, .int 6])).length) Slot.unset).toArray = ls at hl ⊢
  have hl : lv_has ls 3 [(0, .int i0), (1, .int 1), (2, .int 6)] := hl
  refine lv_iload_n hx hb dX7_in_0 rfl (lv_at hl 0 rfl) ?_
  refine lv_iload_n hx hb dX7_in_1 rfl (lv_at hl 1 rfl) ?_
  refine lv_icmp_lt (tgt := 14) hx hb dX7_in_2 (by decide) (fun h9 => absurd h9 (pxNlt 1 (by decide) (by omega))) (fun _ => ?_)
  refine lv_iload_n hx hb dX7_in_5 rfl (lv_at hl 0 rfl) ?_
  refine lv_iload_n hx hb dX7_in_6 rfl (lv_at hl 2 rfl) ?_
  refine lv_icmp_gt (tgt := 14) hx hb dX7_in_7 (by decide) (fun h9 => absurd h9 (pxNlt2 6 (by decide) (by omega))) (fun _ => ?_)
  refine lv_iconst (v := 1) hx hb dX7_in_10 (by decide) ?_
  refine lv_goto (tgt := 15) hx hb dX7_in_11 (by decide) ?_
  refine W.widen (k := 0) (n := 0) (Nat.le_of_ble_eq_true rfl) (Nat.le_of_ble_eq_true rfl) ?_
  exact W.zret (ty := .boolean) (v := 1) hx hb hr rfl (fun t ht hW => ⟨⟨1, (fun _ => 0), rfl, rfl, by rw [ht]; exact hP, hD⟩, hS.F ht⟩) hS.2.2 dX7_in_15
set_option maxHeartbeats 4000000 in
set_option maxRecDepth 100000 in
theorem k252_X7_filedAt (l : Launch) (G : pxG) (sz : Nat) : Met l yX7_filedAt (Cond.code yX7_filedAt cX7_filedAt 2 (some .int) :: pxAll) ({ frames := 0, cells := 0, slots := 0, locals := 0 } : Room) (va_Pc [.int 0, .int 0] (pxPre G [] sz)) (pxQi G (fun r => r = 0) (fun q => []) (va_A [] sz)) 0 0 (va_A [] sz) := by
  refine Met.ofW (cc := cX7_filedAt) (maxL := 2) (ret := (some .int)) (by decide) rfl ?_
  intro p e s m args below meth c s₁ B hml hv
  obtain ⟨rfl, hsz, hG, hZ, hP, hD0⟩ := hv
  have hx := B.exec
  have hb := B.bytes
  have hr := B.returns
  have hts0 := atoms_spec (ws := Cond.code yX7_filedAt cX7_filedAt 2 (some .int) :: pxAll) B.pre
  have hts : ∀ w ∈ pxAll, w.before _ s = true := fun w h => hts0 w (List.mem_cons_of_mem _ h)
  have hown : s.vm.findClass RX7 = some m.cls := findClass_of_methodNamed B.named
  have hlocks := B.notSynchronized
  subst hsz
  have hK := hG.1
  have hD := hD0.self (sz := s.heap.size)
  generalize hAe : va_A [] s.heap.size = A at hD hZ ⊢
  have hA : ∀ q : Nat, s.heap.size ≤ q → A q := fun q h => by rw [← hAe]; exact Or.inr h
  have hS : va_S A s.heap s.heap [] := va_S.rf
  have hl := lv_entry ([.int 0, .int 0]) (n := 2) (Nat.le_of_ble_eq_true rfl)
  rw [lg_entry_eq]
  generalize (lg_sl ([.int 0, .int 0]) ++ List.replicate (2 - (lg_sl ([.int 0, .int 0])).length) Slot.unset).toArray = ls at hl ⊢
  have hl : lv_has ls 2 [(0, .int 0), (1, .int 0)] := hl
  refine lv_iconst (v := 2) hx hb dX7_filedAt_0 (by decide) ?_
  refine lv_bipush (v := 6) hx hb dX7_filedAt_1 (by decide) ?_
  refine lv_iload_n hx hb dX7_filedAt_3 rfl (lv_at hl 0 rfl) ?_
  refine lv_imul hx hb dX7_filedAt_4 ?_
  refine pxTop (w := .int 0) (congrArg Value.int (by decide)) ?_
  refine lv_iload_n hx hb dX7_filedAt_5 rfl (lv_at hl 1 rfl) ?_
  refine lv_iadd hx hb dX7_filedAt_6 ?_
  refine pxTop (w := .int 0) (congrArg Value.int (by decide)) ?_
  refine lv_imul hx hb dX7_filedAt_7 ?_
  refine pxTop (w := .int 0) (congrArg Value.int (by decide)) ?_
  refine W.widen (k := 0) (n := 0) (Nat.le_of_ble_eq_true rfl) (Nat.le_of_ble_eq_true rfl) ?_
  exact W.iret (v := 0) hx hb hr (fun t ht hW => ⟨⟨0, (fun _ => 0), rfl, rfl, by rw [ht]; exact hP, hD⟩, hS.F ht⟩) hS.2.2 dX7_filedAt_8
set_option maxHeartbeats 4000000 in
set_option maxRecDepth 100000 in
theorem k253_X7_filedAt (l : Launch) (G : pxG) (sz : Nat) : Met l yX7_filedAt (Cond.code yX7_filedAt cX7_filedAt 2 (some .int) :: pxAll) ({ frames := 0, cells := 0, slots := 0, locals := 0 } : Room) (va_Pc [.int 0, .int 1] (pxPre G [] sz)) (pxQi G (fun r => r = 2) (fun q => []) (va_A [] sz)) 0 0 (va_A [] sz) := by
  refine Met.ofW (cc := cX7_filedAt) (maxL := 2) (ret := (some .int)) (by decide) rfl ?_
  intro p e s m args below meth c s₁ B hml hv
  obtain ⟨rfl, hsz, hG, hZ, hP, hD0⟩ := hv
  have hx := B.exec
  have hb := B.bytes
  have hr := B.returns
  have hts0 := atoms_spec (ws := Cond.code yX7_filedAt cX7_filedAt 2 (some .int) :: pxAll) B.pre
  have hts : ∀ w ∈ pxAll, w.before _ s = true := fun w h => hts0 w (List.mem_cons_of_mem _ h)
  have hown : s.vm.findClass RX7 = some m.cls := findClass_of_methodNamed B.named
  have hlocks := B.notSynchronized
  subst hsz
  have hK := hG.1
  have hD := hD0.self (sz := s.heap.size)
  generalize hAe : va_A [] s.heap.size = A at hD hZ ⊢
  have hA : ∀ q : Nat, s.heap.size ≤ q → A q := fun q h => by rw [← hAe]; exact Or.inr h
  have hS : va_S A s.heap s.heap [] := va_S.rf
  have hl := lv_entry ([.int 0, .int 1]) (n := 2) (Nat.le_of_ble_eq_true rfl)
  rw [lg_entry_eq]
  generalize (lg_sl ([.int 0, .int 1]) ++ List.replicate (2 - (lg_sl ([.int 0, .int 1])).length) Slot.unset).toArray = ls at hl ⊢
  have hl : lv_has ls 2 [(0, .int 0), (1, .int 1)] := hl
  refine lv_iconst (v := 2) hx hb dX7_filedAt_0 (by decide) ?_
  refine lv_bipush (v := 6) hx hb dX7_filedAt_1 (by decide) ?_
  refine lv_iload_n hx hb dX7_filedAt_3 rfl (lv_at hl 0 rfl) ?_
  refine lv_imul hx hb dX7_filedAt_4 ?_
  refine pxTop (w := .int 0) (congrArg Value.int (by decide)) ?_
  refine lv_iload_n hx hb dX7_filedAt_5 rfl (lv_at hl 1 rfl) ?_
  refine lv_iadd hx hb dX7_filedAt_6 ?_
  refine pxTop (w := .int 1) (congrArg Value.int (by decide)) ?_
  refine lv_imul hx hb dX7_filedAt_7 ?_
  refine pxTop (w := .int 2) (congrArg Value.int (by decide)) ?_
  refine W.widen (k := 0) (n := 0) (Nat.le_of_ble_eq_true rfl) (Nat.le_of_ble_eq_true rfl) ?_
  exact W.iret (v := 2) hx hb hr (fun t ht hW => ⟨⟨2, (fun _ => 0), rfl, rfl, by rw [ht]; exact hP, hD⟩, hS.F ht⟩) hS.2.2 dX7_filedAt_8
set_option maxHeartbeats 4000000 in
set_option maxRecDepth 100000 in
theorem k254_X7_filedAt (l : Launch) (G : pxG) (sz : Nat) : Met l yX7_filedAt (Cond.code yX7_filedAt cX7_filedAt 2 (some .int) :: pxAll) ({ frames := 0, cells := 0, slots := 0, locals := 0 } : Room) (va_Pc [.int 0, .int 2] (pxPre G [] sz)) (pxQi G (fun r => r = 4) (fun q => []) (va_A [] sz)) 0 0 (va_A [] sz) := by
  refine Met.ofW (cc := cX7_filedAt) (maxL := 2) (ret := (some .int)) (by decide) rfl ?_
  intro p e s m args below meth c s₁ B hml hv
  obtain ⟨rfl, hsz, hG, hZ, hP, hD0⟩ := hv
  have hx := B.exec
  have hb := B.bytes
  have hr := B.returns
  have hts0 := atoms_spec (ws := Cond.code yX7_filedAt cX7_filedAt 2 (some .int) :: pxAll) B.pre
  have hts : ∀ w ∈ pxAll, w.before _ s = true := fun w h => hts0 w (List.mem_cons_of_mem _ h)
  have hown : s.vm.findClass RX7 = some m.cls := findClass_of_methodNamed B.named
  have hlocks := B.notSynchronized
  subst hsz
  have hK := hG.1
  have hD := hD0.self (sz := s.heap.size)
  generalize hAe : va_A [] s.heap.size = A at hD hZ ⊢
  have hA : ∀ q : Nat, s.heap.size ≤ q → A q := fun q h => by rw [← hAe]; exact Or.inr h
  have hS : va_S A s.heap s.heap [] := va_S.rf
  have hl := lv_entry ([.int 0, .int 2]) (n := 2) (Nat.le_of_ble_eq_true rfl)
  rw [lg_entry_eq]
  generalize (lg_sl ([.int 0, .int 2]) ++ List.replicate (2 - (lg_sl ([.int 0, .int 2])).length) Slot.unset).toArray = ls at hl ⊢
  have hl : lv_has ls 2 [(0, .int 0), (1, .int 2)] := hl
  refine lv_iconst (v := 2) hx hb dX7_filedAt_0 (by decide) ?_
  refine lv_bipush (v := 6) hx hb dX7_filedAt_1 (by decide) ?_
  refine lv_iload_n hx hb dX7_filedAt_3 rfl (lv_at hl 0 rfl) ?_
  refine lv_imul hx hb dX7_filedAt_4 ?_
  refine pxTop (w := .int 0) (congrArg Value.int (by decide)) ?_
  refine lv_iload_n hx hb dX7_filedAt_5 rfl (lv_at hl 1 rfl) ?_
  refine lv_iadd hx hb dX7_filedAt_6 ?_
  refine pxTop (w := .int 2) (congrArg Value.int (by decide)) ?_
  refine lv_imul hx hb dX7_filedAt_7 ?_
  refine pxTop (w := .int 4) (congrArg Value.int (by decide)) ?_
  refine W.widen (k := 0) (n := 0) (Nat.le_of_ble_eq_true rfl) (Nat.le_of_ble_eq_true rfl) ?_
  exact W.iret (v := 4) hx hb hr (fun t ht hW => ⟨⟨4, (fun _ => 0), rfl, rfl, by rw [ht]; exact hP, hD⟩, hS.F ht⟩) hS.2.2 dX7_filedAt_8
set_option maxHeartbeats 4000000 in
set_option maxRecDepth 100000 in
theorem k255_X7_filedAt (l : Launch) (G : pxG) (sz : Nat) : Met l yX7_filedAt (Cond.code yX7_filedAt cX7_filedAt 2 (some .int) :: pxAll) ({ frames := 0, cells := 0, slots := 0, locals := 0 } : Room) (va_Pc [.int 0, .int 3] (pxPre G [] sz)) (pxQi G (fun r => r = 6) (fun q => []) (va_A [] sz)) 0 0 (va_A [] sz) := by
  refine Met.ofW (cc := cX7_filedAt) (maxL := 2) (ret := (some .int)) (by decide) rfl ?_
  intro p e s m args below meth c s₁ B hml hv
  obtain ⟨rfl, hsz, hG, hZ, hP, hD0⟩ := hv
  have hx := B.exec
  have hb := B.bytes
  have hr := B.returns
  have hts0 := atoms_spec (ws := Cond.code yX7_filedAt cX7_filedAt 2 (some .int) :: pxAll) B.pre
  have hts : ∀ w ∈ pxAll, w.before _ s = true := fun w h => hts0 w (List.mem_cons_of_mem _ h)
  have hown : s.vm.findClass RX7 = some m.cls := findClass_of_methodNamed B.named
  have hlocks := B.notSynchronized
  subst hsz
  have hK := hG.1
  have hD := hD0.self (sz := s.heap.size)
  generalize hAe : va_A [] s.heap.size = A at hD hZ ⊢
  have hA : ∀ q : Nat, s.heap.size ≤ q → A q := fun q h => by rw [← hAe]; exact Or.inr h
  have hS : va_S A s.heap s.heap [] := va_S.rf
  have hl := lv_entry ([.int 0, .int 3]) (n := 2) (Nat.le_of_ble_eq_true rfl)
  rw [lg_entry_eq]
  generalize (lg_sl ([.int 0, .int 3]) ++ List.replicate (2 - (lg_sl ([.int 0, .int 3])).length) Slot.unset).toArray = ls at hl ⊢
  have hl : lv_has ls 2 [(0, .int 0), (1, .int 3)] := hl
  refine lv_iconst (v := 2) hx hb dX7_filedAt_0 (by decide) ?_
  refine lv_bipush (v := 6) hx hb dX7_filedAt_1 (by decide) ?_
  refine lv_iload_n hx hb dX7_filedAt_3 rfl (lv_at hl 0 rfl) ?_
  refine lv_imul hx hb dX7_filedAt_4 ?_
  refine pxTop (w := .int 0) (congrArg Value.int (by decide)) ?_
  refine lv_iload_n hx hb dX7_filedAt_5 rfl (lv_at hl 1 rfl) ?_
  refine lv_iadd hx hb dX7_filedAt_6 ?_
  refine pxTop (w := .int 3) (congrArg Value.int (by decide)) ?_
  refine lv_imul hx hb dX7_filedAt_7 ?_
  refine pxTop (w := .int 6) (congrArg Value.int (by decide)) ?_
  refine W.widen (k := 0) (n := 0) (Nat.le_of_ble_eq_true rfl) (Nat.le_of_ble_eq_true rfl) ?_
  exact W.iret (v := 6) hx hb hr (fun t ht hW => ⟨⟨6, (fun _ => 0), rfl, rfl, by rw [ht]; exact hP, hD⟩, hS.F ht⟩) hS.2.2 dX7_filedAt_8
set_option maxHeartbeats 4000000 in
set_option maxRecDepth 100000 in
theorem k256_X7_filedAt (l : Launch) (G : pxG) (sz : Nat) : Met l yX7_filedAt (Cond.code yX7_filedAt cX7_filedAt 2 (some .int) :: pxAll) ({ frames := 0, cells := 0, slots := 0, locals := 0 } : Room) (va_Pc [.int 0, .int 4] (pxPre G [] sz)) (pxQi G (fun r => r = 8) (fun q => []) (va_A [] sz)) 0 0 (va_A [] sz) := by
  refine Met.ofW (cc := cX7_filedAt) (maxL := 2) (ret := (some .int)) (by decide) rfl ?_
  intro p e s m args below meth c s₁ B hml hv
  obtain ⟨rfl, hsz, hG, hZ, hP, hD0⟩ := hv
  have hx := B.exec
  have hb := B.bytes
  have hr := B.returns
  have hts0 := atoms_spec (ws := Cond.code yX7_filedAt cX7_filedAt 2 (some .int) :: pxAll) B.pre
  have hts : ∀ w ∈ pxAll, w.before _ s = true := fun w h => hts0 w (List.mem_cons_of_mem _ h)
  have hown : s.vm.findClass RX7 = some m.cls := findClass_of_methodNamed B.named
  have hlocks := B.notSynchronized
  subst hsz
  have hK := hG.1
  have hD := hD0.self (sz := s.heap.size)
  generalize hAe : va_A [] s.heap.size = A at hD hZ ⊢
  have hA : ∀ q : Nat, s.heap.size ≤ q → A q := fun q h => by rw [← hAe]; exact Or.inr h
  have hS : va_S A s.heap s.heap [] := va_S.rf
  have hl := lv_entry ([.int 0, .int 4]) (n := 2) (Nat.le_of_ble_eq_true rfl)
  rw [lg_entry_eq]
  generalize (lg_sl ([.int 0, .int 4]) ++ List.replicate (2 - (lg_sl ([.int 0, .int 4])).length) Slot.unset).toArray = ls at hl ⊢
  have hl : lv_has ls 2 [(0, .int 0), (1, .int 4)] := hl
  refine lv_iconst (v := 2) hx hb dX7_filedAt_0 (by decide) ?_
  refine lv_bipush (v := 6) hx hb dX7_filedAt_1 (by decide) ?_
  refine lv_iload_n hx hb dX7_filedAt_3 rfl (lv_at hl 0 rfl) ?_
  refine lv_imul hx hb dX7_filedAt_4 ?_
  refine pxTop (w := .int 0) (congrArg Value.int (by decide)) ?_
  refine lv_iload_n hx hb dX7_filedAt_5 rfl (lv_at hl 1 rfl) ?_
  refine lv_iadd hx hb dX7_filedAt_6 ?_
  refine pxTop (w := .int 4) (congrArg Value.int (by decide)) ?_
  refine lv_imul hx hb dX7_filedAt_7 ?_
  refine pxTop (w := .int 8) (congrArg Value.int (by decide)) ?_
  refine W.widen (k := 0) (n := 0) (Nat.le_of_ble_eq_true rfl) (Nat.le_of_ble_eq_true rfl) ?_
  exact W.iret (v := 8) hx hb hr (fun t ht hW => ⟨⟨8, (fun _ => 0), rfl, rfl, by rw [ht]; exact hP, hD⟩, hS.F ht⟩) hS.2.2 dX7_filedAt_8
set_option maxHeartbeats 4000000 in
set_option maxRecDepth 100000 in
theorem k257_X7_filedAt (l : Launch) (G : pxG) (sz : Nat) : Met l yX7_filedAt (Cond.code yX7_filedAt cX7_filedAt 2 (some .int) :: pxAll) ({ frames := 0, cells := 0, slots := 0, locals := 0 } : Room) (va_Pc [.int 0, .int 5] (pxPre G [] sz)) (pxQi G (fun r => r = 10) (fun q => []) (va_A [] sz)) 0 0 (va_A [] sz) := by
  refine Met.ofW (cc := cX7_filedAt) (maxL := 2) (ret := (some .int)) (by decide) rfl ?_
  intro p e s m args below meth c s₁ B hml hv
  obtain ⟨rfl, hsz, hG, hZ, hP, hD0⟩ := hv
  have hx := B.exec
  have hb := B.bytes
  have hr := B.returns
  have hts0 := atoms_spec (ws := Cond.code yX7_filedAt cX7_filedAt 2 (some .int) :: pxAll) B.pre
  have hts : ∀ w ∈ pxAll, w.before _ s = true := fun w h => hts0 w (List.mem_cons_of_mem _ h)
  have hown : s.vm.findClass RX7 = some m.cls := findClass_of_methodNamed B.named
  have hlocks := B.notSynchronized
  subst hsz
  have hK := hG.1
  have hD := hD0.self (sz := s.heap.size)
  generalize hAe : va_A [] s.heap.size = A at hD hZ ⊢
  have hA : ∀ q : Nat, s.heap.size ≤ q → A q := fun q h => by rw [← hAe]; exact Or.inr h
  have hS : va_S A s.heap s.heap [] := va_S.rf
  have hl := lv_entry ([.int 0, .int 5]) (n := 2) (Nat.le_of_ble_eq_true rfl)
  rw [lg_entry_eq]
  generalize (lg_sl ([.int 0, .int 5]) ++ List.replicate (2 - (lg_sl ([.int 0, .int 5])).length) Slot.unset).toArray = ls at hl ⊢
  have hl : lv_has ls 2 [(0, .int 0), (1, .int 5)] := hl
  refine lv_iconst (v := 2) hx hb dX7_filedAt_0 (by decide) ?_
  refine lv_bipush (v := 6) hx hb dX7_filedAt_1 (by decide) ?_
  refine lv_iload_n hx hb dX7_filedAt_3 rfl (lv_at hl 0 rfl) ?_
  refine lv_imul hx hb dX7_filedAt_4 ?_
  refine pxTop (w := .int 0) (congrArg Value.int (by decide)) ?_
  refine lv_iload_n hx hb dX7_filedAt_5 rfl (lv_at hl 1 rfl) ?_
  refine lv_iadd hx hb dX7_filedAt_6 ?_
  refine pxTop (w := .int 5) (congrArg Value.int (by decide)) ?_
  refine lv_imul hx hb dX7_filedAt_7 ?_
  refine pxTop (w := .int 10) (congrArg Value.int (by decide)) ?_
  refine W.widen (k := 0) (n := 0) (Nat.le_of_ble_eq_true rfl) (Nat.le_of_ble_eq_true rfl) ?_
  exact W.iret (v := 10) hx hb hr (fun t ht hW => ⟨⟨10, (fun _ => 0), rfl, rfl, by rw [ht]; exact hP, hD⟩, hS.F ht⟩) hS.2.2 dX7_filedAt_8
set_option maxHeartbeats 4000000 in
set_option maxRecDepth 100000 in
theorem k258_X7_filedAt (l : Launch) (G : pxG) (sz : Nat) : Met l yX7_filedAt (Cond.code yX7_filedAt cX7_filedAt 2 (some .int) :: pxAll) ({ frames := 0, cells := 0, slots := 0, locals := 0 } : Room) (va_Pc [.int 1, .int 0] (pxPre G [] sz)) (pxQi G (fun r => r = 12) (fun q => []) (va_A [] sz)) 0 0 (va_A [] sz) := by
  refine Met.ofW (cc := cX7_filedAt) (maxL := 2) (ret := (some .int)) (by decide) rfl ?_
  intro p e s m args below meth c s₁ B hml hv
  obtain ⟨rfl, hsz, hG, hZ, hP, hD0⟩ := hv
  have hx := B.exec
  have hb := B.bytes
  have hr := B.returns
  have hts0 := atoms_spec (ws := Cond.code yX7_filedAt cX7_filedAt 2 (some .int) :: pxAll) B.pre
  have hts : ∀ w ∈ pxAll, w.before _ s = true := fun w h => hts0 w (List.mem_cons_of_mem _ h)
  have hown : s.vm.findClass RX7 = some m.cls := findClass_of_methodNamed B.named
  have hlocks := B.notSynchronized
  subst hsz
  have hK := hG.1
  have hD := hD0.self (sz := s.heap.size)
  generalize hAe : va_A [] s.heap.size = A at hD hZ ⊢
  have hA : ∀ q : Nat, s.heap.size ≤ q → A q := fun q h => by rw [← hAe]; exact Or.inr h
  have hS : va_S A s.heap s.heap [] := va_S.rf
  have hl := lv_entry ([.int 1, .int 0]) (n := 2) (Nat.le_of_ble_eq_true rfl)
  rw [lg_entry_eq]
  generalize (lg_sl ([.int 1, .int 0]) ++ List.replicate (2 - (lg_sl ([.int 1, .int 0])).length) Slot.unset).toArray = ls at hl ⊢
  have hl : lv_has ls 2 [(0, .int 1), (1, .int 0)] := hl
  refine lv_iconst (v := 2) hx hb dX7_filedAt_0 (by decide) ?_
  refine lv_bipush (v := 6) hx hb dX7_filedAt_1 (by decide) ?_
  refine lv_iload_n hx hb dX7_filedAt_3 rfl (lv_at hl 0 rfl) ?_
  refine lv_imul hx hb dX7_filedAt_4 ?_
  refine pxTop (w := .int 6) (congrArg Value.int (by decide)) ?_
  refine lv_iload_n hx hb dX7_filedAt_5 rfl (lv_at hl 1 rfl) ?_
  refine lv_iadd hx hb dX7_filedAt_6 ?_
  refine pxTop (w := .int 6) (congrArg Value.int (by decide)) ?_
  refine lv_imul hx hb dX7_filedAt_7 ?_
  refine pxTop (w := .int 12) (congrArg Value.int (by decide)) ?_
  refine W.widen (k := 0) (n := 0) (Nat.le_of_ble_eq_true rfl) (Nat.le_of_ble_eq_true rfl) ?_
  exact W.iret (v := 12) hx hb hr (fun t ht hW => ⟨⟨12, (fun _ => 0), rfl, rfl, by rw [ht]; exact hP, hD⟩, hS.F ht⟩) hS.2.2 dX7_filedAt_8
set_option maxHeartbeats 4000000 in
set_option maxRecDepth 100000 in
theorem k259_X7_filedAt (l : Launch) (G : pxG) (sz : Nat) : Met l yX7_filedAt (Cond.code yX7_filedAt cX7_filedAt 2 (some .int) :: pxAll) ({ frames := 0, cells := 0, slots := 0, locals := 0 } : Room) (va_Pc [.int 1, .int 1] (pxPre G [] sz)) (pxQi G (fun r => r = 14) (fun q => []) (va_A [] sz)) 0 0 (va_A [] sz) := by
  refine Met.ofW (cc := cX7_filedAt) (maxL := 2) (ret := (some .int)) (by decide) rfl ?_
  intro p e s m args below meth c s₁ B hml hv
  obtain ⟨rfl, hsz, hG, hZ, hP, hD0⟩ := hv
  have hx := B.exec
  have hb := B.bytes
  have hr := B.returns
  have hts0 := atoms_spec (ws := Cond.code yX7_filedAt cX7_filedAt 2 (some .int) :: pxAll) B.pre
  have hts : ∀ w ∈ pxAll, w.before _ s = true := fun w h => hts0 w (List.mem_cons_of_mem _ h)
  have hown : s.vm.findClass RX7 = some m.cls := findClass_of_methodNamed B.named
  have hlocks := B.notSynchronized
  subst hsz
  have hK := hG.1
  have hD := hD0.self (sz := s.heap.size)
  generalize hAe : va_A [] s.heap.size = A at hD hZ ⊢
  have hA : ∀ q : Nat, s.heap.size ≤ q → A q := fun q h => by rw [← hAe]; exact Or.inr h
  have hS : va_S A s.heap s.heap [] := va_S.rf
  have hl := lv_entry ([.int 1, .int 1]) (n := 2) (Nat.le_of_ble_eq_true rfl)
  rw [lg_entry_eq]
  generalize (lg_sl ([.int 1, .int 1]) ++ List.replicate (2 - (lg_sl ([.int 1, .int 1])).length) Slot.unset).toArray = ls at hl ⊢
  have hl : lv_has ls 2 [(0, .int 1), (1, .int 1)] := hl
  refine lv_iconst (v := 2) hx hb dX7_filedAt_0 (by decide) ?_
  refine lv_bipush (v := 6) hx hb dX7_filedAt_1 (by decide) ?_
  refine lv_iload_n hx hb dX7_filedAt_3 rfl (lv_at hl 0 rfl) ?_
  refine lv_imul hx hb dX7_filedAt_4 ?_
  refine pxTop (w := .int 6) (congrArg Value.int (by decide)) ?_
  refine lv_iload_n hx hb dX7_filedAt_5 rfl (lv_at hl 1 rfl) ?_
  refine lv_iadd hx hb dX7_filedAt_6 ?_
  refine pxTop (w := .int 7) (congrArg Value.int (by decide)) ?_
  refine lv_imul hx hb dX7_filedAt_7 ?_
  refine pxTop (w := .int 14) (congrArg Value.int (by decide)) ?_
  refine W.widen (k := 0) (n := 0) (Nat.le_of_ble_eq_true rfl) (Nat.le_of_ble_eq_true rfl) ?_
  exact W.iret (v := 14) hx hb hr (fun t ht hW => ⟨⟨14, (fun _ => 0), rfl, rfl, by rw [ht]; exact hP, hD⟩, hS.F ht⟩) hS.2.2 dX7_filedAt_8
set_option maxHeartbeats 4000000 in
set_option maxRecDepth 100000 in
theorem k260_X7_filedAt (l : Launch) (G : pxG) (sz : Nat) : Met l yX7_filedAt (Cond.code yX7_filedAt cX7_filedAt 2 (some .int) :: pxAll) ({ frames := 0, cells := 0, slots := 0, locals := 0 } : Room) (va_Pc [.int 1, .int 2] (pxPre G [] sz)) (pxQi G (fun r => r = 16) (fun q => []) (va_A [] sz)) 0 0 (va_A [] sz) := by
  refine Met.ofW (cc := cX7_filedAt) (maxL := 2) (ret := (some .int)) (by decide) rfl ?_
  intro p e s m args below meth c s₁ B hml hv
  obtain ⟨rfl, hsz, hG, hZ, hP, hD0⟩ := hv
  have hx := B.exec
  have hb := B.bytes
  have hr := B.returns
  have hts0 := atoms_spec (ws := Cond.code yX7_filedAt cX7_filedAt 2 (some .int) :: pxAll) B.pre
  have hts : ∀ w ∈ pxAll, w.before _ s = true := fun w h => hts0 w (List.mem_cons_of_mem _ h)
  have hown : s.vm.findClass RX7 = some m.cls := findClass_of_methodNamed B.named
  have hlocks := B.notSynchronized
  subst hsz
  have hK := hG.1
  have hD := hD0.self (sz := s.heap.size)
  generalize hAe : va_A [] s.heap.size = A at hD hZ ⊢
  have hA : ∀ q : Nat, s.heap.size ≤ q → A q := fun q h => by rw [← hAe]; exact Or.inr h
  have hS : va_S A s.heap s.heap [] := va_S.rf
  have hl := lv_entry ([.int 1, .int 2]) (n := 2) (Nat.le_of_ble_eq_true rfl)
  rw [lg_entry_eq]
  generalize (lg_sl ([.int 1, .int 2]) ++ List.replicate (2 - (lg_sl ([.int 1, .int 2])).length) Slot.unset).toArray = ls at hl ⊢
  have hl : lv_has ls 2 [(0, .int 1), (1, .int 2)] := hl
  refine lv_iconst (v := 2) hx hb dX7_filedAt_0 (by decide) ?_
  refine lv_bipush (v := 6) hx hb dX7_filedAt_1 (by decide) ?_
  refine lv_iload_n hx hb dX7_filedAt_3 rfl (lv_at hl 0 rfl) ?_
  refine lv_imul hx hb dX7_filedAt_4 ?_
  refine pxTop (w := .int 6) (congrArg Value.int (by decide)) ?_
  refine lv_iload_n hx hb dX7_filedAt_5 rfl (lv_at hl 1 rfl) ?_
  refine lv_iadd hx hb dX7_filedAt_6 ?_
  refine pxTop (w := .int 8) (congrArg Value.int (by decide)) ?_
  refine lv_imul hx hb dX7_filedAt_7 ?_
  refine pxTop (w := .int 16) (congrArg Value.int (by decide)) ?_
  refine W.widen (k := 0) (n := 0) (Nat.le_of_ble_eq_true rfl) (Nat.le_of_ble_eq_true rfl) ?_
  exact W.iret (v := 16) hx hb hr (fun t ht hW => ⟨⟨16, (fun _ => 0), rfl, rfl, by rw [ht]; exact hP, hD⟩, hS.F ht⟩) hS.2.2 dX7_filedAt_8
set_option maxHeartbeats 4000000 in
set_option maxRecDepth 100000 in
theorem k261_X7_filedAt (l : Launch) (G : pxG) (sz : Nat) : Met l yX7_filedAt (Cond.code yX7_filedAt cX7_filedAt 2 (some .int) :: pxAll) ({ frames := 0, cells := 0, slots := 0, locals := 0 } : Room) (va_Pc [.int 1, .int 3] (pxPre G [] sz)) (pxQi G (fun r => r = 18) (fun q => []) (va_A [] sz)) 0 0 (va_A [] sz) := by
  refine Met.ofW (cc := cX7_filedAt) (maxL := 2) (ret := (some .int)) (by decide) rfl ?_
  intro p e s m args below meth c s₁ B hml hv
  obtain ⟨rfl, hsz, hG, hZ, hP, hD0⟩ := hv
  have hx := B.exec
  have hb := B.bytes
  have hr := B.returns
  have hts0 := atoms_spec (ws := Cond.code yX7_filedAt cX7_filedAt 2 (some .int) :: pxAll) B.pre
  have hts : ∀ w ∈ pxAll, w.before _ s = true := fun w h => hts0 w (List.mem_cons_of_mem _ h)
  have hown : s.vm.findClass RX7 = some m.cls := findClass_of_methodNamed B.named
  have hlocks := B.notSynchronized
  subst hsz
  have hK := hG.1
  have hD := hD0.self (sz := s.heap.size)
  generalize hAe : va_A [] s.heap.size = A at hD hZ ⊢
  have hA : ∀ q : Nat, s.heap.size ≤ q → A q := fun q h => by rw [← hAe]; exact Or.inr h
  have hS : va_S A s.heap s.heap [] := va_S.rf
  have hl := lv_entry ([.int 1, .int 3]) (n := 2) (Nat.le_of_ble_eq_true rfl)
  rw [lg_entry_eq]
  generalize (lg_sl ([.int 1, .int 3]) ++ List.replicate (2 - (lg_sl ([.int 1, .int 3])).length) Slot.unset).toArray = ls at hl ⊢
  have hl : lv_has ls 2 [(0, .int 1), (1, .int 3)] := hl
  refine lv_iconst (v := 2) hx hb dX7_filedAt_0 (by decide) ?_
  refine lv_bipush (v := 6) hx hb dX7_filedAt_1 (by decide) ?_
  refine lv_iload_n hx hb dX7_filedAt_3 rfl (lv_at hl 0 rfl) ?_
  refine lv_imul hx hb dX7_filedAt_4 ?_
  refine pxTop (w := .int 6) (congrArg Value.int (by decide)) ?_
  refine lv_iload_n hx hb dX7_filedAt_5 rfl (lv_at hl 1 rfl) ?_
  refine lv_iadd hx hb dX7_filedAt_6 ?_
  refine pxTop (w := .int 9) (congrArg Value.int (by decide)) ?_
  refine lv_imul hx hb dX7_filedAt_7 ?_
  refine pxTop (w := .int 18) (congrArg Value.int (by decide)) ?_
  refine W.widen (k := 0) (n := 0) (Nat.le_of_ble_eq_true rfl) (Nat.le_of_ble_eq_true rfl) ?_
  exact W.iret (v := 18) hx hb hr (fun t ht hW => ⟨⟨18, (fun _ => 0), rfl, rfl, by rw [ht]; exact hP, hD⟩, hS.F ht⟩) hS.2.2 dX7_filedAt_8
set_option maxHeartbeats 4000000 in
set_option maxRecDepth 100000 in
theorem k262_X7_filedAt (l : Launch) (G : pxG) (sz : Nat) : Met l yX7_filedAt (Cond.code yX7_filedAt cX7_filedAt 2 (some .int) :: pxAll) ({ frames := 0, cells := 0, slots := 0, locals := 0 } : Room) (va_Pc [.int 1, .int 4] (pxPre G [] sz)) (pxQi G (fun r => r = 20) (fun q => []) (va_A [] sz)) 0 0 (va_A [] sz) := by
  refine Met.ofW (cc := cX7_filedAt) (maxL := 2) (ret := (some .int)) (by decide) rfl ?_
  intro p e s m args below meth c s₁ B hml hv
  obtain ⟨rfl, hsz, hG, hZ, hP, hD0⟩ := hv
  have hx := B.exec
  have hb := B.bytes
  have hr := B.returns
  have hts0 := atoms_spec (ws := Cond.code yX7_filedAt cX7_filedAt 2 (some .int) :: pxAll) B.pre
  have hts : ∀ w ∈ pxAll, w.before _ s = true := fun w h => hts0 w (List.mem_cons_of_mem _ h)
  have hown : s.vm.findClass RX7 = some m.cls := findClass_of_methodNamed B.named
  have hlocks := B.notSynchronized
  subst hsz
  have hK := hG.1
  have hD := hD0.self (sz := s.heap.size)
  generalize hAe : va_A [] s.heap.size = A at hD hZ ⊢
  have hA : ∀ q : Nat, s.heap.size ≤ q → A q := fun q h => by rw [← hAe]; exact Or.inr h
  have hS : va_S A s.heap s.heap [] := va_S.rf
  have hl := lv_entry ([.int 1, .int 4]) (n := 2) (Nat.le_of_ble_eq_true rfl)
  rw [lg_entry_eq]
  generalize (lg_sl ([.int 1, .int 4]) ++ List.replicate (2 - (lg_sl ([.int 1, .int 4])).length) Slot.unset).toArray = ls at hl ⊢
  have hl : lv_has ls 2 [(0, .int 1), (1, .int 4)] := hl
  refine lv_iconst (v := 2) hx hb dX7_filedAt_0 (by decide) ?_
  refine lv_bipush (v := 6) hx hb dX7_filedAt_1 (by decide) ?_
  refine lv_iload_n hx hb dX7_filedAt_3 rfl (lv_at hl 0 rfl) ?_
  refine lv_imul hx hb dX7_filedAt_4 ?_
  refine pxTop (w := .int 6) (congrArg Value.int (by decide)) ?_
  refine lv_iload_n hx hb dX7_filedAt_5 rfl (lv_at hl 1 rfl) ?_
  refine lv_iadd hx hb dX7_filedAt_6 ?_
  refine pxTop (w := .int 10) (congrArg Value.int (by decide)) ?_
  refine lv_imul hx hb dX7_filedAt_7 ?_
  refine pxTop (w := .int 20) (congrArg Value.int (by decide)) ?_
  refine W.widen (k := 0) (n := 0) (Nat.le_of_ble_eq_true rfl) (Nat.le_of_ble_eq_true rfl) ?_
  exact W.iret (v := 20) hx hb hr (fun t ht hW => ⟨⟨20, (fun _ => 0), rfl, rfl, by rw [ht]; exact hP, hD⟩, hS.F ht⟩) hS.2.2 dX7_filedAt_8
set_option maxHeartbeats 4000000 in
set_option maxRecDepth 100000 in
theorem k263_X7_filedAt (l : Launch) (G : pxG) (sz : Nat) : Met l yX7_filedAt (Cond.code yX7_filedAt cX7_filedAt 2 (some .int) :: pxAll) ({ frames := 0, cells := 0, slots := 0, locals := 0 } : Room) (va_Pc [.int 1, .int 5] (pxPre G [] sz)) (pxQi G (fun r => r = 22) (fun q => []) (va_A [] sz)) 0 0 (va_A [] sz) := by
  refine Met.ofW (cc := cX7_filedAt) (maxL := 2) (ret := (some .int)) (by decide) rfl ?_
  intro p e s m args below meth c s₁ B hml hv
  obtain ⟨rfl, hsz, hG, hZ, hP, hD0⟩ := hv
  have hx := B.exec
  have hb := B.bytes
  have hr := B.returns
  have hts0 := atoms_spec (ws := Cond.code yX7_filedAt cX7_filedAt 2 (some .int) :: pxAll) B.pre
  have hts : ∀ w ∈ pxAll, w.before _ s = true := fun w h => hts0 w (List.mem_cons_of_mem _ h)
  have hown : s.vm.findClass RX7 = some m.cls := findClass_of_methodNamed B.named
  have hlocks := B.notSynchronized
  subst hsz
  have hK := hG.1
  have hD := hD0.self (sz := s.heap.size)
  generalize hAe : va_A [] s.heap.size = A at hD hZ ⊢
  have hA : ∀ q : Nat, s.heap.size ≤ q → A q := fun q h => by rw [← hAe]; exact Or.inr h
  have hS : va_S A s.heap s.heap [] := va_S.rf
  have hl := lv_entry ([.int 1, .int 5]) (n := 2) (Nat.le_of_ble_eq_true rfl)
  rw [lg_entry_eq]
  generalize (lg_sl ([.int 1, .int 5]) ++ List.replicate (2 - (lg_sl ([.int 1, .int 5])).length) Slot.unset).toArray = ls at hl ⊢
  have hl : lv_has ls 2 [(0, .int 1), (1, .int 5)] := hl
  refine lv_iconst (v := 2) hx hb dX7_filedAt_0 (by decide) ?_
  refine lv_bipush (v := 6) hx hb dX7_filedAt_1 (by decide) ?_
  refine lv_iload_n hx hb dX7_filedAt_3 rfl (lv_at hl 0 rfl) ?_
  refine lv_imul hx hb dX7_filedAt_4 ?_
  refine pxTop (w := .int 6) (congrArg Value.int (by decide)) ?_
  refine lv_iload_n hx hb dX7_filedAt_5 rfl (lv_at hl 1 rfl) ?_
  refine lv_iadd hx hb dX7_filedAt_6 ?_
  refine pxTop (w := .int 11) (congrArg Value.int (by decide)) ?_
  refine lv_imul hx hb dX7_filedAt_7 ?_
  refine pxTop (w := .int 22) (congrArg Value.int (by decide)) ?_
  refine W.widen (k := 0) (n := 0) (Nat.le_of_ble_eq_true rfl) (Nat.le_of_ble_eq_true rfl) ?_
  exact W.iret (v := 22) hx hb hr (fun t ht hW => ⟨⟨22, (fun _ => 0), rfl, rfl, by rw [ht]; exact hP, hD⟩, hS.F ht⟩) hS.2.2 dX7_filedAt_8
set_option maxHeartbeats 4000000 in
set_option maxRecDepth 100000 in
theorem k264_X7_filedAt (l : Launch) (G : pxG) (sz : Nat) : Met l yX7_filedAt (Cond.code yX7_filedAt cX7_filedAt 2 (some .int) :: pxAll) ({ frames := 0, cells := 0, slots := 0, locals := 0 } : Room) (va_Pc [.int 2, .int 0] (pxPre G [] sz)) (pxQi G (fun r => r = 24) (fun q => []) (va_A [] sz)) 0 0 (va_A [] sz) := by
  refine Met.ofW (cc := cX7_filedAt) (maxL := 2) (ret := (some .int)) (by decide) rfl ?_
  intro p e s m args below meth c s₁ B hml hv
  obtain ⟨rfl, hsz, hG, hZ, hP, hD0⟩ := hv
  have hx := B.exec
  have hb := B.bytes
  have hr := B.returns
  have hts0 := atoms_spec (ws := Cond.code yX7_filedAt cX7_filedAt 2 (some .int) :: pxAll) B.pre
  have hts : ∀ w ∈ pxAll, w.before _ s = true := fun w h => hts0 w (List.mem_cons_of_mem _ h)
  have hown : s.vm.findClass RX7 = some m.cls := findClass_of_methodNamed B.named
  have hlocks := B.notSynchronized
  subst hsz
  have hK := hG.1
  have hD := hD0.self (sz := s.heap.size)
  generalize hAe : va_A [] s.heap.size = A at hD hZ ⊢
  have hA : ∀ q : Nat, s.heap.size ≤ q → A q := fun q h => by rw [← hAe]; exact Or.inr h
  have hS : va_S A s.heap s.heap [] := va_S.rf
  have hl := lv_entry ([.int 2, .int 0]) (n := 2) (Nat.le_of_ble_eq_true rfl)
  rw [lg_entry_eq]
  generalize (lg_sl ([.int 2, .int 0]) ++ List.replicate (2 - (lg_sl ([.int 2, .int 0])).length) Slot.unset).toArray = ls at hl ⊢
  have hl : lv_has ls 2 [(0, .int 2), (1, .int 0)] := hl
  refine lv_iconst (v := 2) hx hb dX7_filedAt_0 (by decide) ?_
  refine lv_bipush (v := 6) hx hb dX7_filedAt_1 (by decide) ?_
  refine lv_iload_n hx hb dX7_filedAt_3 rfl (lv_at hl 0 rfl) ?_
  refine lv_imul hx hb dX7_filedAt_4 ?_
  refine pxTop (w := .int 12) (congrArg Value.int (by decide)) ?_
  refine lv_iload_n hx hb dX7_filedAt_5 rfl (lv_at hl 1 rfl) ?_
  refine lv_iadd hx hb dX7_filedAt_6 ?_
  refine pxTop (w := .int 12) (congrArg Value.int (by decide)) ?_
  refine lv_imul hx hb dX7_filedAt_7 ?_
  refine pxTop (w := .int 24) (congrArg Value.int (by decide)) ?_
  refine W.widen (k := 0) (n := 0) (Nat.le_of_ble_eq_true rfl) (Nat.le_of_ble_eq_true rfl) ?_
  exact W.iret (v := 24) hx hb hr (fun t ht hW => ⟨⟨24, (fun _ => 0), rfl, rfl, by rw [ht]; exact hP, hD⟩, hS.F ht⟩) hS.2.2 dX7_filedAt_8
set_option maxHeartbeats 4000000 in
set_option maxRecDepth 100000 in
theorem k265_X7_filedAt (l : Launch) (G : pxG) (sz : Nat) : Met l yX7_filedAt (Cond.code yX7_filedAt cX7_filedAt 2 (some .int) :: pxAll) ({ frames := 0, cells := 0, slots := 0, locals := 0 } : Room) (va_Pc [.int 2, .int 1] (pxPre G [] sz)) (pxQi G (fun r => r = 26) (fun q => []) (va_A [] sz)) 0 0 (va_A [] sz) := by
  refine Met.ofW (cc := cX7_filedAt) (maxL := 2) (ret := (some .int)) (by decide) rfl ?_
  intro p e s m args below meth c s₁ B hml hv
  obtain ⟨rfl, hsz, hG, hZ, hP, hD0⟩ := hv
  have hx := B.exec
  have hb := B.bytes
  have hr := B.returns
  have hts0 := atoms_spec (ws := Cond.code yX7_filedAt cX7_filedAt 2 (some .int) :: pxAll) B.pre
  have hts : ∀ w ∈ pxAll, w.before _ s = true := fun w h => hts0 w (List.mem_cons_of_mem _ h)
  have hown : s.vm.findClass RX7 = some m.cls := findClass_of_methodNamed B.named
  have hlocks := B.notSynchronized
  subst hsz
  have hK := hG.1
  have hD := hD0.self (sz := s.heap.size)
  generalize hAe : va_A [] s.heap.size = A at hD hZ ⊢
  have hA : ∀ q : Nat, s.heap.size ≤ q → A q := fun q h => by rw [← hAe]; exact Or.inr h
  have hS : va_S A s.heap s.heap [] := va_S.rf
  have hl := lv_entry ([.int 2, .int 1]) (n := 2) (Nat.le_of_ble_eq_true rfl)
  rw [lg_entry_eq]
  generalize (lg_sl ([.int 2, .int 1]) ++ List.replicate (2 - (lg_sl ([.int 2, .int 1])).length) Slot.unset).toArray = ls at hl ⊢
  have hl : lv_has ls 2 [(0, .int 2), (1, .int 1)] := hl
  refine lv_iconst (v := 2) hx hb dX7_filedAt_0 (by decide) ?_
  refine lv_bipush (v := 6) hx hb dX7_filedAt_1 (by decide) ?_
  refine lv_iload_n hx hb dX7_filedAt_3 rfl (lv_at hl 0 rfl) ?_
  refine lv_imul hx hb dX7_filedAt_4 ?_
  refine pxTop (w := .int 12) (congrArg Value.int (by decide)) ?_
  refine lv_iload_n hx hb dX7_filedAt_5 rfl (lv_at hl 1 rfl) ?_
  refine lv_iadd hx hb dX7_filedAt_6 ?_
  refine pxTop (w := .int 13) (congrArg Value.int (by decide)) ?_
  refine lv_imul hx hb dX7_filedAt_7 ?_
  refine pxTop (w := .int 26) (congrArg Value.int (by decide)) ?_
  refine W.widen (k := 0) (n := 0) (Nat.le_of_ble_eq_true rfl) (Nat.le_of_ble_eq_true rfl) ?_
  exact W.iret (v := 26) hx hb hr (fun t ht hW => ⟨⟨26, (fun _ => 0), rfl, rfl, by rw [ht]; exact hP, hD⟩, hS.F ht⟩) hS.2.2 dX7_filedAt_8
set_option maxHeartbeats 4000000 in
set_option maxRecDepth 100000 in
theorem k266_X7_filedAt (l : Launch) (G : pxG) (sz : Nat) : Met l yX7_filedAt (Cond.code yX7_filedAt cX7_filedAt 2 (some .int) :: pxAll) ({ frames := 0, cells := 0, slots := 0, locals := 0 } : Room) (va_Pc [.int 2, .int 2] (pxPre G [] sz)) (pxQi G (fun r => r = 28) (fun q => []) (va_A [] sz)) 0 0 (va_A [] sz) := by
  refine Met.ofW (cc := cX7_filedAt) (maxL := 2) (ret := (some .int)) (by decide) rfl ?_
  intro p e s m args below meth c s₁ B hml hv
  obtain ⟨rfl, hsz, hG, hZ, hP, hD0⟩ := hv
  have hx := B.exec
  have hb := B.bytes
  have hr := B.returns
  have hts0 := atoms_spec (ws := Cond.code yX7_filedAt cX7_filedAt 2 (some .int) :: pxAll) B.pre
  have hts : ∀ w ∈ pxAll, w.before _ s = true := fun w h => hts0 w (List.mem_cons_of_mem _ h)
  have hown : s.vm.findClass RX7 = some m.cls := findClass_of_methodNamed B.named
  have hlocks := B.notSynchronized
  subst hsz
  have hK := hG.1
  have hD := hD0.self (sz := s.heap.size)
  generalize hAe : va_A [] s.heap.size = A at hD hZ ⊢
  have hA : ∀ q : Nat, s.heap.size ≤ q → A q := fun q h => by rw [← hAe]; exact Or.inr h
  have hS : va_S A s.heap s.heap [] := va_S.rf
  have hl := lv_entry ([.int 2, .int 2]) (n := 2) (Nat.le_of_ble_eq_true rfl)
  rw [lg_entry_eq]
  generalize (lg_sl ([.int 2, .int 2]) ++ List.replicate (2 - (lg_sl ([.int 2, .int 2])).length) Slot.unset).toArray = ls at hl ⊢
  have hl : lv_has ls 2 [(0, .int 2), (1, .int 2)] := hl
  refine lv_iconst (v := 2) hx hb dX7_filedAt_0 (by decide) ?_
  refine lv_bipush (v := 6) hx hb dX7_filedAt_1 (by decide) ?_
  refine lv_iload_n hx hb dX7_filedAt_3 rfl (lv_at hl 0 rfl) ?_
  refine lv_imul hx hb dX7_filedAt_4 ?_
  refine pxTop (w := .int 12) (congrArg Value.int (by decide)) ?_
  refine lv_iload_n hx hb dX7_filedAt_5 rfl (lv_at hl 1 rfl) ?_
  refine lv_iadd hx hb dX7_filedAt_6 ?_
  refine pxTop (w := .int 14) (congrArg Value.int (by decide)) ?_
  refine lv_imul hx hb dX7_filedAt_7 ?_
  refine pxTop (w := .int 28) (congrArg Value.int (by decide)) ?_
  refine W.widen (k := 0) (n := 0) (Nat.le_of_ble_eq_true rfl) (Nat.le_of_ble_eq_true rfl) ?_
  exact W.iret (v := 28) hx hb hr (fun t ht hW => ⟨⟨28, (fun _ => 0), rfl, rfl, by rw [ht]; exact hP, hD⟩, hS.F ht⟩) hS.2.2 dX7_filedAt_8
set_option maxHeartbeats 4000000 in
set_option maxRecDepth 100000 in
theorem k267_X7_filedAt (l : Launch) (G : pxG) (sz : Nat) : Met l yX7_filedAt (Cond.code yX7_filedAt cX7_filedAt 2 (some .int) :: pxAll) ({ frames := 0, cells := 0, slots := 0, locals := 0 } : Room) (va_Pc [.int 2, .int 3] (pxPre G [] sz)) (pxQi G (fun r => r = 30) (fun q => []) (va_A [] sz)) 0 0 (va_A [] sz) := by
  refine Met.ofW (cc := cX7_filedAt) (maxL := 2) (ret := (some .int)) (by decide) rfl ?_
  intro p e s m args below meth c s₁ B hml hv
  obtain ⟨rfl, hsz, hG, hZ, hP, hD0⟩ := hv
  have hx := B.exec
  have hb := B.bytes
  have hr := B.returns
  have hts0 := atoms_spec (ws := Cond.code yX7_filedAt cX7_filedAt 2 (some .int) :: pxAll) B.pre
  have hts : ∀ w ∈ pxAll, w.before _ s = true := fun w h => hts0 w (List.mem_cons_of_mem _ h)
  have hown : s.vm.findClass RX7 = some m.cls := findClass_of_methodNamed B.named
  have hlocks := B.notSynchronized
  subst hsz
  have hK := hG.1
  have hD := hD0.self (sz := s.heap.size)
  generalize hAe : va_A [] s.heap.size = A at hD hZ ⊢
  have hA : ∀ q : Nat, s.heap.size ≤ q → A q := fun q h => by rw [← hAe]; exact Or.inr h
  have hS : va_S A s.heap s.heap [] := va_S.rf
  have hl := lv_entry ([.int 2, .int 3]) (n := 2) (Nat.le_of_ble_eq_true rfl)
  rw [lg_entry_eq]
  generalize (lg_sl ([.int 2, .int 3]) ++ List.replicate (2 - (lg_sl ([.int 2, .int 3])).length) Slot.unset).toArray = ls at hl ⊢
  have hl : lv_has ls 2 [(0, .int 2), (1, .int 3)] := hl
  refine lv_iconst (v := 2) hx hb dX7_filedAt_0 (by decide) ?_
  refine lv_bipush (v := 6) hx hb dX7_filedAt_1 (by decide) ?_
  refine lv_iload_n hx hb dX7_filedAt_3 rfl (lv_at hl 0 rfl) ?_
  refine lv_imul hx hb dX7_filedAt_4 ?_
  refine pxTop (w := .int 12) (congrArg Value.int (by decide)) ?_
  refine lv_iload_n hx hb dX7_filedAt_5 rfl (lv_at hl 1 rfl) ?_
  refine lv_iadd hx hb dX7_filedAt_6 ?_
  refine pxTop (w := .int 15) (congrArg Value.int (by decide)) ?_
  refine lv_imul hx hb dX7_filedAt_7 ?_
  refine pxTop (w := .int 30) (congrArg Value.int (by decide)) ?_
  refine W.widen (k := 0) (n := 0) (Nat.le_of_ble_eq_true rfl) (Nat.le_of_ble_eq_true rfl) ?_
  exact W.iret (v := 30) hx hb hr (fun t ht hW => ⟨⟨30, (fun _ => 0), rfl, rfl, by rw [ht]; exact hP, hD⟩, hS.F ht⟩) hS.2.2 dX7_filedAt_8
set_option maxHeartbeats 4000000 in
set_option maxRecDepth 100000 in
theorem k268_X7_filedAt (l : Launch) (G : pxG) (sz : Nat) : Met l yX7_filedAt (Cond.code yX7_filedAt cX7_filedAt 2 (some .int) :: pxAll) ({ frames := 0, cells := 0, slots := 0, locals := 0 } : Room) (va_Pc [.int 2, .int 4] (pxPre G [] sz)) (pxQi G (fun r => r = 32) (fun q => []) (va_A [] sz)) 0 0 (va_A [] sz) := by
  refine Met.ofW (cc := cX7_filedAt) (maxL := 2) (ret := (some .int)) (by decide) rfl ?_
  intro p e s m args below meth c s₁ B hml hv
  obtain ⟨rfl, hsz, hG, hZ, hP, hD0⟩ := hv
  have hx := B.exec
  have hb := B.bytes
  have hr := B.returns
  have hts0 := atoms_spec (ws := Cond.code yX7_filedAt cX7_filedAt 2 (some .int) :: pxAll) B.pre
  have hts : ∀ w ∈ pxAll, w.before _ s = true := fun w h => hts0 w (List.mem_cons_of_mem _ h)
  have hown : s.vm.findClass RX7 = some m.cls := findClass_of_methodNamed B.named
  have hlocks := B.notSynchronized
  subst hsz
  have hK := hG.1
  have hD := hD0.self (sz := s.heap.size)
  generalize hAe : va_A [] s.heap.size = A at hD hZ ⊢
  have hA : ∀ q : Nat, s.heap.size ≤ q → A q := fun q h => by rw [← hAe]; exact Or.inr h
  have hS : va_S A s.heap s.heap [] := va_S.rf
  have hl := lv_entry ([.int 2, .int 4]) (n := 2) (Nat.le_of_ble_eq_true rfl)
  rw [lg_entry_eq]
  generalize (lg_sl ([.int 2, .int 4]) ++ List.replicate (2 - (lg_sl ([.int 2, .int 4])).length) Slot.unset).toArray = ls at hl ⊢
  have hl : lv_has ls 2 [(0, .int 2), (1, .int 4)] := hl
  refine lv_iconst (v := 2) hx hb dX7_filedAt_0 (by decide) ?_
  refine lv_bipush (v := 6) hx hb dX7_filedAt_1 (by decide) ?_
  refine lv_iload_n hx hb dX7_filedAt_3 rfl (lv_at hl 0 rfl) ?_
  refine lv_imul hx hb dX7_filedAt_4 ?_
  refine pxTop (w := .int 12) (congrArg Value.int (by decide)) ?_
  refine lv_iload_n hx hb dX7_filedAt_5 rfl (lv_at hl 1 rfl) ?_
  refine lv_iadd hx hb dX7_filedAt_6 ?_
  refine pxTop (w := .int 16) (congrArg Value.int (by decide)) ?_
  refine lv_imul hx hb dX7_filedAt_7 ?_
  refine pxTop (w := .int 32) (congrArg Value.int (by decide)) ?_
  refine W.widen (k := 0) (n := 0) (Nat.le_of_ble_eq_true rfl) (Nat.le_of_ble_eq_true rfl) ?_
  exact W.iret (v := 32) hx hb hr (fun t ht hW => ⟨⟨32, (fun _ => 0), rfl, rfl, by rw [ht]; exact hP, hD⟩, hS.F ht⟩) hS.2.2 dX7_filedAt_8
set_option maxHeartbeats 4000000 in
set_option maxRecDepth 100000 in
theorem k269_X7_filedAt (l : Launch) (G : pxG) (sz : Nat) : Met l yX7_filedAt (Cond.code yX7_filedAt cX7_filedAt 2 (some .int) :: pxAll) ({ frames := 0, cells := 0, slots := 0, locals := 0 } : Room) (va_Pc [.int 2, .int 5] (pxPre G [] sz)) (pxQi G (fun r => r = 34) (fun q => []) (va_A [] sz)) 0 0 (va_A [] sz) := by
  refine Met.ofW (cc := cX7_filedAt) (maxL := 2) (ret := (some .int)) (by decide) rfl ?_
  intro p e s m args below meth c s₁ B hml hv
  obtain ⟨rfl, hsz, hG, hZ, hP, hD0⟩ := hv
  have hx := B.exec
  have hb := B.bytes
  have hr := B.returns
  have hts0 := atoms_spec (ws := Cond.code yX7_filedAt cX7_filedAt 2 (some .int) :: pxAll) B.pre
  have hts : ∀ w ∈ pxAll, w.before _ s = true := fun w h => hts0 w (List.mem_cons_of_mem _ h)
  have hown : s.vm.findClass RX7 = some m.cls := findClass_of_methodNamed B.named
  have hlocks := B.notSynchronized
  subst hsz
  have hK := hG.1
  have hD := hD0.self (sz := s.heap.size)
  generalize hAe : va_A [] s.heap.size = A at hD hZ ⊢
  have hA : ∀ q : Nat, s.heap.size ≤ q → A q := fun q h => by rw [← hAe]; exact Or.inr h
  have hS : va_S A s.heap s.heap [] := va_S.rf
  have hl := lv_entry ([.int 2, .int 5]) (n := 2) (Nat.le_of_ble_eq_true rfl)
  rw [lg_entry_eq]
  generalize (lg_sl ([.int 2, .int 5]) ++ List.replicate (2 - (lg_sl ([.int 2, .int 5])).length) Slot.unset).toArray = ls at hl ⊢
  have hl : lv_has ls 2 [(0, .int 2), (1, .int 5)] := hl
  refine lv_iconst (v := 2) hx hb dX7_filedAt_0 (by decide) ?_
  refine lv_bipush (v := 6) hx hb dX7_filedAt_1 (by decide) ?_
  refine lv_iload_n hx hb dX7_filedAt_3 rfl (lv_at hl 0 rfl) ?_
  refine lv_imul hx hb dX7_filedAt_4 ?_
  refine pxTop (w := .int 12) (congrArg Value.int (by decide)) ?_
  refine lv_iload_n hx hb dX7_filedAt_5 rfl (lv_at hl 1 rfl) ?_
  refine lv_iadd hx hb dX7_filedAt_6 ?_
  refine pxTop (w := .int 17) (congrArg Value.int (by decide)) ?_
  refine lv_imul hx hb dX7_filedAt_7 ?_
  refine pxTop (w := .int 34) (congrArg Value.int (by decide)) ?_
  refine W.widen (k := 0) (n := 0) (Nat.le_of_ble_eq_true rfl) (Nat.le_of_ble_eq_true rfl) ?_
  exact W.iret (v := 34) hx hb hr (fun t ht hW => ⟨⟨34, (fun _ => 0), rfl, rfl, by rw [ht]; exact hP, hD⟩, hS.F ht⟩) hS.2.2 dX7_filedAt_8
set_option maxHeartbeats 4000000 in
set_option maxRecDepth 100000 in
theorem k251_X7_newDrawer (l : Launch) (G : pxG) (sz : Nat) (a0 a1 a2 a3 a4 a5 a6 a7 a8 a9 a10 a11 : Nat) (i0 i1 : Int32) (h0 : 0 ≤ i0.toInt ∧ i0.toInt ≤ 2) (h1 : 1 ≤ i1.toInt ∧ i1.toInt ≤ 6) : Met l yX7_newDrawer (Cond.code yX7_newDrawer cX7_newDrawer 6 (some .int) :: pxAll) ({ frames := 2, cells := 0, slots := 0, locals := 42 } : Room) (va_Pc [.ref a0, .int i0, .int 0, .int i1] (pxPre G [(a0, .inr (6, [.ref a4, .ref a5, .ref a6, .int 0, .ref a7, .int 0, .int 0, .int 0, .int 0, .ref a8, .int 0, .ref a9, .int 0, .int 0, .int 0, .int (-1), .ref a10, .ref a11, .int 0, .ref a1, .ref a2, .ref a3])), (a1, .inl (G.2.1 0, 3, .inl (fun _ => 0))), (a2, .inl (G.2.1 0, 3, .inl (fun _ => 0))), (a3, .inl (G.2.1 0, 36, .inl (fun _ => 0)))] sz)) (pxQi G (fun r => r = 0) (fun q => [(a0, .inr (6, [.ref a4, .ref a5, .ref a6, .int 0, .ref a7, .int 0, .int 0, .int 0, .int 0, .ref a8, .int 0, .ref a9, .int 0, .int 0, .int 0, .int (-1), .ref a10, .ref a11, .int 0, .ref a1, .ref a2, .ref a3]))]) (va_A [(a0, .inr (6, [.ref a4, .ref a5, .ref a6, .int 0, .ref a7, .int 0, .int 0, .int 0, .int 0, .ref a8, .int 0, .ref a9, .int 0, .int 0, .int 0, .int (-1), .ref a10, .ref a11, .int 0, .ref a1, .ref a2, .ref a3])), (a1, .inl (G.2.1 0, 3, .inl (fun _ => 0))), (a2, .inl (G.2.1 0, 3, .inl (fun _ => 0))), (a3, .inl (G.2.1 0, 36, .inl (fun _ => 0)))] sz)) 0 0 (va_A [(a0, .inr (6, [.ref a4, .ref a5, .ref a6, .int 0, .ref a7, .int 0, .int 0, .int 0, .int 0, .ref a8, .int 0, .ref a9, .int 0, .int 0, .int 0, .int (-1), .ref a10, .ref a11, .int 0, .ref a1, .ref a2, .ref a3])), (a1, .inl (G.2.1 0, 3, .inl (fun _ => 0))), (a2, .inl (G.2.1 0, 3, .inl (fun _ => 0))), (a3, .inl (G.2.1 0, 36, .inl (fun _ => 0)))] sz) := by
  refine Met.ofW (cc := cX7_newDrawer) (maxL := 6) (ret := (some .int)) (by decide) rfl ?_
  intro p e s m args below meth c s₁ B hml hv
  obtain ⟨rfl, hsz, hG, hZ, hP, hD0⟩ := hv
  have hx := B.exec
  have hb := B.bytes
  have hr := B.returns
  have hts0 := atoms_spec (ws := Cond.code yX7_newDrawer cX7_newDrawer 6 (some .int) :: pxAll) B.pre
  have hts : ∀ w ∈ pxAll, w.before _ s = true := fun w h => hts0 w (List.mem_cons_of_mem _ h)
  have hown : s.vm.findClass RX7 = some m.cls := findClass_of_methodNamed B.named
  have hlocks := B.notSynchronized
  subst hsz
  have hK := hG.1
  have hD := hD0.self (sz := s.heap.size)
  generalize hAe : va_A [(a0, .inr (6, [.ref a4, .ref a5, .ref a6, .int 0, .ref a7, .int 0, .int 0, .int 0, .int 0, .ref a8, .int 0, .ref a9, .int 0, .int 0, .int 0, .int (-1), .ref a10, .ref a11, .int 0, .ref a1, .ref a2, .ref a3])), (a1, .inl (G.2.1 0, 3, .inl (fun _ => 0))), (a2, .inl (G.2.1 0, 3, .inl (fun _ => 0))), (a3, .inl (G.2.1 0, 36, .inl (fun _ => 0)))] s.heap.size = A at hD hZ ⊢
  have hA : ∀ q : Nat, s.heap.size ≤ q → A q := fun q h => by rw [← hAe]; exact Or.inr h
  have hS : va_S A s.heap s.heap [] := va_S.rf
  have hl := lv_entry ([.ref a0, .int i0, .int 0, .int i1]) (n := 6) (Nat.le_of_ble_eq_true rfl)
  rw [lg_entry_eq]
  generalize (lg_sl ([.ref a0, .int i0, .int 0, .int i1]) ++ List.replicate (6 - (lg_sl ([.ref a0, .int i0, .int 0, .int i1])).length) Slot.unset).toArray = ls at hl ⊢
  have hl : lv_has ls 6 [(0, .ref a0), (1, .int i0), (2, .int 0), (3, .int i1)] := hl
  have r0 := pxRng i0
  have r1 := pxRng i1
  refine lv_aload_n hx hb dX7_newDrawer_0 rfl (lv_at hl 0 rfl) ?_
  refine lv_iload_n hx hb dX7_newDrawer_1 rfl (lv_at hl 1 rfl) ?_
  refine pxCi (va_runS (As := [.int i0]) (rest := [.ref a0]) ⟨hx, hb, hml, hown, hts⟩ (k236_X7_isDrawer l G s.heap.size i0 ⟨by omega, by omega⟩) (va_cwS 1 hts (pxGS pm643 pm644 pm71 pm645) rfl rfl rfl (by decide +kernel) ⟨(Nat.le_of_ble_eq_true rfl), (Nat.le_of_ble_eq_true rfl)⟩) (pxS hG hZ hP hD hS hA [] rfl (by decide)) rfl rfl hl.1 rfl (lv_room (Nat.le_of_ble_eq_true rfl)) dX7_newDrawer_2 ⟨(Nat.le_of_ble_eq_true rfl), (Nat.le_of_ble_eq_true rfl)⟩) hP hD hS hA [] [0, 1, 2, 3] rfl rfl (by decide) (by decide) (fun r2 q1 H locs hw hP hD hS => ?_)
  have hw : r2 = 1 := hw
  subst hw
  have hP : va_P G.1 pxCl [(a0, .inr (6, [.ref a4, .ref a5, .ref a6, .int 0, .ref a7, .int 0, .int 0, .int 0, .int 0, .ref a8, .int 0, .ref a9, .int 0, .int 0, .int 0, .int (-1), .ref a10, .ref a11, .int 0, .ref a1, .ref a2, .ref a3])), (a1, .inl (G.2.1 0, 3, .inl (fun _ => 0))), (a2, .inl (G.2.1 0, 3, .inl (fun _ => 0))), (a3, .inl (G.2.1 0, 36, .inl (fun _ => 0)))] H := hP
  have hD : va_D A [(a0, .inr (6, [.ref a4, .ref a5, .ref a6, .int 0, .ref a7, .int 0, .int 0, .int 0, .int 0, .ref a8, .int 0, .ref a9, .int 0, .int 0, .int 0, .int (-1), .ref a10, .ref a11, .int 0, .ref a1, .ref a2, .ref a3])), (a1, .inl (G.2.1 0, 3, .inl (fun _ => 0))), (a2, .inl (G.2.1 0, 3, .inl (fun _ => 0))), (a3, .inl (G.2.1 0, 36, .inl (fun _ => 0)))] := hD
  refine lv_if_ne (tgt := 12) hx hb dX7_newDrawer_5 (by decide) (fun _ => ?_) (fun h9 => absurd h9 (by decide))
  refine lv_iload_n hx hb dX7_newDrawer_12 rfl (lv_at hl 2 rfl) ?_
  refine lv_iconst (v := 0) hx hb dX7_newDrawer_13 (by decide) ?_
  refine lv_iconst (v := 1) hx hb dX7_newDrawer_14 (by decide) ?_
  refine pxCi (va_runS (As := [.int 0, .int 0, .int 1]) (rest := [.ref a0]) ⟨hx, hb, hml, hown, hts⟩ (k244_X7_in l G H.size) (va_cwS 3 hts (pxGS pm143 pm144 pm71 pm145) rfl rfl rfl (by decide +kernel) ⟨(Nat.le_of_ble_eq_true rfl), (Nat.le_of_ble_eq_true rfl)⟩) (pxS hG hZ hP hD hS hA [] rfl (by decide)) rfl rfl hl.1 rfl (lv_room (Nat.le_of_ble_eq_true rfl)) dX7_newDrawer_15 ⟨(Nat.le_of_ble_eq_true rfl), (Nat.le_of_ble_eq_true rfl)⟩) hP hD hS hA [] [0, 1, 2, 3] rfl rfl (by decide) (by decide) (fun r4 q3 H locs hw hP hD hS => ?_)
  have hw : r4 = 1 := hw
  subst hw
  have hP : va_P G.1 pxCl [(a0, .inr (6, [.ref a4, .ref a5, .ref a6, .int 0, .ref a7, .int 0, .int 0, .int 0, .int 0, .ref a8, .int 0, .ref a9, .int 0, .int 0, .int 0, .int (-1), .ref a10, .ref a11, .int 0, .ref a1, .ref a2, .ref a3])), (a1, .inl (G.2.1 0, 3, .inl (fun _ => 0))), (a2, .inl (G.2.1 0, 3, .inl (fun _ => 0))), (a3, .inl (G.2.1 0, 36, .inl (fun _ => 0)))] H := hP
  have hD : va_D A [(a0, .inr (6, [.ref a4, .ref a5, .ref a6, .int 0, .ref a7, .int 0, .int 0, .int 0, .int 0, .ref a8, .int 0, .ref a9, .int 0, .int 0, .int 0, .int (-1), .ref a10, .ref a11, .int 0, .ref a1, .ref a2, .ref a3])), (a1, .inl (G.2.1 0, 3, .inl (fun _ => 0))), (a2, .inl (G.2.1 0, 3, .inl (fun _ => 0))), (a3, .inl (G.2.1 0, 36, .inl (fun _ => 0)))] := hD
  refine lv_if_eq (tgt := 31) hx hb dX7_newDrawer_18 (by decide) (fun h9 => absurd h9 (by decide)) (fun _ => ?_)
  refine lv_iload_n hx hb dX7_newDrawer_21 rfl (lv_at hl 3 rfl) ?_
  refine lv_iconst (v := 1) hx hb dX7_newDrawer_22 (by decide) ?_
  refine lv_bipush (v := 6) hx hb dX7_newDrawer_23 (by decide) ?_
  refine pxCi (va_runS (As := [.int i1, .int 1, .int 6]) (rest := [.ref a0]) ⟨hx, hb, hml, hown, hts⟩ (k251_X7_in l G H.size i1 ⟨by omega, by omega⟩) (va_cwS 3 hts (pxGS pm143 pm144 pm71 pm145) rfl rfl rfl (by decide +kernel) ⟨(Nat.le_of_ble_eq_true rfl), (Nat.le_of_ble_eq_true rfl)⟩) (pxS hG hZ hP hD hS hA [] rfl (by decide)) rfl rfl hl.1 rfl (lv_room (Nat.le_of_ble_eq_true rfl)) dX7_newDrawer_25 ⟨(Nat.le_of_ble_eq_true rfl), (Nat.le_of_ble_eq_true rfl)⟩) hP hD hS hA [] [0, 1, 2, 3] rfl rfl (by decide) (by decide) (fun r6 q5 H locs hw hP hD hS => ?_)
  have hw : r6 = 1 := hw
  subst hw
  have hP : va_P G.1 pxCl [(a0, .inr (6, [.ref a4, .ref a5, .ref a6, .int 0, .ref a7, .int 0, .int 0, .int 0, .int 0, .ref a8, .int 0, .ref a9, .int 0, .int 0, .int 0, .int (-1), .ref a10, .ref a11, .int 0, .ref a1, .ref a2, .ref a3])), (a1, .inl (G.2.1 0, 3, .inl (fun _ => 0))), (a2, .inl (G.2.1 0, 3, .inl (fun _ => 0))), (a3, .inl (G.2.1 0, 36, .inl (fun _ => 0)))] H := hP
  have hD : va_D A [(a0, .inr (6, [.ref a4, .ref a5, .ref a6, .int 0, .ref a7, .int 0, .int 0, .int 0, .int 0, .ref a8, .int 0, .ref a9, .int 0, .int 0, .int 0, .int (-1), .ref a10, .ref a11, .int 0, .ref a1, .ref a2, .ref a3])), (a1, .inl (G.2.1 0, 3, .inl (fun _ => 0))), (a2, .inl (G.2.1 0, 3, .inl (fun _ => 0))), (a3, .inl (G.2.1 0, 36, .inl (fun _ => 0)))] := hD
  refine lv_if_ne (tgt := 35) hx hb dX7_newDrawer_28 (by decide) (fun _ => ?_) (fun h9 => absurd h9 (by decide))
  refine lv_iconst (v := 0) hx hb dX7_newDrawer_35 (by decide) ?_
  refine va_put (D := G.1) (ci := 6) (v := .int 0) (ty := .int) (C := RX7) (T := TX7) (N := 22) hx hb hts piX7 tyX7 tyX7_ok nmX7 hown hK hP hD hS 0 rfl rfl 7 (by decide) (hts _ pm150) (fun _ h9 => h9) rfl (by decide +kernel) rfl rfl (Nat.le_of_ble_eq_true rfl) dX7_newDrawer_36 (fun H locs hP hD hS => ?_)
  have hP : va_P G.1 pxCl [(a0, .inr (6, [.ref a4, .ref a5, .ref a6, .int 0, .ref a7, .int 0, .int 0, .int 0, .int 0, .ref a8, .int 0, .ref a9, .int 0, .int 0, .int 0, .int (-1), .ref a10, .ref a11, .int 0, .ref a1, .ref a2, .ref a3])), (a1, .inl (G.2.1 0, 3, .inl (fun _ => 0))), (a2, .inl (G.2.1 0, 3, .inl (fun _ => 0))), (a3, .inl (G.2.1 0, 36, .inl (fun _ => 0)))] H := hP
  have hD : va_D A [(a0, .inr (6, [.ref a4, .ref a5, .ref a6, .int 0, .ref a7, .int 0, .int 0, .int 0, .int 0, .ref a8, .int 0, .ref a9, .int 0, .int 0, .int 0, .int (-1), .ref a10, .ref a11, .int 0, .ref a1, .ref a2, .ref a3])), (a1, .inl (G.2.1 0, 3, .inl (fun _ => 0))), (a2, .inl (G.2.1 0, 3, .inl (fun _ => 0))), (a3, .inl (G.2.1 0, 36, .inl (fun _ => 0)))] := hD
  refine lv_aload_n hx hb dX7_newDrawer_39 rfl (lv_at hl 0 rfl) ?_
  refine va_get (D := G.1) (ci := 6) (v := .int 0) (C := RX7) (T := TX7) (N := 22) hx hb hts piX7 hown hK hP 0 rfl rfl 7 (by decide) (hts _ pm150) (fun _ h9 => h9) rfl dX7_newDrawer_40 ?_
  refine lv_if_le (tgt := 48) hx hb dX7_newDrawer_43 (by decide) (fun _ => ?_) (fun h9 => absurd (by decide) h9)
  refine lv_aload_n hx hb dX7_newDrawer_48 rfl (lv_at hl 0 rfl) ?_
  refine va_get (D := G.1) (ci := 6) (v := .ref a1) (C := RX7) (T := TX7) (N := 22) hx hb hts piX7 hown hK hP 0 rfl rfl 19 (by decide) (hts _ pm83) (fun _ h9 => h9) rfl dX7_newDrawer_49 ?_
  refine lv_iload_n hx hb dX7_newDrawer_52 rfl (lv_at hl 1 rfl) ?_
  refine va_iald hx hb hK hP 1 0 rfl rfl (vp_in_iff.mpr ⟨by omega, by omega⟩) dX7_newDrawer_53 ?_
  refine pxTop (w := .int 0) rfl ?_
  refine lv_istore (lv' := [(4, .int 0), (0, .ref a0), (1, .int i0), (2, .int 0), (3, .int i1)]) hx hb dX7_newDrawer_54 hl (by decide) rfl (fun ls hl => ?_)
  refine lv_aload_n hx hb dX7_newDrawer_56 rfl (lv_at hl 1 rfl) ?_
  refine va_get (D := G.1) (ci := 6) (v := .ref a1) (C := RX7) (T := TX7) (N := 22) hx hb hts piX7 hown hK hP 0 rfl rfl 19 (by decide) (hts _ pm83) (fun _ h9 => h9) rfl dX7_newDrawer_57 ?_
  refine lv_iload_n hx hb dX7_newDrawer_60 rfl (lv_at hl 2 rfl) ?_
  refine lv_iload_n hx hb dX7_newDrawer_61 rfl (lv_at hl 4 rfl) ?_
  rcases Int.lt_or_le i0.toInt 1 with f1 | f1
  · skip
    obtain rfl : i0 = 0 := pxEq 0 (by have h9 : (0 : Int32).toInt = 0 := (by decide); omega)
    refine va_iast hx hb hK hP hD hS 1 0 rfl rfl (show ¬ ((0 : Int32) < 0 ∨ 3 ≤ (0 : Int32).toNatClampNeg) by decide +kernel) dX7_newDrawer_62 (fun H locs hP hD hS => ?_)
    have hP : va_P G.1 pxCl [(a0, .inr (6, [.ref a4, .ref a5, .ref a6, .int 0, .ref a7, .int 0, .int 0, .int 0, .int 0, .ref a8, .int 0, .ref a9, .int 0, .int 0, .int 0, .int (-1), .ref a10, .ref a11, .int 0, .ref a1, .ref a2, .ref a3])), (a1, .inl (G.2.1 0, 3, .inl (upd (fun _ => 0) 0 i1))), (a2, .inl (G.2.1 0, 3, .inl (fun _ => 0))), (a3, .inl (G.2.1 0, 36, .inl (fun _ => 0)))] H := hP
    have hD : va_D A [(a0, .inr (6, [.ref a4, .ref a5, .ref a6, .int 0, .ref a7, .int 0, .int 0, .int 0, .int 0, .ref a8, .int 0, .ref a9, .int 0, .int 0, .int 0, .int (-1), .ref a10, .ref a11, .int 0, .ref a1, .ref a2, .ref a3])), (a1, .inl (G.2.1 0, 3, .inl (upd (fun _ => 0) 0 i1))), (a2, .inl (G.2.1 0, 3, .inl (fun _ => 0))), (a3, .inl (G.2.1 0, 36, .inl (fun _ => 0)))] := hD
    refine lv_aload_n hx hb dX7_newDrawer_63 rfl (lv_at hl 1 rfl) ?_
    refine va_get (D := G.1) (ci := 6) (v := .ref a2) (C := RX7) (T := TX7) (N := 22) hx hb hts piX7 hown hK hP 0 rfl rfl 20 (by decide) (hts _ pm84) (fun _ h9 => h9) rfl dX7_newDrawer_64 ?_
    refine lv_iload_n hx hb dX7_newDrawer_67 rfl (lv_at hl 2 rfl) ?_
    refine lv_iload_n hx hb dX7_newDrawer_68 rfl (lv_at hl 3 rfl) ?_
    refine va_iast hx hb hK hP hD hS 2 0 rfl rfl (show ¬ ((0 : Int32) < 0 ∨ 3 ≤ (0 : Int32).toNatClampNeg) by decide +kernel) dX7_newDrawer_69 (fun H locs hP hD hS => ?_)
    have hP : va_P G.1 pxCl [(a0, .inr (6, [.ref a4, .ref a5, .ref a6, .int 0, .ref a7, .int 0, .int 0, .int 0, .int 0, .ref a8, .int 0, .ref a9, .int 0, .int 0, .int 0, .int (-1), .ref a10, .ref a11, .int 0, .ref a1, .ref a2, .ref a3])), (a1, .inl (G.2.1 0, 3, .inl (upd (fun _ => 0) 0 i1))), (a2, .inl (G.2.1 0, 3, .inl (upd (fun _ => 0) 0 0))), (a3, .inl (G.2.1 0, 36, .inl (fun _ => 0)))] H := hP
    have hD : va_D A [(a0, .inr (6, [.ref a4, .ref a5, .ref a6, .int 0, .ref a7, .int 0, .int 0, .int 0, .int 0, .ref a8, .int 0, .ref a9, .int 0, .int 0, .int 0, .int (-1), .ref a10, .ref a11, .int 0, .ref a1, .ref a2, .ref a3])), (a1, .inl (G.2.1 0, 3, .inl (upd (fun _ => 0) 0 i1))), (a2, .inl (G.2.1 0, 3, .inl (upd (fun _ => 0) 0 0))), (a3, .inl (G.2.1 0, 36, .inl (fun _ => 0)))] := hD
    refine lv_iconst (v := 0) hx hb dX7_newDrawer_70 (by decide) ?_
    refine lv_istore (lv' := [(5, .int 0), (4, .int 0), (0, .ref a0), (1, .int 0), (2, .int 0), (3, .int i1)]) hx hb dX7_newDrawer_71 hl (by decide) rfl (fun ls hl => ?_)
    refine lv_iload hx hb dX7_newDrawer_73 (lv_at hl 0 rfl) ?_
    refine lv_bipush (v := 6) hx hb dX7_newDrawer_75 (by decide) ?_
    refine lv_icmp_ge (tgt := 98) hx hb dX7_newDrawer_77 (by decide) (fun h9 => absurd h9 (by decide)) (fun _ => ?_)
    refine lv_aload_n hx hb dX7_newDrawer_80 rfl (lv_at hl 2 rfl) ?_
    refine va_get (D := G.1) (ci := 6) (v := .ref a3) (C := RX7) (T := TX7) (N := 22) hx hb hts piX7 hown hK hP 0 rfl rfl 21 (by decide) (hts _ pm85) (fun _ h9 => h9) rfl dX7_newDrawer_81 ?_
    refine lv_iload_n hx hb dX7_newDrawer_84 rfl (lv_at hl 3 rfl) ?_
    refine lv_iload hx hb dX7_newDrawer_85 (lv_at hl 0 rfl) ?_
    refine pxCi (va_runS (As := [.int 0, .int 0]) (rest := [.ref a3]) ⟨hx, hb, hml, hown, hts⟩ (k252_X7_filedAt l G H.size) (va_cwS 2 hts (pxGS pm663 pm664 pm71 pm665) rfl rfl rfl (by decide +kernel) ⟨(Nat.le_of_ble_eq_true rfl), (Nat.le_of_ble_eq_true rfl)⟩) (pxS hG hZ hP hD hS hA [] rfl (by decide)) rfl rfl hl.1 rfl (lv_room (Nat.le_of_ble_eq_true rfl)) dX7_newDrawer_87 ⟨(Nat.le_of_ble_eq_true rfl), (Nat.le_of_ble_eq_true rfl)⟩) hP hD hS hA [] [0, 1, 2, 3] rfl rfl (by decide) (by decide) (fun r8 q7 H locs hw hP hD hS => ?_)
    have hw : r8 = 0 := hw
    subst hw
    have hP : va_P G.1 pxCl [(a0, .inr (6, [.ref a4, .ref a5, .ref a6, .int 0, .ref a7, .int 0, .int 0, .int 0, .int 0, .ref a8, .int 0, .ref a9, .int 0, .int 0, .int 0, .int (-1), .ref a10, .ref a11, .int 0, .ref a1, .ref a2, .ref a3])), (a1, .inl (G.2.1 0, 3, .inl (upd (fun _ => 0) 0 i1))), (a2, .inl (G.2.1 0, 3, .inl (upd (fun _ => 0) 0 0))), (a3, .inl (G.2.1 0, 36, .inl (fun _ => 0)))] H := hP
    have hD : va_D A [(a0, .inr (6, [.ref a4, .ref a5, .ref a6, .int 0, .ref a7, .int 0, .int 0, .int 0, .int 0, .ref a8, .int 0, .ref a9, .int 0, .int 0, .int 0, .int (-1), .ref a10, .ref a11, .int 0, .ref a1, .ref a2, .ref a3])), (a1, .inl (G.2.1 0, 3, .inl (upd (fun _ => 0) 0 i1))), (a2, .inl (G.2.1 0, 3, .inl (upd (fun _ => 0) 0 0))), (a3, .inl (G.2.1 0, 36, .inl (fun _ => 0)))] := hD
    refine lv_iconst (v := (-1)) hx hb dX7_newDrawer_90 (by decide) ?_
    refine va_iast hx hb hK hP hD hS 3 0 rfl rfl (show ¬ ((0 : Int32) < 0 ∨ 36 ≤ (0 : Int32).toNatClampNeg) by decide +kernel) dX7_newDrawer_91 (fun H locs hP hD hS => ?_)
    have hP : va_P G.1 pxCl [(a0, .inr (6, [.ref a4, .ref a5, .ref a6, .int 0, .ref a7, .int 0, .int 0, .int 0, .int 0, .ref a8, .int 0, .ref a9, .int 0, .int 0, .int 0, .int (-1), .ref a10, .ref a11, .int 0, .ref a1, .ref a2, .ref a3])), (a1, .inl (G.2.1 0, 3, .inl (upd (fun _ => 0) 0 i1))), (a2, .inl (G.2.1 0, 3, .inl (upd (fun _ => 0) 0 0))), (a3, .inl (G.2.1 0, 36, .inl (upd (fun _ => 0) 0 (-1))))] H := hP
    have hD : va_D A [(a0, .inr (6, [.ref a4, .ref a5, .ref a6, .int 0, .ref a7, .int 0, .int 0, .int 0, .int 0, .ref a8, .int 0, .ref a9, .int 0, .int 0, .int 0, .int (-1), .ref a10, .ref a11, .int 0, .ref a1, .ref a2, .ref a3])), (a1, .inl (G.2.1 0, 3, .inl (upd (fun _ => 0) 0 i1))), (a2, .inl (G.2.1 0, 3, .inl (upd (fun _ => 0) 0 0))), (a3, .inl (G.2.1 0, 36, .inl (upd (fun _ => 0) 0 (-1))))] := hD
    refine lv_iinc (v := 1) (lv' := [(5, .int 1), (4, .int 0), (0, .ref a0), (1, .int 0), (2, .int 0), (3, .int i1)]) hx hb dX7_newDrawer_92 hl (k := 0) rfl (by decide) (by decide) rfl (fun ls hl => ?_)
    refine lv_goto (tgt := 73) hx hb dX7_newDrawer_95 (by decide) ?_
    refine lv_iload hx hb dX7_newDrawer_73 (lv_at hl 0 rfl) ?_
    refine lv_bipush (v := 6) hx hb dX7_newDrawer_75 (by decide) ?_
    refine lv_icmp_ge (tgt := 98) hx hb dX7_newDrawer_77 (by decide) (fun h9 => absurd h9 (by decide)) (fun _ => ?_)
    refine lv_aload_n hx hb dX7_newDrawer_80 rfl (lv_at hl 2 rfl) ?_
    refine va_get (D := G.1) (ci := 6) (v := .ref a3) (C := RX7) (T := TX7) (N := 22) hx hb hts piX7 hown hK hP 0 rfl rfl 21 (by decide) (hts _ pm85) (fun _ h9 => h9) rfl dX7_newDrawer_81 ?_
    refine lv_iload_n hx hb dX7_newDrawer_84 rfl (lv_at hl 3 rfl) ?_
    refine lv_iload hx hb dX7_newDrawer_85 (lv_at hl 0 rfl) ?_
    refine pxCi (va_runS (As := [.int 0, .int 1]) (rest := [.ref a3]) ⟨hx, hb, hml, hown, hts⟩ (k253_X7_filedAt l G H.size) (va_cwS 2 hts (pxGS pm663 pm664 pm71 pm665) rfl rfl rfl (by decide +kernel) ⟨(Nat.le_of_ble_eq_true rfl), (Nat.le_of_ble_eq_true rfl)⟩) (pxS hG hZ hP hD hS hA [] rfl (by decide)) rfl rfl hl.1 rfl (lv_room (Nat.le_of_ble_eq_true rfl)) dX7_newDrawer_87 ⟨(Nat.le_of_ble_eq_true rfl), (Nat.le_of_ble_eq_true rfl)⟩) hP hD hS hA [] [0, 1, 2, 3] rfl rfl (by decide) (by decide) (fun r10 q9 H locs hw hP hD hS => ?_)
    have hw : r10 = 2 := hw
    subst hw
    have hP : va_P G.1 pxCl [(a0, .inr (6, [.ref a4, .ref a5, .ref a6, .int 0, .ref a7, .int 0, .int 0, .int 0, .int 0, .ref a8, .int 0, .ref a9, .int 0, .int 0, .int 0, .int (-1), .ref a10, .ref a11, .int 0, .ref a1, .ref a2, .ref a3])), (a1, .inl (G.2.1 0, 3, .inl (upd (fun _ => 0) 0 i1))), (a2, .inl (G.2.1 0, 3, .inl (upd (fun _ => 0) 0 0))), (a3, .inl (G.2.1 0, 36, .inl (upd (fun _ => 0) 0 (-1))))] H := hP
    have hD : va_D A [(a0, .inr (6, [.ref a4, .ref a5, .ref a6, .int 0, .ref a7, .int 0, .int 0, .int 0, .int 0, .ref a8, .int 0, .ref a9, .int 0, .int 0, .int 0, .int (-1), .ref a10, .ref a11, .int 0, .ref a1, .ref a2, .ref a3])), (a1, .inl (G.2.1 0, 3, .inl (upd (fun _ => 0) 0 i1))), (a2, .inl (G.2.1 0, 3, .inl (upd (fun _ => 0) 0 0))), (a3, .inl (G.2.1 0, 36, .inl (upd (fun _ => 0) 0 (-1))))] := hD
    refine lv_iconst (v := (-1)) hx hb dX7_newDrawer_90 (by decide) ?_
    refine va_iast hx hb hK hP hD hS 3 0 rfl rfl (show ¬ ((2 : Int32) < 0 ∨ 36 ≤ (2 : Int32).toNatClampNeg) by decide +kernel) dX7_newDrawer_91 (fun H locs hP hD hS => ?_)
    have hP : va_P G.1 pxCl [(a0, .inr (6, [.ref a4, .ref a5, .ref a6, .int 0, .ref a7, .int 0, .int 0, .int 0, .int 0, .ref a8, .int 0, .ref a9, .int 0, .int 0, .int 0, .int (-1), .ref a10, .ref a11, .int 0, .ref a1, .ref a2, .ref a3])), (a1, .inl (G.2.1 0, 3, .inl (upd (fun _ => 0) 0 i1))), (a2, .inl (G.2.1 0, 3, .inl (upd (fun _ => 0) 0 0))), (a3, .inl (G.2.1 0, 36, .inl (upd (upd (fun _ => 0) 0 (-1)) 2 (-1))))] H := hP
    have hD : va_D A [(a0, .inr (6, [.ref a4, .ref a5, .ref a6, .int 0, .ref a7, .int 0, .int 0, .int 0, .int 0, .ref a8, .int 0, .ref a9, .int 0, .int 0, .int 0, .int (-1), .ref a10, .ref a11, .int 0, .ref a1, .ref a2, .ref a3])), (a1, .inl (G.2.1 0, 3, .inl (upd (fun _ => 0) 0 i1))), (a2, .inl (G.2.1 0, 3, .inl (upd (fun _ => 0) 0 0))), (a3, .inl (G.2.1 0, 36, .inl (upd (upd (fun _ => 0) 0 (-1)) 2 (-1))))] := hD
    refine lv_iinc (v := 2) (lv' := [(5, .int 2), (4, .int 0), (0, .ref a0), (1, .int 0), (2, .int 0), (3, .int i1)]) hx hb dX7_newDrawer_92 hl (k := 0) rfl (by decide) (by decide) rfl (fun ls hl => ?_)
    refine lv_goto (tgt := 73) hx hb dX7_newDrawer_95 (by decide) ?_
    refine lv_iload hx hb dX7_newDrawer_73 (lv_at hl 0 rfl) ?_
    refine lv_bipush (v := 6) hx hb dX7_newDrawer_75 (by decide) ?_
    refine lv_icmp_ge (tgt := 98) hx hb dX7_newDrawer_77 (by decide) (fun h9 => absurd h9 (by decide)) (fun _ => ?_)
    refine lv_aload_n hx hb dX7_newDrawer_80 rfl (lv_at hl 2 rfl) ?_
    refine va_get (D := G.1) (ci := 6) (v := .ref a3) (C := RX7) (T := TX7) (N := 22) hx hb hts piX7 hown hK hP 0 rfl rfl 21 (by decide) (hts _ pm85) (fun _ h9 => h9) rfl dX7_newDrawer_81 ?_
    refine lv_iload_n hx hb dX7_newDrawer_84 rfl (lv_at hl 3 rfl) ?_
    refine lv_iload hx hb dX7_newDrawer_85 (lv_at hl 0 rfl) ?_
    refine pxCi (va_runS (As := [.int 0, .int 2]) (rest := [.ref a3]) ⟨hx, hb, hml, hown, hts⟩ (k254_X7_filedAt l G H.size) (va_cwS 2 hts (pxGS pm663 pm664 pm71 pm665) rfl rfl rfl (by decide +kernel) ⟨(Nat.le_of_ble_eq_true rfl), (Nat.le_of_ble_eq_true rfl)⟩) (pxS hG hZ hP hD hS hA [] rfl (by decide)) rfl rfl hl.1 rfl (lv_room (Nat.le_of_ble_eq_true rfl)) dX7_newDrawer_87 ⟨(Nat.le_of_ble_eq_true rfl), (Nat.le_of_ble_eq_true rfl)⟩) hP hD hS hA [] [0, 1, 2, 3] rfl rfl (by decide) (by decide) (fun r12 q11 H locs hw hP hD hS => ?_)
    have hw : r12 = 4 := hw
    subst hw
    have hP : va_P G.1 pxCl [(a0, .inr (6, [.ref a4, .ref a5, .ref a6, .int 0, .ref a7, .int 0, .int 0, .int 0, .int 0, .ref a8, .int 0, .ref a9, .int 0, .int 0, .int 0, .int (-1), .ref a10, .ref a11, .int 0, .ref a1, .ref a2, .ref a3])), (a1, .inl (G.2.1 0, 3, .inl (upd (fun _ => 0) 0 i1))), (a2, .inl (G.2.1 0, 3, .inl (upd (fun _ => 0) 0 0))), (a3, .inl (G.2.1 0, 36, .inl (upd (upd (fun _ => 0) 0 (-1)) 2 (-1))))] H := hP
    have hD : va_D A [(a0, .inr (6, [.ref a4, .ref a5, .ref a6, .int 0, .ref a7, .int 0, .int 0, .int 0, .int 0, .ref a8, .int 0, .ref a9, .int 0, .int 0, .int 0, .int (-1), .ref a10, .ref a11, .int 0, .ref a1, .ref a2, .ref a3])), (a1, .inl (G.2.1 0, 3, .inl (upd (fun _ => 0) 0 i1))), (a2, .inl (G.2.1 0, 3, .inl (upd (fun _ => 0) 0 0))), (a3, .inl (G.2.1 0, 36, .inl (upd (upd (fun _ => 0) 0 (-1)) 2 (-1))))] := hD
    refine lv_iconst (v := (-1)) hx hb dX7_newDrawer_90 (by decide) ?_
    refine va_iast hx hb hK hP hD hS 3 0 rfl rfl (show ¬ ((4 : Int32) < 0 ∨ 36 ≤ (4 : Int32).toNatClampNeg) by decide +kernel) dX7_newDrawer_91 (fun H locs hP hD hS => ?_)
    have hP : va_P G.1 pxCl [(a0, .inr (6, [.ref a4, .ref a5, .ref a6, .int 0, .ref a7, .int 0, .int 0, .int 0, .int 0, .ref a8, .int 0, .ref a9, .int 0, .int 0, .int 0, .int (-1), .ref a10, .ref a11, .int 0, .ref a1, .ref a2, .ref a3])), (a1, .inl (G.2.1 0, 3, .inl (upd (fun _ => 0) 0 i1))), (a2, .inl (G.2.1 0, 3, .inl (upd (fun _ => 0) 0 0))), (a3, .inl (G.2.1 0, 36, .inl (upd (upd (upd (fun _ => 0) 0 (-1)) 2 (-1)) 4 (-1))))] H := hP
    have hD : va_D A [(a0, .inr (6, [.ref a4, .ref a5, .ref a6, .int 0, .ref a7, .int 0, .int 0, .int 0, .int 0, .ref a8, .int 0, .ref a9, .int 0, .int 0, .int 0, .int (-1), .ref a10, .ref a11, .int 0, .ref a1, .ref a2, .ref a3])), (a1, .inl (G.2.1 0, 3, .inl (upd (fun _ => 0) 0 i1))), (a2, .inl (G.2.1 0, 3, .inl (upd (fun _ => 0) 0 0))), (a3, .inl (G.2.1 0, 36, .inl (upd (upd (upd (fun _ => 0) 0 (-1)) 2 (-1)) 4 (-1))))] := hD
    refine lv_iinc (v := 3) (lv' := [(5, .int 3), (4, .int 0), (0, .ref a0), (1, .int 0), (2, .int 0), (3, .int i1)]) hx hb dX7_newDrawer_92 hl (k := 0) rfl (by decide) (by decide) rfl (fun ls hl => ?_)
    refine lv_goto (tgt := 73) hx hb dX7_newDrawer_95 (by decide) ?_
    refine lv_iload hx hb dX7_newDrawer_73 (lv_at hl 0 rfl) ?_
    refine lv_bipush (v := 6) hx hb dX7_newDrawer_75 (by decide) ?_
    refine lv_icmp_ge (tgt := 98) hx hb dX7_newDrawer_77 (by decide) (fun h9 => absurd h9 (by decide)) (fun _ => ?_)
    refine lv_aload_n hx hb dX7_newDrawer_80 rfl (lv_at hl 2 rfl) ?_
    refine va_get (D := G.1) (ci := 6) (v := .ref a3) (C := RX7) (T := TX7) (N := 22) hx hb hts piX7 hown hK hP 0 rfl rfl 21 (by decide) (hts _ pm85) (fun _ h9 => h9) rfl dX7_newDrawer_81 ?_
    refine lv_iload_n hx hb dX7_newDrawer_84 rfl (lv_at hl 3 rfl) ?_
    refine lv_iload hx hb dX7_newDrawer_85 (lv_at hl 0 rfl) ?_
    refine pxCi (va_runS (As := [.int 0, .int 3]) (rest := [.ref a3]) ⟨hx, hb, hml, hown, hts⟩ (k255_X7_filedAt l G H.size) (va_cwS 2 hts (pxGS pm663 pm664 pm71 pm665) rfl rfl rfl (by decide +kernel) ⟨(Nat.le_of_ble_eq_true rfl), (Nat.le_of_ble_eq_true rfl)⟩) (pxS hG hZ hP hD hS hA [] rfl (by decide)) rfl rfl hl.1 rfl (lv_room (Nat.le_of_ble_eq_true rfl)) dX7_newDrawer_87 ⟨(Nat.le_of_ble_eq_true rfl), (Nat.le_of_ble_eq_true rfl)⟩) hP hD hS hA [] [0, 1, 2, 3] rfl rfl (by decide) (by decide) (fun r14 q13 H locs hw hP hD hS => ?_)
    have hw : r14 = 6 := hw
    subst hw
    have hP : va_P G.1 pxCl [(a0, .inr (6, [.ref a4, .ref a5, .ref a6, .int 0, .ref a7, .int 0, .int 0, .int 0, .int 0, .ref a8, .int 0, .ref a9, .int 0, .int 0, .int 0, .int (-1), .ref a10, .ref a11, .int 0, .ref a1, .ref a2, .ref a3])), (a1, .inl (G.2.1 0, 3, .inl (upd (fun _ => 0) 0 i1))), (a2, .inl (G.2.1 0, 3, .inl (upd (fun _ => 0) 0 0))), (a3, .inl (G.2.1 0, 36, .inl (upd (upd (upd (fun _ => 0) 0 (-1)) 2 (-1)) 4 (-1))))] H := hP
    have hD : va_D A [(a0, .inr (6, [.ref a4, .ref a5, .ref a6, .int 0, .ref a7, .int 0, .int 0, .int 0, .int 0, .ref a8, .int 0, .ref a9, .int 0, .int 0, .int 0, .int (-1), .ref a10, .ref a11, .int 0, .ref a1, .ref a2, .ref a3])), (a1, .inl (G.2.1 0, 3, .inl (upd (fun _ => 0) 0 i1))), (a2, .inl (G.2.1 0, 3, .inl (upd (fun _ => 0) 0 0))), (a3, .inl (G.2.1 0, 36, .inl (upd (upd (upd (fun _ => 0) 0 (-1)) 2 (-1)) 4 (-1))))] := hD
    refine lv_iconst (v := (-1)) hx hb dX7_newDrawer_90 (by decide) ?_
    refine va_iast hx hb hK hP hD hS 3 0 rfl rfl (show ¬ ((6 : Int32) < 0 ∨ 36 ≤ (6 : Int32).toNatClampNeg) by decide +kernel) dX7_newDrawer_91 (fun H locs hP hD hS => ?_)
    have hP : va_P G.1 pxCl [(a0, .inr (6, [.ref a4, .ref a5, .ref a6, .int 0, .ref a7, .int 0, .int 0, .int 0, .int 0, .ref a8, .int 0, .ref a9, .int 0, .int 0, .int 0, .int (-1), .ref a10, .ref a11, .int 0, .ref a1, .ref a2, .ref a3])), (a1, .inl (G.2.1 0, 3, .inl (upd (fun _ => 0) 0 i1))), (a2, .inl (G.2.1 0, 3, .inl (upd (fun _ => 0) 0 0))), (a3, .inl (G.2.1 0, 36, .inl (upd (upd (upd (upd (fun _ => 0) 0 (-1)) 2 (-1)) 4 (-1)) 6 (-1))))] H := hP
    have hD : va_D A [(a0, .inr (6, [.ref a4, .ref a5, .ref a6, .int 0, .ref a7, .int 0, .int 0, .int 0, .int 0, .ref a8, .int 0, .ref a9, .int 0, .int 0, .int 0, .int (-1), .ref a10, .ref a11, .int 0, .ref a1, .ref a2, .ref a3])), (a1, .inl (G.2.1 0, 3, .inl (upd (fun _ => 0) 0 i1))), (a2, .inl (G.2.1 0, 3, .inl (upd (fun _ => 0) 0 0))), (a3, .inl (G.2.1 0, 36, .inl (upd (upd (upd (upd (fun _ => 0) 0 (-1)) 2 (-1)) 4 (-1)) 6 (-1))))] := hD
    refine lv_iinc (v := 4) (lv' := [(5, .int 4), (4, .int 0), (0, .ref a0), (1, .int 0), (2, .int 0), (3, .int i1)]) hx hb dX7_newDrawer_92 hl (k := 0) rfl (by decide) (by decide) rfl (fun ls hl => ?_)
    refine lv_goto (tgt := 73) hx hb dX7_newDrawer_95 (by decide) ?_
    refine lv_iload hx hb dX7_newDrawer_73 (lv_at hl 0 rfl) ?_
    refine lv_bipush (v := 6) hx hb dX7_newDrawer_75 (by decide) ?_
    refine lv_icmp_ge (tgt := 98) hx hb dX7_newDrawer_77 (by decide) (fun h9 => absurd h9 (by decide)) (fun _ => ?_)
    refine lv_aload_n hx hb dX7_newDrawer_80 rfl (lv_at hl 2 rfl) ?_
    refine va_get (D := G.1) (ci := 6) (v := .ref a3) (C := RX7) (T := TX7) (N := 22) hx hb hts piX7 hown hK hP 0 rfl rfl 21 (by decide) (hts _ pm85) (fun _ h9 => h9) rfl dX7_newDrawer_81 ?_
    refine lv_iload_n hx hb dX7_newDrawer_84 rfl (lv_at hl 3 rfl) ?_
    refine lv_iload hx hb dX7_newDrawer_85 (lv_at hl 0 rfl) ?_
    refine pxCi (va_runS (As := [.int 0, .int 4]) (rest := [.ref a3]) ⟨hx, hb, hml, hown, hts⟩ (k256_X7_filedAt l G H.size) (va_cwS 2 hts (pxGS pm663 pm664 pm71 pm665) rfl rfl rfl (by decide +kernel) ⟨(Nat.le_of_ble_eq_true rfl), (Nat.le_of_ble_eq_true rfl)⟩) (pxS hG hZ hP hD hS hA [] rfl (by decide)) rfl rfl hl.1 rfl (lv_room (Nat.le_of_ble_eq_true rfl)) dX7_newDrawer_87 ⟨(Nat.le_of_ble_eq_true rfl), (Nat.le_of_ble_eq_true rfl)⟩) hP hD hS hA [] [0, 1, 2, 3] rfl rfl (by decide) (by decide) (fun r16 q15 H locs hw hP hD hS => ?_)
    have hw : r16 = 8 := hw
    subst hw
    have hP : va_P G.1 pxCl [(a0, .inr (6, [.ref a4, .ref a5, .ref a6, .int 0, .ref a7, .int 0, .int 0, .int 0, .int 0, .ref a8, .int 0, .ref a9, .int 0, .int 0, .int 0, .int (-1), .ref a10, .ref a11, .int 0, .ref a1, .ref a2, .ref a3])), (a1, .inl (G.2.1 0, 3, .inl (upd (fun _ => 0) 0 i1))), (a2, .inl (G.2.1 0, 3, .inl (upd (fun _ => 0) 0 0))), (a3, .inl (G.2.1 0, 36, .inl (upd (upd (upd (upd (fun _ => 0) 0 (-1)) 2 (-1)) 4 (-1)) 6 (-1))))] H := hP
    have hD : va_D A [(a0, .inr (6, [.ref a4, .ref a5, .ref a6, .int 0, .ref a7, .int 0, .int 0, .int 0, .int 0, .ref a8, .int 0, .ref a9, .int 0, .int 0, .int 0, .int (-1), .ref a10, .ref a11, .int 0, .ref a1, .ref a2, .ref a3])), (a1, .inl (G.2.1 0, 3, .inl (upd (fun _ => 0) 0 i1))), (a2, .inl (G.2.1 0, 3, .inl (upd (fun _ => 0) 0 0))), (a3, .inl (G.2.1 0, 36, .inl (upd (upd (upd (upd (fun _ => 0) 0 (-1)) 2 (-1)) 4 (-1)) 6 (-1))))] := hD
    refine lv_iconst (v := (-1)) hx hb dX7_newDrawer_90 (by decide) ?_
    refine va_iast hx hb hK hP hD hS 3 0 rfl rfl (show ¬ ((8 : Int32) < 0 ∨ 36 ≤ (8 : Int32).toNatClampNeg) by decide +kernel) dX7_newDrawer_91 (fun H locs hP hD hS => ?_)
    have hP : va_P G.1 pxCl [(a0, .inr (6, [.ref a4, .ref a5, .ref a6, .int 0, .ref a7, .int 0, .int 0, .int 0, .int 0, .ref a8, .int 0, .ref a9, .int 0, .int 0, .int 0, .int (-1), .ref a10, .ref a11, .int 0, .ref a1, .ref a2, .ref a3])), (a1, .inl (G.2.1 0, 3, .inl (upd (fun _ => 0) 0 i1))), (a2, .inl (G.2.1 0, 3, .inl (upd (fun _ => 0) 0 0))), (a3, .inl (G.2.1 0, 36, .inl (upd (upd (upd (upd (upd (fun _ => 0) 0 (-1)) 2 (-1)) 4 (-1)) 6 (-1)) 8 (-1))))] H := hP
    have hD : va_D A [(a0, .inr (6, [.ref a4, .ref a5, .ref a6, .int 0, .ref a7, .int 0, .int 0, .int 0, .int 0, .ref a8, .int 0, .ref a9, .int 0, .int 0, .int 0, .int (-1), .ref a10, .ref a11, .int 0, .ref a1, .ref a2, .ref a3])), (a1, .inl (G.2.1 0, 3, .inl (upd (fun _ => 0) 0 i1))), (a2, .inl (G.2.1 0, 3, .inl (upd (fun _ => 0) 0 0))), (a3, .inl (G.2.1 0, 36, .inl (upd (upd (upd (upd (upd (fun _ => 0) 0 (-1)) 2 (-1)) 4 (-1)) 6 (-1)) 8 (-1))))] := hD
    refine lv_iinc (v := 5) (lv' := [(5, .int 5), (4, .int 0), (0, .ref a0), (1, .int 0), (2, .int 0), (3, .int i1)]) hx hb dX7_newDrawer_92 hl (k := 0) rfl (by decide) (by decide) rfl (fun ls hl => ?_)
    refine lv_goto (tgt := 73) hx hb dX7_newDrawer_95 (by decide) ?_
    refine lv_iload hx hb dX7_newDrawer_73 (lv_at hl 0 rfl) ?_
    refine lv_bipush (v := 6) hx hb dX7_newDrawer_75 (by decide) ?_
    refine lv_icmp_ge (tgt := 98) hx hb dX7_newDrawer_77 (by decide) (fun h9 => absurd h9 (by decide)) (fun _ => ?_)
    refine lv_aload_n hx hb dX7_newDrawer_80 rfl (lv_at hl 2 rfl) ?_
    refine va_get (D := G.1) (ci := 6) (v := .ref a3) (C := RX7) (T := TX7) (N := 22) hx hb hts piX7 hown hK hP 0 rfl rfl 21 (by decide) (hts _ pm85) (fun _ h9 => h9) rfl dX7_newDrawer_81 ?_
    refine lv_iload_n hx hb dX7_newDrawer_84 rfl (lv_at hl 3 rfl) ?_
    refine lv_iload hx hb dX7_newDrawer_85 (lv_at hl 0 rfl) ?_
    refine pxCi (va_runS (As := [.int 0, .int 5]) (rest := [.ref a3]) ⟨hx, hb, hml, hown, hts⟩ (k257_X7_filedAt l G H.size) (va_cwS 2 hts (pxGS pm663 pm664 pm71 pm665) rfl rfl rfl (by decide +kernel) ⟨(Nat.le_of_ble_eq_true rfl), (Nat.le_of_ble_eq_true rfl)⟩) (pxS hG hZ hP hD hS hA [] rfl (by decide)) rfl rfl hl.1 rfl (lv_room (Nat.le_of_ble_eq_true rfl)) dX7_newDrawer_87 ⟨(Nat.le_of_ble_eq_true rfl), (Nat.le_of_ble_eq_true rfl)⟩) hP hD hS hA [] [0, 1, 2, 3] rfl rfl (by decide) (by decide) (fun r18 q17 H locs hw hP hD hS => ?_)
    have hw : r18 = 10 := hw
    subst hw
    have hP : va_P G.1 pxCl [(a0, .inr (6, [.ref a4, .ref a5, .ref a6, .int 0, .ref a7, .int 0, .int 0, .int 0, .int 0, .ref a8, .int 0, .ref a9, .int 0, .int 0, .int 0, .int (-1), .ref a10, .ref a11, .int 0, .ref a1, .ref a2, .ref a3])), (a1, .inl (G.2.1 0, 3, .inl (upd (fun _ => 0) 0 i1))), (a2, .inl (G.2.1 0, 3, .inl (upd (fun _ => 0) 0 0))), (a3, .inl (G.2.1 0, 36, .inl (upd (upd (upd (upd (upd (fun _ => 0) 0 (-1)) 2 (-1)) 4 (-1)) 6 (-1)) 8 (-1))))] H := hP
    have hD : va_D A [(a0, .inr (6, [.ref a4, .ref a5, .ref a6, .int 0, .ref a7, .int 0, .int 0, .int 0, .int 0, .ref a8, .int 0, .ref a9, .int 0, .int 0, .int 0, .int (-1), .ref a10, .ref a11, .int 0, .ref a1, .ref a2, .ref a3])), (a1, .inl (G.2.1 0, 3, .inl (upd (fun _ => 0) 0 i1))), (a2, .inl (G.2.1 0, 3, .inl (upd (fun _ => 0) 0 0))), (a3, .inl (G.2.1 0, 36, .inl (upd (upd (upd (upd (upd (fun _ => 0) 0 (-1)) 2 (-1)) 4 (-1)) 6 (-1)) 8 (-1))))] := hD
    refine lv_iconst (v := (-1)) hx hb dX7_newDrawer_90 (by decide) ?_
    refine va_iast hx hb hK hP hD hS 3 0 rfl rfl (show ¬ ((10 : Int32) < 0 ∨ 36 ≤ (10 : Int32).toNatClampNeg) by decide +kernel) dX7_newDrawer_91 (fun H locs hP hD hS => ?_)
    have hP : va_P G.1 pxCl [(a0, .inr (6, [.ref a4, .ref a5, .ref a6, .int 0, .ref a7, .int 0, .int 0, .int 0, .int 0, .ref a8, .int 0, .ref a9, .int 0, .int 0, .int 0, .int (-1), .ref a10, .ref a11, .int 0, .ref a1, .ref a2, .ref a3])), (a1, .inl (G.2.1 0, 3, .inl (upd (fun _ => 0) 0 i1))), (a2, .inl (G.2.1 0, 3, .inl (upd (fun _ => 0) 0 0))), (a3, .inl (G.2.1 0, 36, .inl (upd (upd (upd (upd (upd (upd (fun _ => 0) 0 (-1)) 2 (-1)) 4 (-1)) 6 (-1)) 8 (-1)) 10 (-1))))] H := hP
    have hD : va_D A [(a0, .inr (6, [.ref a4, .ref a5, .ref a6, .int 0, .ref a7, .int 0, .int 0, .int 0, .int 0, .ref a8, .int 0, .ref a9, .int 0, .int 0, .int 0, .int (-1), .ref a10, .ref a11, .int 0, .ref a1, .ref a2, .ref a3])), (a1, .inl (G.2.1 0, 3, .inl (upd (fun _ => 0) 0 i1))), (a2, .inl (G.2.1 0, 3, .inl (upd (fun _ => 0) 0 0))), (a3, .inl (G.2.1 0, 36, .inl (upd (upd (upd (upd (upd (upd (fun _ => 0) 0 (-1)) 2 (-1)) 4 (-1)) 6 (-1)) 8 (-1)) 10 (-1))))] := hD
    refine lv_iinc (v := 6) (lv' := [(5, .int 6), (4, .int 0), (0, .ref a0), (1, .int 0), (2, .int 0), (3, .int i1)]) hx hb dX7_newDrawer_92 hl (k := 0) rfl (by decide) (by decide) rfl (fun ls hl => ?_)
    refine lv_goto (tgt := 73) hx hb dX7_newDrawer_95 (by decide) ?_
    refine lv_iload hx hb dX7_newDrawer_73 (lv_at hl 0 rfl) ?_
    refine lv_bipush (v := 6) hx hb dX7_newDrawer_75 (by decide) ?_
    refine lv_icmp_ge (tgt := 98) hx hb dX7_newDrawer_77 (by decide) (fun _ => ?_) (fun h9 => absurd (by decide) h9)
    refine lv_iload hx hb dX7_newDrawer_98 (lv_at hl 1 rfl) ?_
    have hD : va_D A [(a0, .inr (6, [.ref a4, .ref a5, .ref a6, .int 0, .ref a7, .int 0, .int 0, .int 0, .int 0, .ref a8, .int 0, .ref a9, .int 0, .int 0, .int 0, .int (-1), .ref a10, .ref a11, .int 0, .ref a1, .ref a2, .ref a3]))] := hD.sub [0] (by decide) rfl
    have hP : va_P G.1 pxCl [(a0, .inr (6, [.ref a4, .ref a5, .ref a6, .int 0, .ref a7, .int 0, .int 0, .int 0, .int 0, .ref a8, .int 0, .ref a9, .int 0, .int 0, .int 0, .int (-1), .ref a10, .ref a11, .int 0, .ref a1, .ref a2, .ref a3]))] H := hP.sub [0] rfl
    refine W.widen (k := 0) (n := 0) (Nat.le_of_ble_eq_true rfl) (Nat.le_of_ble_eq_true rfl) ?_
    exact W.iret (v := 0) hx hb hr (fun t ht hW => ⟨⟨0, (fun _ => 0), rfl, rfl, by rw [ht]; exact hP, hD⟩, hS.F ht⟩) hS.2.2 dX7_newDrawer_100
  · skip
    rcases Int.lt_or_le i0.toInt 2 with f2 | f2
    · skip
      obtain rfl : i0 = 1 := pxEq 1 (by have h9 : (1 : Int32).toInt = 1 := (by decide); omega)
      refine va_iast hx hb hK hP hD hS 1 0 rfl rfl (show ¬ ((1 : Int32) < 0 ∨ 3 ≤ (1 : Int32).toNatClampNeg) by decide +kernel) dX7_newDrawer_62 (fun H locs hP hD hS => ?_)
      have hP : va_P G.1 pxCl [(a0, .inr (6, [.ref a4, .ref a5, .ref a6, .int 0, .ref a7, .int 0, .int 0, .int 0, .int 0, .ref a8, .int 0, .ref a9, .int 0, .int 0, .int 0, .int (-1), .ref a10, .ref a11, .int 0, .ref a1, .ref a2, .ref a3])), (a1, .inl (G.2.1 0, 3, .inl (upd (fun _ => 0) 1 i1))), (a2, .inl (G.2.1 0, 3, .inl (fun _ => 0))), (a3, .inl (G.2.1 0, 36, .inl (fun _ => 0)))] H := hP
      have hD : va_D A [(a0, .inr (6, [.ref a4, .ref a5, .ref a6, .int 0, .ref a7, .int 0, .int 0, .int 0, .int 0, .ref a8, .int 0, .ref a9, .int 0, .int 0, .int 0, .int (-1), .ref a10, .ref a11, .int 0, .ref a1, .ref a2, .ref a3])), (a1, .inl (G.2.1 0, 3, .inl (upd (fun _ => 0) 1 i1))), (a2, .inl (G.2.1 0, 3, .inl (fun _ => 0))), (a3, .inl (G.2.1 0, 36, .inl (fun _ => 0)))] := hD
      refine lv_aload_n hx hb dX7_newDrawer_63 rfl (lv_at hl 1 rfl) ?_
      refine va_get (D := G.1) (ci := 6) (v := .ref a2) (C := RX7) (T := TX7) (N := 22) hx hb hts piX7 hown hK hP 0 rfl rfl 20 (by decide) (hts _ pm84) (fun _ h9 => h9) rfl dX7_newDrawer_64 ?_
      refine lv_iload_n hx hb dX7_newDrawer_67 rfl (lv_at hl 2 rfl) ?_
      refine lv_iload_n hx hb dX7_newDrawer_68 rfl (lv_at hl 3 rfl) ?_
      refine va_iast hx hb hK hP hD hS 2 0 rfl rfl (show ¬ ((1 : Int32) < 0 ∨ 3 ≤ (1 : Int32).toNatClampNeg) by decide +kernel) dX7_newDrawer_69 (fun H locs hP hD hS => ?_)
      have hP : va_P G.1 pxCl [(a0, .inr (6, [.ref a4, .ref a5, .ref a6, .int 0, .ref a7, .int 0, .int 0, .int 0, .int 0, .ref a8, .int 0, .ref a9, .int 0, .int 0, .int 0, .int (-1), .ref a10, .ref a11, .int 0, .ref a1, .ref a2, .ref a3])), (a1, .inl (G.2.1 0, 3, .inl (upd (fun _ => 0) 1 i1))), (a2, .inl (G.2.1 0, 3, .inl (upd (fun _ => 0) 1 0))), (a3, .inl (G.2.1 0, 36, .inl (fun _ => 0)))] H := hP
      have hD : va_D A [(a0, .inr (6, [.ref a4, .ref a5, .ref a6, .int 0, .ref a7, .int 0, .int 0, .int 0, .int 0, .ref a8, .int 0, .ref a9, .int 0, .int 0, .int 0, .int (-1), .ref a10, .ref a11, .int 0, .ref a1, .ref a2, .ref a3])), (a1, .inl (G.2.1 0, 3, .inl (upd (fun _ => 0) 1 i1))), (a2, .inl (G.2.1 0, 3, .inl (upd (fun _ => 0) 1 0))), (a3, .inl (G.2.1 0, 36, .inl (fun _ => 0)))] := hD
      refine lv_iconst (v := 0) hx hb dX7_newDrawer_70 (by decide) ?_
      refine lv_istore (lv' := [(5, .int 0), (4, .int 0), (0, .ref a0), (1, .int 1), (2, .int 0), (3, .int i1)]) hx hb dX7_newDrawer_71 hl (by decide) rfl (fun ls hl => ?_)
      refine lv_iload hx hb dX7_newDrawer_73 (lv_at hl 0 rfl) ?_
      refine lv_bipush (v := 6) hx hb dX7_newDrawer_75 (by decide) ?_
      refine lv_icmp_ge (tgt := 98) hx hb dX7_newDrawer_77 (by decide) (fun h9 => absurd h9 (by decide)) (fun _ => ?_)
      refine lv_aload_n hx hb dX7_newDrawer_80 rfl (lv_at hl 2 rfl) ?_
      refine va_get (D := G.1) (ci := 6) (v := .ref a3) (C := RX7) (T := TX7) (N := 22) hx hb hts piX7 hown hK hP 0 rfl rfl 21 (by decide) (hts _ pm85) (fun _ h9 => h9) rfl dX7_newDrawer_81 ?_
      refine lv_iload_n hx hb dX7_newDrawer_84 rfl (lv_at hl 3 rfl) ?_
      refine lv_iload hx hb dX7_newDrawer_85 (lv_at hl 0 rfl) ?_
      refine pxCi (va_runS (As := [.int 1, .int 0]) (rest := [.ref a3]) ⟨hx, hb, hml, hown, hts⟩ (k258_X7_filedAt l G H.size) (va_cwS 2 hts (pxGS pm663 pm664 pm71 pm665) rfl rfl rfl (by decide +kernel) ⟨(Nat.le_of_ble_eq_true rfl), (Nat.le_of_ble_eq_true rfl)⟩) (pxS hG hZ hP hD hS hA [] rfl (by decide)) rfl rfl hl.1 rfl (lv_room (Nat.le_of_ble_eq_true rfl)) dX7_newDrawer_87 ⟨(Nat.le_of_ble_eq_true rfl), (Nat.le_of_ble_eq_true rfl)⟩) hP hD hS hA [] [0, 1, 2, 3] rfl rfl (by decide) (by decide) (fun r8 q7 H locs hw hP hD hS => ?_)
      have hw : r8 = 12 := hw
      subst hw
      have hP : va_P G.1 pxCl [(a0, .inr (6, [.ref a4, .ref a5, .ref a6, .int 0, .ref a7, .int 0, .int 0, .int 0, .int 0, .ref a8, .int 0, .ref a9, .int 0, .int 0, .int 0, .int (-1), .ref a10, .ref a11, .int 0, .ref a1, .ref a2, .ref a3])), (a1, .inl (G.2.1 0, 3, .inl (upd (fun _ => 0) 1 i1))), (a2, .inl (G.2.1 0, 3, .inl (upd (fun _ => 0) 1 0))), (a3, .inl (G.2.1 0, 36, .inl (fun _ => 0)))] H := hP
      have hD : va_D A [(a0, .inr (6, [.ref a4, .ref a5, .ref a6, .int 0, .ref a7, .int 0, .int 0, .int 0, .int 0, .ref a8, .int 0, .ref a9, .int 0, .int 0, .int 0, .int (-1), .ref a10, .ref a11, .int 0, .ref a1, .ref a2, .ref a3])), (a1, .inl (G.2.1 0, 3, .inl (upd (fun _ => 0) 1 i1))), (a2, .inl (G.2.1 0, 3, .inl (upd (fun _ => 0) 1 0))), (a3, .inl (G.2.1 0, 36, .inl (fun _ => 0)))] := hD
      refine lv_iconst (v := (-1)) hx hb dX7_newDrawer_90 (by decide) ?_
      refine va_iast hx hb hK hP hD hS 3 0 rfl rfl (show ¬ ((12 : Int32) < 0 ∨ 36 ≤ (12 : Int32).toNatClampNeg) by decide +kernel) dX7_newDrawer_91 (fun H locs hP hD hS => ?_)
      have hP : va_P G.1 pxCl [(a0, .inr (6, [.ref a4, .ref a5, .ref a6, .int 0, .ref a7, .int 0, .int 0, .int 0, .int 0, .ref a8, .int 0, .ref a9, .int 0, .int 0, .int 0, .int (-1), .ref a10, .ref a11, .int 0, .ref a1, .ref a2, .ref a3])), (a1, .inl (G.2.1 0, 3, .inl (upd (fun _ => 0) 1 i1))), (a2, .inl (G.2.1 0, 3, .inl (upd (fun _ => 0) 1 0))), (a3, .inl (G.2.1 0, 36, .inl (upd (fun _ => 0) 12 (-1))))] H := hP
      have hD : va_D A [(a0, .inr (6, [.ref a4, .ref a5, .ref a6, .int 0, .ref a7, .int 0, .int 0, .int 0, .int 0, .ref a8, .int 0, .ref a9, .int 0, .int 0, .int 0, .int (-1), .ref a10, .ref a11, .int 0, .ref a1, .ref a2, .ref a3])), (a1, .inl (G.2.1 0, 3, .inl (upd (fun _ => 0) 1 i1))), (a2, .inl (G.2.1 0, 3, .inl (upd (fun _ => 0) 1 0))), (a3, .inl (G.2.1 0, 36, .inl (upd (fun _ => 0) 12 (-1))))] := hD
      refine lv_iinc (v := 1) (lv' := [(5, .int 1), (4, .int 0), (0, .ref a0), (1, .int 1), (2, .int 0), (3, .int i1)]) hx hb dX7_newDrawer_92 hl (k := 0) rfl (by decide) (by decide) rfl (fun ls hl => ?_)
      refine lv_goto (tgt := 73) hx hb dX7_newDrawer_95 (by decide) ?_
      refine lv_iload hx hb dX7_newDrawer_73 (lv_at hl 0 rfl) ?_
      refine lv_bipush (v := 6) hx hb dX7_newDrawer_75 (by decide) ?_
      refine lv_icmp_ge (tgt := 98) hx hb dX7_newDrawer_77 (by decide) (fun h9 => absurd h9 (by decide)) (fun _ => ?_)
      refine lv_aload_n hx hb dX7_newDrawer_80 rfl (lv_at hl 2 rfl) ?_
      refine va_get (D := G.1) (ci := 6) (v := .ref a3) (C := RX7) (T := TX7) (N := 22) hx hb hts piX7 hown hK hP 0 rfl rfl 21 (by decide) (hts _ pm85) (fun _ h9 => h9) rfl dX7_newDrawer_81 ?_
      refine lv_iload_n hx hb dX7_newDrawer_84 rfl (lv_at hl 3 rfl) ?_
      refine lv_iload hx hb dX7_newDrawer_85 (lv_at hl 0 rfl) ?_
      refine pxCi (va_runS (As := [.int 1, .int 1]) (rest := [.ref a3]) ⟨hx, hb, hml, hown, hts⟩ (k259_X7_filedAt l G H.size) (va_cwS 2 hts (pxGS pm663 pm664 pm71 pm665) rfl rfl rfl (by decide +kernel) ⟨(Nat.le_of_ble_eq_true rfl), (Nat.le_of_ble_eq_true rfl)⟩) (pxS hG hZ hP hD hS hA [] rfl (by decide)) rfl rfl hl.1 rfl (lv_room (Nat.le_of_ble_eq_true rfl)) dX7_newDrawer_87 ⟨(Nat.le_of_ble_eq_true rfl), (Nat.le_of_ble_eq_true rfl)⟩) hP hD hS hA [] [0, 1, 2, 3] rfl rfl (by decide) (by decide) (fun r10 q9 H locs hw hP hD hS => ?_)
      have hw : r10 = 14 := hw
      subst hw
      have hP : va_P G.1 pxCl [(a0, .inr (6, [.ref a4, .ref a5, .ref a6, .int 0, .ref a7, .int 0, .int 0, .int 0, .int 0, .ref a8, .int 0, .ref a9, .int 0, .int 0, .int 0, .int (-1), .ref a10, .ref a11, .int 0, .ref a1, .ref a2, .ref a3])), (a1, .inl (G.2.1 0, 3, .inl (upd (fun _ => 0) 1 i1))), (a2, .inl (G.2.1 0, 3, .inl (upd (fun _ => 0) 1 0))), (a3, .inl (G.2.1 0, 36, .inl (upd (fun _ => 0) 12 (-1))))] H := hP
      have hD : va_D A [(a0, .inr (6, [.ref a4, .ref a5, .ref a6, .int 0, .ref a7, .int 0, .int 0, .int 0, .int 0, .ref a8, .int 0, .ref a9, .int 0, .int 0, .int 0, .int (-1), .ref a10, .ref a11, .int 0, .ref a1, .ref a2, .ref a3])), (a1, .inl (G.2.1 0, 3, .inl (upd (fun _ => 0) 1 i1))), (a2, .inl (G.2.1 0, 3, .inl (upd (fun _ => 0) 1 0))), (a3, .inl (G.2.1 0, 36, .inl (upd (fun _ => 0) 12 (-1))))] := hD
      refine lv_iconst (v := (-1)) hx hb dX7_newDrawer_90 (by decide) ?_
      refine va_iast hx hb hK hP hD hS 3 0 rfl rfl (show ¬ ((14 : Int32) < 0 ∨ 36 ≤ (14 : Int32).toNatClampNeg) by decide +kernel) dX7_newDrawer_91 (fun H locs hP hD hS => ?_)
      have hP : va_P G.1 pxCl [(a0, .inr (6, [.ref a4, .ref a5, .ref a6, .int 0, .ref a7, .int 0, .int 0, .int 0, .int 0, .ref a8, .int 0, .ref a9, .int 0, .int 0, .int 0, .int (-1), .ref a10, .ref a11, .int 0, .ref a1, .ref a2, .ref a3])), (a1, .inl (G.2.1 0, 3, .inl (upd (fun _ => 0) 1 i1))), (a2, .inl (G.2.1 0, 3, .inl (upd (fun _ => 0) 1 0))), (a3, .inl (G.2.1 0, 36, .inl (upd (upd (fun _ => 0) 12 (-1)) 14 (-1))))] H := hP
      have hD : va_D A [(a0, .inr (6, [.ref a4, .ref a5, .ref a6, .int 0, .ref a7, .int 0, .int 0, .int 0, .int 0, .ref a8, .int 0, .ref a9, .int 0, .int 0, .int 0, .int (-1), .ref a10, .ref a11, .int 0, .ref a1, .ref a2, .ref a3])), (a1, .inl (G.2.1 0, 3, .inl (upd (fun _ => 0) 1 i1))), (a2, .inl (G.2.1 0, 3, .inl (upd (fun _ => 0) 1 0))), (a3, .inl (G.2.1 0, 36, .inl (upd (upd (fun _ => 0) 12 (-1)) 14 (-1))))] := hD
      refine lv_iinc (v := 2) (lv' := [(5, .int 2), (4, .int 0), (0, .ref a0), (1, .int 1), (2, .int 0), (3, .int i1)]) hx hb dX7_newDrawer_92 hl (k := 0) rfl (by decide) (by decide) rfl (fun ls hl => ?_)
      refine lv_goto (tgt := 73) hx hb dX7_newDrawer_95 (by decide) ?_
      refine lv_iload hx hb dX7_newDrawer_73 (lv_at hl 0 rfl) ?_
      refine lv_bipush (v := 6) hx hb dX7_newDrawer_75 (by decide) ?_
      refine lv_icmp_ge (tgt := 98) hx hb dX7_newDrawer_77 (by decide) (fun h9 => absurd h9 (by decide)) (fun _ => ?_)
      refine lv_aload_n hx hb dX7_newDrawer_80 rfl (lv_at hl 2 rfl) ?_
      refine va_get (D := G.1) (ci := 6) (v := .ref a3) (C := RX7) (T := TX7) (N := 22) hx hb hts piX7 hown hK hP 0 rfl rfl 21 (by decide) (hts _ pm85) (fun _ h9 => h9) rfl dX7_newDrawer_81 ?_
      refine lv_iload_n hx hb dX7_newDrawer_84 rfl (lv_at hl 3 rfl) ?_
      refine lv_iload hx hb dX7_newDrawer_85 (lv_at hl 0 rfl) ?_
      refine pxCi (va_runS (As := [.int 1, .int 2]) (rest := [.ref a3]) ⟨hx, hb, hml, hown, hts⟩ (k260_X7_filedAt l G H.size) (va_cwS 2 hts (pxGS pm663 pm664 pm71 pm665) rfl rfl rfl (by decide +kernel) ⟨(Nat.le_of_ble_eq_true rfl), (Nat.le_of_ble_eq_true rfl)⟩) (pxS hG hZ hP hD hS hA [] rfl (by decide)) rfl rfl hl.1 rfl (lv_room (Nat.le_of_ble_eq_true rfl)) dX7_newDrawer_87 ⟨(Nat.le_of_ble_eq_true rfl), (Nat.le_of_ble_eq_true rfl)⟩) hP hD hS hA [] [0, 1, 2, 3] rfl rfl (by decide) (by decide) (fun r12 q11 H locs hw hP hD hS => ?_)
      have hw : r12 = 16 := hw
      subst hw
      have hP : va_P G.1 pxCl [(a0, .inr (6, [.ref a4, .ref a5, .ref a6, .int 0, .ref a7, .int 0, .int 0, .int 0, .int 0, .ref a8, .int 0, .ref a9, .int 0, .int 0, .int 0, .int (-1), .ref a10, .ref a11, .int 0, .ref a1, .ref a2, .ref a3])), (a1, .inl (G.2.1 0, 3, .inl (upd (fun _ => 0) 1 i1))), (a2, .inl (G.2.1 0, 3, .inl (upd (fun _ => 0) 1 0))), (a3, .inl (G.2.1 0, 36, .inl (upd (upd (fun _ => 0) 12 (-1)) 14 (-1))))] H := hP
      have hD : va_D A [(a0, .inr (6, [.ref a4, .ref a5, .ref a6, .int 0, .ref a7, .int 0, .int 0, .int 0, .int 0, .ref a8, .int 0, .ref a9, .int 0, .int 0, .int 0, .int (-1), .ref a10, .ref a11, .int 0, .ref a1, .ref a2, .ref a3])), (a1, .inl (G.2.1 0, 3, .inl (upd (fun _ => 0) 1 i1))), (a2, .inl (G.2.1 0, 3, .inl (upd (fun _ => 0) 1 0))), (a3, .inl (G.2.1 0, 36, .inl (upd (upd (fun _ => 0) 12 (-1)) 14 (-1))))] := hD
      refine lv_iconst (v := (-1)) hx hb dX7_newDrawer_90 (by decide) ?_
      refine va_iast hx hb hK hP hD hS 3 0 rfl rfl (show ¬ ((16 : Int32) < 0 ∨ 36 ≤ (16 : Int32).toNatClampNeg) by decide +kernel) dX7_newDrawer_91 (fun H locs hP hD hS => ?_)
      have hP : va_P G.1 pxCl [(a0, .inr (6, [.ref a4, .ref a5, .ref a6, .int 0, .ref a7, .int 0, .int 0, .int 0, .int 0, .ref a8, .int 0, .ref a9, .int 0, .int 0, .int 0, .int (-1), .ref a10, .ref a11, .int 0, .ref a1, .ref a2, .ref a3])), (a1, .inl (G.2.1 0, 3, .inl (upd (fun _ => 0) 1 i1))), (a2, .inl (G.2.1 0, 3, .inl (upd (fun _ => 0) 1 0))), (a3, .inl (G.2.1 0, 36, .inl (upd (upd (upd (fun _ => 0) 12 (-1)) 14 (-1)) 16 (-1))))] H := hP
      have hD : va_D A [(a0, .inr (6, [.ref a4, .ref a5, .ref a6, .int 0, .ref a7, .int 0, .int 0, .int 0, .int 0, .ref a8, .int 0, .ref a9, .int 0, .int 0, .int 0, .int (-1), .ref a10, .ref a11, .int 0, .ref a1, .ref a2, .ref a3])), (a1, .inl (G.2.1 0, 3, .inl (upd (fun _ => 0) 1 i1))), (a2, .inl (G.2.1 0, 3, .inl (upd (fun _ => 0) 1 0))), (a3, .inl (G.2.1 0, 36, .inl (upd (upd (upd (fun _ => 0) 12 (-1)) 14 (-1)) 16 (-1))))] := hD
      refine lv_iinc (v := 3) (lv' := [(5, .int 3), (4, .int 0), (0, .ref a0), (1, .int 1), (2, .int 0), (3, .int i1)]) hx hb dX7_newDrawer_92 hl (k := 0) rfl (by decide) (by decide) rfl (fun ls hl => ?_)
      refine lv_goto (tgt := 73) hx hb dX7_newDrawer_95 (by decide) ?_
      refine lv_iload hx hb dX7_newDrawer_73 (lv_at hl 0 rfl) ?_
      refine lv_bipush (v := 6) hx hb dX7_newDrawer_75 (by decide) ?_
      refine lv_icmp_ge (tgt := 98) hx hb dX7_newDrawer_77 (by decide) (fun h9 => absurd h9 (by decide)) (fun _ => ?_)
      refine lv_aload_n hx hb dX7_newDrawer_80 rfl (lv_at hl 2 rfl) ?_
      refine va_get (D := G.1) (ci := 6) (v := .ref a3) (C := RX7) (T := TX7) (N := 22) hx hb hts piX7 hown hK hP 0 rfl rfl 21 (by decide) (hts _ pm85) (fun _ h9 => h9) rfl dX7_newDrawer_81 ?_
      refine lv_iload_n hx hb dX7_newDrawer_84 rfl (lv_at hl 3 rfl) ?_
      refine lv_iload hx hb dX7_newDrawer_85 (lv_at hl 0 rfl) ?_
      refine pxCi (va_runS (As := [.int 1, .int 3]) (rest := [.ref a3]) ⟨hx, hb, hml, hown, hts⟩ (k261_X7_filedAt l G H.size) (va_cwS 2 hts (pxGS pm663 pm664 pm71 pm665) rfl rfl rfl (by decide +kernel) ⟨(Nat.le_of_ble_eq_true rfl), (Nat.le_of_ble_eq_true rfl)⟩) (pxS hG hZ hP hD hS hA [] rfl (by decide)) rfl rfl hl.1 rfl (lv_room (Nat.le_of_ble_eq_true rfl)) dX7_newDrawer_87 ⟨(Nat.le_of_ble_eq_true rfl), (Nat.le_of_ble_eq_true rfl)⟩) hP hD hS hA [] [0, 1, 2, 3] rfl rfl (by decide) (by decide) (fun r14 q13 H locs hw hP hD hS => ?_)
      have hw : r14 = 18 := hw
      subst hw
      have hP : va_P G.1 pxCl [(a0, .inr (6, [.ref a4, .ref a5, .ref a6, .int 0, .ref a7, .int 0, .int 0, .int 0, .int 0, .ref a8, .int 0, .ref a9, .int 0, .int 0, .int 0, .int (-1), .ref a10, .ref a11, .int 0, .ref a1, .ref a2, .ref a3])), (a1, .inl (G.2.1 0, 3, .inl (upd (fun _ => 0) 1 i1))), (a2, .inl (G.2.1 0, 3, .inl (upd (fun _ => 0) 1 0))), (a3, .inl (G.2.1 0, 36, .inl (upd (upd (upd (fun _ => 0) 12 (-1)) 14 (-1)) 16 (-1))))] H := hP
      have hD : va_D A [(a0, .inr (6, [.ref a4, .ref a5, .ref a6, .int 0, .ref a7, .int 0, .int 0, .int 0, .int 0, .ref a8, .int 0, .ref a9, .int 0, .int 0, .int 0, .int (-1), .ref a10, .ref a11, .int 0, .ref a1, .ref a2, .ref a3])), (a1, .inl (G.2.1 0, 3, .inl (upd (fun _ => 0) 1 i1))), (a2, .inl (G.2.1 0, 3, .inl (upd (fun _ => 0) 1 0))), (a3, .inl (G.2.1 0, 36, .inl (upd (upd (upd (fun _ => 0) 12 (-1)) 14 (-1)) 16 (-1))))] := hD
      refine lv_iconst (v := (-1)) hx hb dX7_newDrawer_90 (by decide) ?_
      refine va_iast hx hb hK hP hD hS 3 0 rfl rfl (show ¬ ((18 : Int32) < 0 ∨ 36 ≤ (18 : Int32).toNatClampNeg) by decide +kernel) dX7_newDrawer_91 (fun H locs hP hD hS => ?_)
      have hP : va_P G.1 pxCl [(a0, .inr (6, [.ref a4, .ref a5, .ref a6, .int 0, .ref a7, .int 0, .int 0, .int 0, .int 0, .ref a8, .int 0, .ref a9, .int 0, .int 0, .int 0, .int (-1), .ref a10, .ref a11, .int 0, .ref a1, .ref a2, .ref a3])), (a1, .inl (G.2.1 0, 3, .inl (upd (fun _ => 0) 1 i1))), (a2, .inl (G.2.1 0, 3, .inl (upd (fun _ => 0) 1 0))), (a3, .inl (G.2.1 0, 36, .inl (upd (upd (upd (upd (fun _ => 0) 12 (-1)) 14 (-1)) 16 (-1)) 18 (-1))))] H := hP
      have hD : va_D A [(a0, .inr (6, [.ref a4, .ref a5, .ref a6, .int 0, .ref a7, .int 0, .int 0, .int 0, .int 0, .ref a8, .int 0, .ref a9, .int 0, .int 0, .int 0, .int (-1), .ref a10, .ref a11, .int 0, .ref a1, .ref a2, .ref a3])), (a1, .inl (G.2.1 0, 3, .inl (upd (fun _ => 0) 1 i1))), (a2, .inl (G.2.1 0, 3, .inl (upd (fun _ => 0) 1 0))), (a3, .inl (G.2.1 0, 36, .inl (upd (upd (upd (upd (fun _ => 0) 12 (-1)) 14 (-1)) 16 (-1)) 18 (-1))))] := hD
      refine lv_iinc (v := 4) (lv' := [(5, .int 4), (4, .int 0), (0, .ref a0), (1, .int 1), (2, .int 0), (3, .int i1)]) hx hb dX7_newDrawer_92 hl (k := 0) rfl (by decide) (by decide) rfl (fun ls hl => ?_)
      refine lv_goto (tgt := 73) hx hb dX7_newDrawer_95 (by decide) ?_
      refine lv_iload hx hb dX7_newDrawer_73 (lv_at hl 0 rfl) ?_
      refine lv_bipush (v := 6) hx hb dX7_newDrawer_75 (by decide) ?_
      refine lv_icmp_ge (tgt := 98) hx hb dX7_newDrawer_77 (by decide) (fun h9 => absurd h9 (by decide)) (fun _ => ?_)
      refine lv_aload_n hx hb dX7_newDrawer_80 rfl (lv_at hl 2 rfl) ?_
      refine va_get (D := G.1) (ci := 6) (v := .ref a3) (C := RX7) (T := TX7) (N := 22) hx hb hts piX7 hown hK hP 0 rfl rfl 21 (by decide) (hts _ pm85) (fun _ h9 => h9) rfl dX7_newDrawer_81 ?_
      refine lv_iload_n hx hb dX7_newDrawer_84 rfl (lv_at hl 3 rfl) ?_
      refine lv_iload hx hb dX7_newDrawer_85 (lv_at hl 0 rfl) ?_
      refine pxCi (va_runS (As := [.int 1, .int 4]) (rest := [.ref a3]) ⟨hx, hb, hml, hown, hts⟩ (k262_X7_filedAt l G H.size) (va_cwS 2 hts (pxGS pm663 pm664 pm71 pm665) rfl rfl rfl (by decide +kernel) ⟨(Nat.le_of_ble_eq_true rfl), (Nat.le_of_ble_eq_true rfl)⟩) (pxS hG hZ hP hD hS hA [] rfl (by decide)) rfl rfl hl.1 rfl (lv_room (Nat.le_of_ble_eq_true rfl)) dX7_newDrawer_87 ⟨(Nat.le_of_ble_eq_true rfl), (Nat.le_of_ble_eq_true rfl)⟩) hP hD hS hA [] [0, 1, 2, 3] rfl rfl (by decide) (by decide) (fun r16 q15 H locs hw hP hD hS => ?_)
      have hw : r16 = 20 := hw
      subst hw
      have hP : va_P G.1 pxCl [(a0, .inr (6, [.ref a4, .ref a5, .ref a6, .int 0, .ref a7, .int 0, .int 0, .int 0, .int 0, .ref a8, .int 0, .ref a9, .int 0, .int 0, .int 0, .int (-1), .ref a10, .ref a11, .int 0, .ref a1, .ref a2, .ref a3])), (a1, .inl (G.2.1 0, 3, .inl (upd (fun _ => 0) 1 i1))), (a2, .inl (G.2.1 0, 3, .inl (upd (fun _ => 0) 1 0))), (a3, .inl (G.2.1 0, 36, .inl (upd (upd (upd (upd (fun _ => 0) 12 (-1)) 14 (-1)) 16 (-1)) 18 (-1))))] H := hP
      have hD : va_D A [(a0, .inr (6, [.ref a4, .ref a5, .ref a6, .int 0, .ref a7, .int 0, .int 0, .int 0, .int 0, .ref a8, .int 0, .ref a9, .int 0, .int 0, .int 0, .int (-1), .ref a10, .ref a11, .int 0, .ref a1, .ref a2, .ref a3])), (a1, .inl (G.2.1 0, 3, .inl (upd (fun _ => 0) 1 i1))), (a2, .inl (G.2.1 0, 3, .inl (upd (fun _ => 0) 1 0))), (a3, .inl (G.2.1 0, 36, .inl (upd (upd (upd (upd (fun _ => 0) 12 (-1)) 14 (-1)) 16 (-1)) 18 (-1))))] := hD
      refine lv_iconst (v := (-1)) hx hb dX7_newDrawer_90 (by decide) ?_
      refine va_iast hx hb hK hP hD hS 3 0 rfl rfl (show ¬ ((20 : Int32) < 0 ∨ 36 ≤ (20 : Int32).toNatClampNeg) by decide +kernel) dX7_newDrawer_91 (fun H locs hP hD hS => ?_)
      have hP : va_P G.1 pxCl [(a0, .inr (6, [.ref a4, .ref a5, .ref a6, .int 0, .ref a7, .int 0, .int 0, .int 0, .int 0, .ref a8, .int 0, .ref a9, .int 0, .int 0, .int 0, .int (-1), .ref a10, .ref a11, .int 0, .ref a1, .ref a2, .ref a3])), (a1, .inl (G.2.1 0, 3, .inl (upd (fun _ => 0) 1 i1))), (a2, .inl (G.2.1 0, 3, .inl (upd (fun _ => 0) 1 0))), (a3, .inl (G.2.1 0, 36, .inl (upd (upd (upd (upd (upd (fun _ => 0) 12 (-1)) 14 (-1)) 16 (-1)) 18 (-1)) 20 (-1))))] H := hP
      have hD : va_D A [(a0, .inr (6, [.ref a4, .ref a5, .ref a6, .int 0, .ref a7, .int 0, .int 0, .int 0, .int 0, .ref a8, .int 0, .ref a9, .int 0, .int 0, .int 0, .int (-1), .ref a10, .ref a11, .int 0, .ref a1, .ref a2, .ref a3])), (a1, .inl (G.2.1 0, 3, .inl (upd (fun _ => 0) 1 i1))), (a2, .inl (G.2.1 0, 3, .inl (upd (fun _ => 0) 1 0))), (a3, .inl (G.2.1 0, 36, .inl (upd (upd (upd (upd (upd (fun _ => 0) 12 (-1)) 14 (-1)) 16 (-1)) 18 (-1)) 20 (-1))))] := hD
      refine lv_iinc (v := 5) (lv' := [(5, .int 5), (4, .int 0), (0, .ref a0), (1, .int 1), (2, .int 0), (3, .int i1)]) hx hb dX7_newDrawer_92 hl (k := 0) rfl (by decide) (by decide) rfl (fun ls hl => ?_)
      refine lv_goto (tgt := 73) hx hb dX7_newDrawer_95 (by decide) ?_
      refine lv_iload hx hb dX7_newDrawer_73 (lv_at hl 0 rfl) ?_
      refine lv_bipush (v := 6) hx hb dX7_newDrawer_75 (by decide) ?_
      refine lv_icmp_ge (tgt := 98) hx hb dX7_newDrawer_77 (by decide) (fun h9 => absurd h9 (by decide)) (fun _ => ?_)
      refine lv_aload_n hx hb dX7_newDrawer_80 rfl (lv_at hl 2 rfl) ?_
      refine va_get (D := G.1) (ci := 6) (v := .ref a3) (C := RX7) (T := TX7) (N := 22) hx hb hts piX7 hown hK hP 0 rfl rfl 21 (by decide) (hts _ pm85) (fun _ h9 => h9) rfl dX7_newDrawer_81 ?_
      refine lv_iload_n hx hb dX7_newDrawer_84 rfl (lv_at hl 3 rfl) ?_
      refine lv_iload hx hb dX7_newDrawer_85 (lv_at hl 0 rfl) ?_
      refine pxCi (va_runS (As := [.int 1, .int 5]) (rest := [.ref a3]) ⟨hx, hb, hml, hown, hts⟩ (k263_X7_filedAt l G H.size) (va_cwS 2 hts (pxGS pm663 pm664 pm71 pm665) rfl rfl rfl (by decide +kernel) ⟨(Nat.le_of_ble_eq_true rfl), (Nat.le_of_ble_eq_true rfl)⟩) (pxS hG hZ hP hD hS hA [] rfl (by decide)) rfl rfl hl.1 rfl (lv_room (Nat.le_of_ble_eq_true rfl)) dX7_newDrawer_87 ⟨(Nat.le_of_ble_eq_true rfl), (Nat.le_of_ble_eq_true rfl)⟩) hP hD hS hA [] [0, 1, 2, 3] rfl rfl (by decide) (by decide) (fun r18 q17 H locs hw hP hD hS => ?_)
      have hw : r18 = 22 := hw
      subst hw
      have hP : va_P G.1 pxCl [(a0, .inr (6, [.ref a4, .ref a5, .ref a6, .int 0, .ref a7, .int 0, .int 0, .int 0, .int 0, .ref a8, .int 0, .ref a9, .int 0, .int 0, .int 0, .int (-1), .ref a10, .ref a11, .int 0, .ref a1, .ref a2, .ref a3])), (a1, .inl (G.2.1 0, 3, .inl (upd (fun _ => 0) 1 i1))), (a2, .inl (G.2.1 0, 3, .inl (upd (fun _ => 0) 1 0))), (a3, .inl (G.2.1 0, 36, .inl (upd (upd (upd (upd (upd (fun _ => 0) 12 (-1)) 14 (-1)) 16 (-1)) 18 (-1)) 20 (-1))))] H := hP
      have hD : va_D A [(a0, .inr (6, [.ref a4, .ref a5, .ref a6, .int 0, .ref a7, .int 0, .int 0, .int 0, .int 0, .ref a8, .int 0, .ref a9, .int 0, .int 0, .int 0, .int (-1), .ref a10, .ref a11, .int 0, .ref a1, .ref a2, .ref a3])), (a1, .inl (G.2.1 0, 3, .inl (upd (fun _ => 0) 1 i1))), (a2, .inl (G.2.1 0, 3, .inl (upd (fun _ => 0) 1 0))), (a3, .inl (G.2.1 0, 36, .inl (upd (upd (upd (upd (upd (fun _ => 0) 12 (-1)) 14 (-1)) 16 (-1)) 18 (-1)) 20 (-1))))] := hD
      refine lv_iconst (v := (-1)) hx hb dX7_newDrawer_90 (by decide) ?_
      refine va_iast hx hb hK hP hD hS 3 0 rfl rfl (show ¬ ((22 : Int32) < 0 ∨ 36 ≤ (22 : Int32).toNatClampNeg) by decide +kernel) dX7_newDrawer_91 (fun H locs hP hD hS => ?_)
      have hP : va_P G.1 pxCl [(a0, .inr (6, [.ref a4, .ref a5, .ref a6, .int 0, .ref a7, .int 0, .int 0, .int 0, .int 0, .ref a8, .int 0, .ref a9, .int 0, .int 0, .int 0, .int (-1), .ref a10, .ref a11, .int 0, .ref a1, .ref a2, .ref a3])), (a1, .inl (G.2.1 0, 3, .inl (upd (fun _ => 0) 1 i1))), (a2, .inl (G.2.1 0, 3, .inl (upd (fun _ => 0) 1 0))), (a3, .inl (G.2.1 0, 36, .inl (upd (upd (upd (upd (upd (upd (fun _ => 0) 12 (-1)) 14 (-1)) 16 (-1)) 18 (-1)) 20 (-1)) 22 (-1))))] H := hP
      have hD : va_D A [(a0, .inr (6, [.ref a4, .ref a5, .ref a6, .int 0, .ref a7, .int 0, .int 0, .int 0, .int 0, .ref a8, .int 0, .ref a9, .int 0, .int 0, .int 0, .int (-1), .ref a10, .ref a11, .int 0, .ref a1, .ref a2, .ref a3])), (a1, .inl (G.2.1 0, 3, .inl (upd (fun _ => 0) 1 i1))), (a2, .inl (G.2.1 0, 3, .inl (upd (fun _ => 0) 1 0))), (a3, .inl (G.2.1 0, 36, .inl (upd (upd (upd (upd (upd (upd (fun _ => 0) 12 (-1)) 14 (-1)) 16 (-1)) 18 (-1)) 20 (-1)) 22 (-1))))] := hD
      refine lv_iinc (v := 6) (lv' := [(5, .int 6), (4, .int 0), (0, .ref a0), (1, .int 1), (2, .int 0), (3, .int i1)]) hx hb dX7_newDrawer_92 hl (k := 0) rfl (by decide) (by decide) rfl (fun ls hl => ?_)
      refine lv_goto (tgt := 73) hx hb dX7_newDrawer_95 (by decide) ?_
      refine lv_iload hx hb dX7_newDrawer_73 (lv_at hl 0 rfl) ?_
      refine lv_bipush (v := 6) hx hb dX7_newDrawer_75 (by decide) ?_
      refine lv_icmp_ge (tgt := 98) hx hb dX7_newDrawer_77 (by decide) (fun _ => ?_) (fun h9 => absurd (by decide) h9)
      refine lv_iload hx hb dX7_newDrawer_98 (lv_at hl 1 rfl) ?_
      have hD : va_D A [(a0, .inr (6, [.ref a4, .ref a5, .ref a6, .int 0, .ref a7, .int 0, .int 0, .int 0, .int 0, .ref a8, .int 0, .ref a9, .int 0, .int 0, .int 0, .int (-1), .ref a10, .ref a11, .int 0, .ref a1, .ref a2, .ref a3]))] := hD.sub [0] (by decide) rfl
      have hP : va_P G.1 pxCl [(a0, .inr (6, [.ref a4, .ref a5, .ref a6, .int 0, .ref a7, .int 0, .int 0, .int 0, .int 0, .ref a8, .int 0, .ref a9, .int 0, .int 0, .int 0, .int (-1), .ref a10, .ref a11, .int 0, .ref a1, .ref a2, .ref a3]))] H := hP.sub [0] rfl
      refine W.widen (k := 0) (n := 0) (Nat.le_of_ble_eq_true rfl) (Nat.le_of_ble_eq_true rfl) ?_
      exact W.iret (v := 0) hx hb hr (fun t ht hW => ⟨⟨0, (fun _ => 0), rfl, rfl, by rw [ht]; exact hP, hD⟩, hS.F ht⟩) hS.2.2 dX7_newDrawer_100
    · skip
      obtain rfl : i0 = 2 := pxEq 2 (by have h9 : (2 : Int32).toInt = 2 := (by decide); omega)
      refine va_iast hx hb hK hP hD hS 1 0 rfl rfl (show ¬ ((2 : Int32) < 0 ∨ 3 ≤ (2 : Int32).toNatClampNeg) by decide +kernel) dX7_newDrawer_62 (fun H locs hP hD hS => ?_)
      have hP : va_P G.1 pxCl [(a0, .inr (6, [.ref a4, .ref a5, .ref a6, .int 0, .ref a7, .int 0, .int 0, .int 0, .int 0, .ref a8, .int 0, .ref a9, .int 0, .int 0, .int 0, .int (-1), .ref a10, .ref a11, .int 0, .ref a1, .ref a2, .ref a3])), (a1, .inl (G.2.1 0, 3, .inl (upd (fun _ => 0) 2 i1))), (a2, .inl (G.2.1 0, 3, .inl (fun _ => 0))), (a3, .inl (G.2.1 0, 36, .inl (fun _ => 0)))] H := hP
      have hD : va_D A [(a0, .inr (6, [.ref a4, .ref a5, .ref a6, .int 0, .ref a7, .int 0, .int 0, .int 0, .int 0, .ref a8, .int 0, .ref a9, .int 0, .int 0, .int 0, .int (-1), .ref a10, .ref a11, .int 0, .ref a1, .ref a2, .ref a3])), (a1, .inl (G.2.1 0, 3, .inl (upd (fun _ => 0) 2 i1))), (a2, .inl (G.2.1 0, 3, .inl (fun _ => 0))), (a3, .inl (G.2.1 0, 36, .inl (fun _ => 0)))] := hD
      refine lv_aload_n hx hb dX7_newDrawer_63 rfl (lv_at hl 1 rfl) ?_
      refine va_get (D := G.1) (ci := 6) (v := .ref a2) (C := RX7) (T := TX7) (N := 22) hx hb hts piX7 hown hK hP 0 rfl rfl 20 (by decide) (hts _ pm84) (fun _ h9 => h9) rfl dX7_newDrawer_64 ?_
      refine lv_iload_n hx hb dX7_newDrawer_67 rfl (lv_at hl 2 rfl) ?_
      refine lv_iload_n hx hb dX7_newDrawer_68 rfl (lv_at hl 3 rfl) ?_
      refine va_iast hx hb hK hP hD hS 2 0 rfl rfl (show ¬ ((2 : Int32) < 0 ∨ 3 ≤ (2 : Int32).toNatClampNeg) by decide +kernel) dX7_newDrawer_69 (fun H locs hP hD hS => ?_)
      have hP : va_P G.1 pxCl [(a0, .inr (6, [.ref a4, .ref a5, .ref a6, .int 0, .ref a7, .int 0, .int 0, .int 0, .int 0, .ref a8, .int 0, .ref a9, .int 0, .int 0, .int 0, .int (-1), .ref a10, .ref a11, .int 0, .ref a1, .ref a2, .ref a3])), (a1, .inl (G.2.1 0, 3, .inl (upd (fun _ => 0) 2 i1))), (a2, .inl (G.2.1 0, 3, .inl (upd (fun _ => 0) 2 0))), (a3, .inl (G.2.1 0, 36, .inl (fun _ => 0)))] H := hP
      have hD : va_D A [(a0, .inr (6, [.ref a4, .ref a5, .ref a6, .int 0, .ref a7, .int 0, .int 0, .int 0, .int 0, .ref a8, .int 0, .ref a9, .int 0, .int 0, .int 0, .int (-1), .ref a10, .ref a11, .int 0, .ref a1, .ref a2, .ref a3])), (a1, .inl (G.2.1 0, 3, .inl (upd (fun _ => 0) 2 i1))), (a2, .inl (G.2.1 0, 3, .inl (upd (fun _ => 0) 2 0))), (a3, .inl (G.2.1 0, 36, .inl (fun _ => 0)))] := hD
      refine lv_iconst (v := 0) hx hb dX7_newDrawer_70 (by decide) ?_
      refine lv_istore (lv' := [(5, .int 0), (4, .int 0), (0, .ref a0), (1, .int 2), (2, .int 0), (3, .int i1)]) hx hb dX7_newDrawer_71 hl (by decide) rfl (fun ls hl => ?_)
      refine lv_iload hx hb dX7_newDrawer_73 (lv_at hl 0 rfl) ?_
      refine lv_bipush (v := 6) hx hb dX7_newDrawer_75 (by decide) ?_
      refine lv_icmp_ge (tgt := 98) hx hb dX7_newDrawer_77 (by decide) (fun h9 => absurd h9 (by decide)) (fun _ => ?_)
      refine lv_aload_n hx hb dX7_newDrawer_80 rfl (lv_at hl 2 rfl) ?_
      refine va_get (D := G.1) (ci := 6) (v := .ref a3) (C := RX7) (T := TX7) (N := 22) hx hb hts piX7 hown hK hP 0 rfl rfl 21 (by decide) (hts _ pm85) (fun _ h9 => h9) rfl dX7_newDrawer_81 ?_
      refine lv_iload_n hx hb dX7_newDrawer_84 rfl (lv_at hl 3 rfl) ?_
      refine lv_iload hx hb dX7_newDrawer_85 (lv_at hl 0 rfl) ?_
      refine pxCi (va_runS (As := [.int 2, .int 0]) (rest := [.ref a3]) ⟨hx, hb, hml, hown, hts⟩ (k264_X7_filedAt l G H.size) (va_cwS 2 hts (pxGS pm663 pm664 pm71 pm665) rfl rfl rfl (by decide +kernel) ⟨(Nat.le_of_ble_eq_true rfl), (Nat.le_of_ble_eq_true rfl)⟩) (pxS hG hZ hP hD hS hA [] rfl (by decide)) rfl rfl hl.1 rfl (lv_room (Nat.le_of_ble_eq_true rfl)) dX7_newDrawer_87 ⟨(Nat.le_of_ble_eq_true rfl), (Nat.le_of_ble_eq_true rfl)⟩) hP hD hS hA [] [0, 1, 2, 3] rfl rfl (by decide) (by decide) (fun r8 q7 H locs hw hP hD hS => ?_)
      have hw : r8 = 24 := hw
      subst hw
      have hP : va_P G.1 pxCl [(a0, .inr (6, [.ref a4, .ref a5, .ref a6, .int 0, .ref a7, .int 0, .int 0, .int 0, .int 0, .ref a8, .int 0, .ref a9, .int 0, .int 0, .int 0, .int (-1), .ref a10, .ref a11, .int 0, .ref a1, .ref a2, .ref a3])), (a1, .inl (G.2.1 0, 3, .inl (upd (fun _ => 0) 2 i1))), (a2, .inl (G.2.1 0, 3, .inl (upd (fun _ => 0) 2 0))), (a3, .inl (G.2.1 0, 36, .inl (fun _ => 0)))] H := hP
      have hD : va_D A [(a0, .inr (6, [.ref a4, .ref a5, .ref a6, .int 0, .ref a7, .int 0, .int 0, .int 0, .int 0, .ref a8, .int 0, .ref a9, .int 0, .int 0, .int 0, .int (-1), .ref a10, .ref a11, .int 0, .ref a1, .ref a2, .ref a3])), (a1, .inl (G.2.1 0, 3, .inl (upd (fun _ => 0) 2 i1))), (a2, .inl (G.2.1 0, 3, .inl (upd (fun _ => 0) 2 0))), (a3, .inl (G.2.1 0, 36, .inl (fun _ => 0)))] := hD
      refine lv_iconst (v := (-1)) hx hb dX7_newDrawer_90 (by decide) ?_
      refine va_iast hx hb hK hP hD hS 3 0 rfl rfl (show ¬ ((24 : Int32) < 0 ∨ 36 ≤ (24 : Int32).toNatClampNeg) by decide +kernel) dX7_newDrawer_91 (fun H locs hP hD hS => ?_)
      have hP : va_P G.1 pxCl [(a0, .inr (6, [.ref a4, .ref a5, .ref a6, .int 0, .ref a7, .int 0, .int 0, .int 0, .int 0, .ref a8, .int 0, .ref a9, .int 0, .int 0, .int 0, .int (-1), .ref a10, .ref a11, .int 0, .ref a1, .ref a2, .ref a3])), (a1, .inl (G.2.1 0, 3, .inl (upd (fun _ => 0) 2 i1))), (a2, .inl (G.2.1 0, 3, .inl (upd (fun _ => 0) 2 0))), (a3, .inl (G.2.1 0, 36, .inl (upd (fun _ => 0) 24 (-1))))] H := hP
      have hD : va_D A [(a0, .inr (6, [.ref a4, .ref a5, .ref a6, .int 0, .ref a7, .int 0, .int 0, .int 0, .int 0, .ref a8, .int 0, .ref a9, .int 0, .int 0, .int 0, .int (-1), .ref a10, .ref a11, .int 0, .ref a1, .ref a2, .ref a3])), (a1, .inl (G.2.1 0, 3, .inl (upd (fun _ => 0) 2 i1))), (a2, .inl (G.2.1 0, 3, .inl (upd (fun _ => 0) 2 0))), (a3, .inl (G.2.1 0, 36, .inl (upd (fun _ => 0) 24 (-1))))] := hD
      refine lv_iinc (v := 1) (lv' := [(5, .int 1), (4, .int 0), (0, .ref a0), (1, .int 2), (2, .int 0), (3, .int i1)]) hx hb dX7_newDrawer_92 hl (k := 0) rfl (by decide) (by decide) rfl (fun ls hl => ?_)
      refine lv_goto (tgt := 73) hx hb dX7_newDrawer_95 (by decide) ?_
      refine lv_iload hx hb dX7_newDrawer_73 (lv_at hl 0 rfl) ?_
      refine lv_bipush (v := 6) hx hb dX7_newDrawer_75 (by decide) ?_
      refine lv_icmp_ge (tgt := 98) hx hb dX7_newDrawer_77 (by decide) (fun h9 => absurd h9 (by decide)) (fun _ => ?_)
      refine lv_aload_n hx hb dX7_newDrawer_80 rfl (lv_at hl 2 rfl) ?_
      refine va_get (D := G.1) (ci := 6) (v := .ref a3) (C := RX7) (T := TX7) (N := 22) hx hb hts piX7 hown hK hP 0 rfl rfl 21 (by decide) (hts _ pm85) (fun _ h9 => h9) rfl dX7_newDrawer_81 ?_
      refine lv_iload_n hx hb dX7_newDrawer_84 rfl (lv_at hl 3 rfl) ?_
      refine lv_iload hx hb dX7_newDrawer_85 (lv_at hl 0 rfl) ?_
      refine pxCi (va_runS (As := [.int 2, .int 1]) (rest := [.ref a3]) ⟨hx, hb, hml, hown, hts⟩ (k265_X7_filedAt l G H.size) (va_cwS 2 hts (pxGS pm663 pm664 pm71 pm665) rfl rfl rfl (by decide +kernel) ⟨(Nat.le_of_ble_eq_true rfl), (Nat.le_of_ble_eq_true rfl)⟩) (pxS hG hZ hP hD hS hA [] rfl (by decide)) rfl rfl hl.1 rfl (lv_room (Nat.le_of_ble_eq_true rfl)) dX7_newDrawer_87 ⟨(Nat.le_of_ble_eq_true rfl), (Nat.le_of_ble_eq_true rfl)⟩) hP hD hS hA [] [0, 1, 2, 3] rfl rfl (by decide) (by decide) (fun r10 q9 H locs hw hP hD hS => ?_)
      have hw : r10 = 26 := hw
      subst hw
      have hP : va_P G.1 pxCl [(a0, .inr (6, [.ref a4, .ref a5, .ref a6, .int 0, .ref a7, .int 0, .int 0, .int 0, .int 0, .ref a8, .int 0, .ref a9, .int 0, .int 0, .int 0, .int (-1), .ref a10, .ref a11, .int 0, .ref a1, .ref a2, .ref a3])), (a1, .inl (G.2.1 0, 3, .inl (upd (fun _ => 0) 2 i1))), (a2, .inl (G.2.1 0, 3, .inl (upd (fun _ => 0) 2 0))), (a3, .inl (G.2.1 0, 36, .inl (upd (fun _ => 0) 24 (-1))))] H := hP
      have hD : va_D A [(a0, .inr (6, [.ref a4, .ref a5, .ref a6, .int 0, .ref a7, .int 0, .int 0, .int 0, .int 0, .ref a8, .int 0, .ref a9, .int 0, .int 0, .int 0, .int (-1), .ref a10, .ref a11, .int 0, .ref a1, .ref a2, .ref a3])), (a1, .inl (G.2.1 0, 3, .inl (upd (fun _ => 0) 2 i1))), (a2, .inl (G.2.1 0, 3, .inl (upd (fun _ => 0) 2 0))), (a3, .inl (G.2.1 0, 36, .inl (upd (fun _ => 0) 24 (-1))))] := hD
      refine lv_iconst (v := (-1)) hx hb dX7_newDrawer_90 (by decide) ?_
      refine va_iast hx hb hK hP hD hS 3 0 rfl rfl (show ¬ ((26 : Int32) < 0 ∨ 36 ≤ (26 : Int32).toNatClampNeg) by decide +kernel) dX7_newDrawer_91 (fun H locs hP hD hS => ?_)
      have hP : va_P G.1 pxCl [(a0, .inr (6, [.ref a4, .ref a5, .ref a6, .int 0, .ref a7, .int 0, .int 0, .int 0, .int 0, .ref a8, .int 0, .ref a9, .int 0, .int 0, .int 0, .int (-1), .ref a10, .ref a11, .int 0, .ref a1, .ref a2, .ref a3])), (a1, .inl (G.2.1 0, 3, .inl (upd (fun _ => 0) 2 i1))), (a2, .inl (G.2.1 0, 3, .inl (upd (fun _ => 0) 2 0))), (a3, .inl (G.2.1 0, 36, .inl (upd (upd (fun _ => 0) 24 (-1)) 26 (-1))))] H := hP
      have hD : va_D A [(a0, .inr (6, [.ref a4, .ref a5, .ref a6, .int 0, .ref a7, .int 0, .int 0, .int 0, .int 0, .ref a8, .int 0, .ref a9, .int 0, .int 0, .int 0, .int (-1), .ref a10, .ref a11, .int 0, .ref a1, .ref a2, .ref a3])), (a1, .inl (G.2.1 0, 3, .inl (upd (fun _ => 0) 2 i1))), (a2, .inl (G.2.1 0, 3, .inl (upd (fun _ => 0) 2 0))), (a3, .inl (G.2.1 0, 36, .inl (upd (upd (fun _ => 0) 24 (-1)) 26 (-1))))] := hD
      refine lv_iinc (v := 2) (lv' := [(5, .int 2), (4, .int 0), (0, .ref a0), (1, .int 2), (2, .int 0), (3, .int i1)]) hx hb dX7_newDrawer_92 hl (k := 0) rfl (by decide) (by decide) rfl (fun ls hl => ?_)
      refine lv_goto (tgt := 73) hx hb dX7_newDrawer_95 (by decide) ?_
      refine lv_iload hx hb dX7_newDrawer_73 (lv_at hl 0 rfl) ?_
      refine lv_bipush (v := 6) hx hb dX7_newDrawer_75 (by decide) ?_
      refine lv_icmp_ge (tgt := 98) hx hb dX7_newDrawer_77 (by decide) (fun h9 => absurd h9 (by decide)) (fun _ => ?_)
      refine lv_aload_n hx hb dX7_newDrawer_80 rfl (lv_at hl 2 rfl) ?_
      refine va_get (D := G.1) (ci := 6) (v := .ref a3) (C := RX7) (T := TX7) (N := 22) hx hb hts piX7 hown hK hP 0 rfl rfl 21 (by decide) (hts _ pm85) (fun _ h9 => h9) rfl dX7_newDrawer_81 ?_
      refine lv_iload_n hx hb dX7_newDrawer_84 rfl (lv_at hl 3 rfl) ?_
      refine lv_iload hx hb dX7_newDrawer_85 (lv_at hl 0 rfl) ?_
      refine pxCi (va_runS (As := [.int 2, .int 2]) (rest := [.ref a3]) ⟨hx, hb, hml, hown, hts⟩ (k266_X7_filedAt l G H.size) (va_cwS 2 hts (pxGS pm663 pm664 pm71 pm665) rfl rfl rfl (by decide +kernel) ⟨(Nat.le_of_ble_eq_true rfl), (Nat.le_of_ble_eq_true rfl)⟩) (pxS hG hZ hP hD hS hA [] rfl (by decide)) rfl rfl hl.1 rfl (lv_room (Nat.le_of_ble_eq_true rfl)) dX7_newDrawer_87 ⟨(Nat.le_of_ble_eq_true rfl), (Nat.le_of_ble_eq_true rfl)⟩) hP hD hS hA [] [0, 1, 2, 3] rfl rfl (by decide) (by decide) (fun r12 q11 H locs hw hP hD hS => ?_)
      have hw : r12 = 28 := hw
      subst hw
      have hP : va_P G.1 pxCl [(a0, .inr (6, [.ref a4, .ref a5, .ref a6, .int 0, .ref a7, .int 0, .int 0, .int 0, .int 0, .ref a8, .int 0, .ref a9, .int 0, .int 0, .int 0, .int (-1), .ref a10, .ref a11, .int 0, .ref a1, .ref a2, .ref a3])), (a1, .inl (G.2.1 0, 3, .inl (upd (fun _ => 0) 2 i1))), (a2, .inl (G.2.1 0, 3, .inl (upd (fun _ => 0) 2 0))), (a3, .inl (G.2.1 0, 36, .inl (upd (upd (fun _ => 0) 24 (-1)) 26 (-1))))] H := hP
      have hD : va_D A [(a0, .inr (6, [.ref a4, .ref a5, .ref a6, .int 0, .ref a7, .int 0, .int 0, .int 0, .int 0, .ref a8, .int 0, .ref a9, .int 0, .int 0, .int 0, .int (-1), .ref a10, .ref a11, .int 0, .ref a1, .ref a2, .ref a3])), (a1, .inl (G.2.1 0, 3, .inl (upd (fun _ => 0) 2 i1))), (a2, .inl (G.2.1 0, 3, .inl (upd (fun _ => 0) 2 0))), (a3, .inl (G.2.1 0, 36, .inl (upd (upd (fun _ => 0) 24 (-1)) 26 (-1))))] := hD
      refine lv_iconst (v := (-1)) hx hb dX7_newDrawer_90 (by decide) ?_
      refine va_iast hx hb hK hP hD hS 3 0 rfl rfl (show ¬ ((28 : Int32) < 0 ∨ 36 ≤ (28 : Int32).toNatClampNeg) by decide +kernel) dX7_newDrawer_91 (fun H locs hP hD hS => ?_)
      have hP : va_P G.1 pxCl [(a0, .inr (6, [.ref a4, .ref a5, .ref a6, .int 0, .ref a7, .int 0, .int 0, .int 0, .int 0, .ref a8, .int 0, .ref a9, .int 0, .int 0, .int 0, .int (-1), .ref a10, .ref a11, .int 0, .ref a1, .ref a2, .ref a3])), (a1, .inl (G.2.1 0, 3, .inl (upd (fun _ => 0) 2 i1))), (a2, .inl (G.2.1 0, 3, .inl (upd (fun _ => 0) 2 0))), (a3, .inl (G.2.1 0, 36, .inl (upd (upd (upd (fun _ => 0) 24 (-1)) 26 (-1)) 28 (-1))))] H := hP
      have hD : va_D A [(a0, .inr (6, [.ref a4, .ref a5, .ref a6, .int 0, .ref a7, .int 0, .int 0, .int 0, .int 0, .ref a8, .int 0, .ref a9, .int 0, .int 0, .int 0, .int (-1), .ref a10, .ref a11, .int 0, .ref a1, .ref a2, .ref a3])), (a1, .inl (G.2.1 0, 3, .inl (upd (fun _ => 0) 2 i1))), (a2, .inl (G.2.1 0, 3, .inl (upd (fun _ => 0) 2 0))), (a3, .inl (G.2.1 0, 36, .inl (upd (upd (upd (fun _ => 0) 24 (-1)) 26 (-1)) 28 (-1))))] := hD
      refine lv_iinc (v := 3) (lv' := [(5, .int 3), (4, .int 0), (0, .ref a0), (1, .int 2), (2, .int 0), (3, .int i1)]) hx hb dX7_newDrawer_92 hl (k := 0) rfl (by decide) (by decide) rfl (fun ls hl => ?_)
      refine lv_goto (tgt := 73) hx hb dX7_newDrawer_95 (by decide) ?_
      refine lv_iload hx hb dX7_newDrawer_73 (lv_at hl 0 rfl) ?_
      refine lv_bipush (v := 6) hx hb dX7_newDrawer_75 (by decide) ?_
      refine lv_icmp_ge (tgt := 98) hx hb dX7_newDrawer_77 (by decide) (fun h9 => absurd h9 (by decide)) (fun _ => ?_)
      refine lv_aload_n hx hb dX7_newDrawer_80 rfl (lv_at hl 2 rfl) ?_
      refine va_get (D := G.1) (ci := 6) (v := .ref a3) (C := RX7) (T := TX7) (N := 22) hx hb hts piX7 hown hK hP 0 rfl rfl 21 (by decide) (hts _ pm85) (fun _ h9 => h9) rfl dX7_newDrawer_81 ?_
      refine lv_iload_n hx hb dX7_newDrawer_84 rfl (lv_at hl 3 rfl) ?_
      refine lv_iload hx hb dX7_newDrawer_85 (lv_at hl 0 rfl) ?_
      refine pxCi (va_runS (As := [.int 2, .int 3]) (rest := [.ref a3]) ⟨hx, hb, hml, hown, hts⟩ (k267_X7_filedAt l G H.size) (va_cwS 2 hts (pxGS pm663 pm664 pm71 pm665) rfl rfl rfl (by decide +kernel) ⟨(Nat.le_of_ble_eq_true rfl), (Nat.le_of_ble_eq_true rfl)⟩) (pxS hG hZ hP hD hS hA [] rfl (by decide)) rfl rfl hl.1 rfl (lv_room (Nat.le_of_ble_eq_true rfl)) dX7_newDrawer_87 ⟨(Nat.le_of_ble_eq_true rfl), (Nat.le_of_ble_eq_true rfl)⟩) hP hD hS hA [] [0, 1, 2, 3] rfl rfl (by decide) (by decide) (fun r14 q13 H locs hw hP hD hS => ?_)
      have hw : r14 = 30 := hw
      subst hw
      have hP : va_P G.1 pxCl [(a0, .inr (6, [.ref a4, .ref a5, .ref a6, .int 0, .ref a7, .int 0, .int 0, .int 0, .int 0, .ref a8, .int 0, .ref a9, .int 0, .int 0, .int 0, .int (-1), .ref a10, .ref a11, .int 0, .ref a1, .ref a2, .ref a3])), (a1, .inl (G.2.1 0, 3, .inl (upd (fun _ => 0) 2 i1))), (a2, .inl (G.2.1 0, 3, .inl (upd (fun _ => 0) 2 0))), (a3, .inl (G.2.1 0, 36, .inl (upd (upd (upd (fun _ => 0) 24 (-1)) 26 (-1)) 28 (-1))))] H := hP
      have hD : va_D A [(a0, .inr (6, [.ref a4, .ref a5, .ref a6, .int 0, .ref a7, .int 0, .int 0, .int 0, .int 0, .ref a8, .int 0, .ref a9, .int 0, .int 0, .int 0, .int (-1), .ref a10, .ref a11, .int 0, .ref a1, .ref a2, .ref a3])), (a1, .inl (G.2.1 0, 3, .inl (upd (fun _ => 0) 2 i1))), (a2, .inl (G.2.1 0, 3, .inl (upd (fun _ => 0) 2 0))), (a3, .inl (G.2.1 0, 36, .inl (upd (upd (upd (fun _ => 0) 24 (-1)) 26 (-1)) 28 (-1))))] := hD
      refine lv_iconst (v := (-1)) hx hb dX7_newDrawer_90 (by decide) ?_
      refine va_iast hx hb hK hP hD hS 3 0 rfl rfl (show ¬ ((30 : Int32) < 0 ∨ 36 ≤ (30 : Int32).toNatClampNeg) by decide +kernel) dX7_newDrawer_91 (fun H locs hP hD hS => ?_)
      have hP : va_P G.1 pxCl [(a0, .inr (6, [.ref a4, .ref a5, .ref a6, .int 0, .ref a7, .int 0, .int 0, .int 0, .int 0, .ref a8, .int 0, .ref a9, .int 0, .int 0, .int 0, .int (-1), .ref a10, .ref a11, .int 0, .ref a1, .ref a2, .ref a3])), (a1, .inl (G.2.1 0, 3, .inl (upd (fun _ => 0) 2 i1))), (a2, .inl (G.2.1 0, 3, .inl (upd (fun _ => 0) 2 0))), (a3, .inl (G.2.1 0, 36, .inl (upd (upd (upd (upd (fun _ => 0) 24 (-1)) 26 (-1)) 28 (-1)) 30 (-1))))] H := hP
      have hD : va_D A [(a0, .inr (6, [.ref a4, .ref a5, .ref a6, .int 0, .ref a7, .int 0, .int 0, .int 0, .int 0, .ref a8, .int 0, .ref a9, .int 0, .int 0, .int 0, .int (-1), .ref a10, .ref a11, .int 0, .ref a1, .ref a2, .ref a3])), (a1, .inl (G.2.1 0, 3, .inl (upd (fun _ => 0) 2 i1))), (a2, .inl (G.2.1 0, 3, .inl (upd (fun _ => 0) 2 0))), (a3, .inl (G.2.1 0, 36, .inl (upd (upd (upd (upd (fun _ => 0) 24 (-1)) 26 (-1)) 28 (-1)) 30 (-1))))] := hD
      refine lv_iinc (v := 4) (lv' := [(5, .int 4), (4, .int 0), (0, .ref a0), (1, .int 2), (2, .int 0), (3, .int i1)]) hx hb dX7_newDrawer_92 hl (k := 0) rfl (by decide) (by decide) rfl (fun ls hl => ?_)
      refine lv_goto (tgt := 73) hx hb dX7_newDrawer_95 (by decide) ?_
      refine lv_iload hx hb dX7_newDrawer_73 (lv_at hl 0 rfl) ?_
      refine lv_bipush (v := 6) hx hb dX7_newDrawer_75 (by decide) ?_
      refine lv_icmp_ge (tgt := 98) hx hb dX7_newDrawer_77 (by decide) (fun h9 => absurd h9 (by decide)) (fun _ => ?_)
      refine lv_aload_n hx hb dX7_newDrawer_80 rfl (lv_at hl 2 rfl) ?_
      refine va_get (D := G.1) (ci := 6) (v := .ref a3) (C := RX7) (T := TX7) (N := 22) hx hb hts piX7 hown hK hP 0 rfl rfl 21 (by decide) (hts _ pm85) (fun _ h9 => h9) rfl dX7_newDrawer_81 ?_
      refine lv_iload_n hx hb dX7_newDrawer_84 rfl (lv_at hl 3 rfl) ?_
      refine lv_iload hx hb dX7_newDrawer_85 (lv_at hl 0 rfl) ?_
      refine pxCi (va_runS (As := [.int 2, .int 4]) (rest := [.ref a3]) ⟨hx, hb, hml, hown, hts⟩ (k268_X7_filedAt l G H.size) (va_cwS 2 hts (pxGS pm663 pm664 pm71 pm665) rfl rfl rfl (by decide +kernel) ⟨(Nat.le_of_ble_eq_true rfl), (Nat.le_of_ble_eq_true rfl)⟩) (pxS hG hZ hP hD hS hA [] rfl (by decide)) rfl rfl hl.1 rfl (lv_room (Nat.le_of_ble_eq_true rfl)) dX7_newDrawer_87 ⟨(Nat.le_of_ble_eq_true rfl), (Nat.le_of_ble_eq_true rfl)⟩) hP hD hS hA [] [0, 1, 2, 3] rfl rfl (by decide) (by decide) (fun r16 q15 H locs hw hP hD hS => ?_)
      have hw : r16 = 32 := hw
      subst hw
      have hP : va_P G.1 pxCl [(a0, .inr (6, [.ref a4, .ref a5, .ref a6, .int 0, .ref a7, .int 0, .int 0, .int 0, .int 0, .ref a8, .int 0, .ref a9, .int 0, .int 0, .int 0, .int (-1), .ref a10, .ref a11, .int 0, .ref a1, .ref a2, .ref a3])), (a1, .inl (G.2.1 0, 3, .inl (upd (fun _ => 0) 2 i1))), (a2, .inl (G.2.1 0, 3, .inl (upd (fun _ => 0) 2 0))), (a3, .inl (G.2.1 0, 36, .inl (upd (upd (upd (upd (fun _ => 0) 24 (-1)) 26 (-1)) 28 (-1)) 30 (-1))))] H := hP
      have hD : va_D A [(a0, .inr (6, [.ref a4, .ref a5, .ref a6, .int 0, .ref a7, .int 0, .int 0, .int 0, .int 0, .ref a8, .int 0, .ref a9, .int 0, .int 0, .int 0, .int (-1), .ref a10, .ref a11, .int 0, .ref a1, .ref a2, .ref a3])), (a1, .inl (G.2.1 0, 3, .inl (upd (fun _ => 0) 2 i1))), (a2, .inl (G.2.1 0, 3, .inl (upd (fun _ => 0) 2 0))), (a3, .inl (G.2.1 0, 36, .inl (upd (upd (upd (upd (fun _ => 0) 24 (-1)) 26 (-1)) 28 (-1)) 30 (-1))))] := hD
      refine lv_iconst (v := (-1)) hx hb dX7_newDrawer_90 (by decide) ?_
      refine va_iast hx hb hK hP hD hS 3 0 rfl rfl (show ¬ ((32 : Int32) < 0 ∨ 36 ≤ (32 : Int32).toNatClampNeg) by decide +kernel) dX7_newDrawer_91 (fun H locs hP hD hS => ?_)
      have hP : va_P G.1 pxCl [(a0, .inr (6, [.ref a4, .ref a5, .ref a6, .int 0, .ref a7, .int 0, .int 0, .int 0, .int 0, .ref a8, .int 0, .ref a9, .int 0, .int 0, .int 0, .int (-1), .ref a10, .ref a11, .int 0, .ref a1, .ref a2, .ref a3])), (a1, .inl (G.2.1 0, 3, .inl (upd (fun _ => 0) 2 i1))), (a2, .inl (G.2.1 0, 3, .inl (upd (fun _ => 0) 2 0))), (a3, .inl (G.2.1 0, 36, .inl (upd (upd (upd (upd (upd (fun _ => 0) 24 (-1)) 26 (-1)) 28 (-1)) 30 (-1)) 32 (-1))))] H := hP
      have hD : va_D A [(a0, .inr (6, [.ref a4, .ref a5, .ref a6, .int 0, .ref a7, .int 0, .int 0, .int 0, .int 0, .ref a8, .int 0, .ref a9, .int 0, .int 0, .int 0, .int (-1), .ref a10, .ref a11, .int 0, .ref a1, .ref a2, .ref a3])), (a1, .inl (G.2.1 0, 3, .inl (upd (fun _ => 0) 2 i1))), (a2, .inl (G.2.1 0, 3, .inl (upd (fun _ => 0) 2 0))), (a3, .inl (G.2.1 0, 36, .inl (upd (upd (upd (upd (upd (fun _ => 0) 24 (-1)) 26 (-1)) 28 (-1)) 30 (-1)) 32 (-1))))] := hD
      refine lv_iinc (v := 5) (lv' := [(5, .int 5), (4, .int 0), (0, .ref a0), (1, .int 2), (2, .int 0), (3, .int i1)]) hx hb dX7_newDrawer_92 hl (k := 0) rfl (by decide) (by decide) rfl (fun ls hl => ?_)
      refine lv_goto (tgt := 73) hx hb dX7_newDrawer_95 (by decide) ?_
      refine lv_iload hx hb dX7_newDrawer_73 (lv_at hl 0 rfl) ?_
      refine lv_bipush (v := 6) hx hb dX7_newDrawer_75 (by decide) ?_
      refine lv_icmp_ge (tgt := 98) hx hb dX7_newDrawer_77 (by decide) (fun h9 => absurd h9 (by decide)) (fun _ => ?_)
      refine lv_aload_n hx hb dX7_newDrawer_80 rfl (lv_at hl 2 rfl) ?_
      refine va_get (D := G.1) (ci := 6) (v := .ref a3) (C := RX7) (T := TX7) (N := 22) hx hb hts piX7 hown hK hP 0 rfl rfl 21 (by decide) (hts _ pm85) (fun _ h9 => h9) rfl dX7_newDrawer_81 ?_
      refine lv_iload_n hx hb dX7_newDrawer_84 rfl (lv_at hl 3 rfl) ?_
      refine lv_iload hx hb dX7_newDrawer_85 (lv_at hl 0 rfl) ?_
      refine pxCi (va_runS (As := [.int 2, .int 5]) (rest := [.ref a3]) ⟨hx, hb, hml, hown, hts⟩ (k269_X7_filedAt l G H.size) (va_cwS 2 hts (pxGS pm663 pm664 pm71 pm665) rfl rfl rfl (by decide +kernel) ⟨(Nat.le_of_ble_eq_true rfl), (Nat.le_of_ble_eq_true rfl)⟩) (pxS hG hZ hP hD hS hA [] rfl (by decide)) rfl rfl hl.1 rfl (lv_room (Nat.le_of_ble_eq_true rfl)) dX7_newDrawer_87 ⟨(Nat.le_of_ble_eq_true rfl), (Nat.le_of_ble_eq_true rfl)⟩) hP hD hS hA [] [0, 1, 2, 3] rfl rfl (by decide) (by decide) (fun r18 q17 H locs hw hP hD hS => ?_)
      have hw : r18 = 34 := hw
      subst hw
      have hP : va_P G.1 pxCl [(a0, .inr (6, [.ref a4, .ref a5, .ref a6, .int 0, .ref a7, .int 0, .int 0, .int 0, .int 0, .ref a8, .int 0, .ref a9, .int 0, .int 0, .int 0, .int (-1), .ref a10, .ref a11, .int 0, .ref a1, .ref a2, .ref a3])), (a1, .inl (G.2.1 0, 3, .inl (upd (fun _ => 0) 2 i1))), (a2, .inl (G.2.1 0, 3, .inl (upd (fun _ => 0) 2 0))), (a3, .inl (G.2.1 0, 36, .inl (upd (upd (upd (upd (upd (fun _ => 0) 24 (-1)) 26 (-1)) 28 (-1)) 30 (-1)) 32 (-1))))] H := hP
      have hD : va_D A [(a0, .inr (6, [.ref a4, .ref a5, .ref a6, .int 0, .ref a7, .int 0, .int 0, .int 0, .int 0, .ref a8, .int 0, .ref a9, .int 0, .int 0, .int 0, .int (-1), .ref a10, .ref a11, .int 0, .ref a1, .ref a2, .ref a3])), (a1, .inl (G.2.1 0, 3, .inl (upd (fun _ => 0) 2 i1))), (a2, .inl (G.2.1 0, 3, .inl (upd (fun _ => 0) 2 0))), (a3, .inl (G.2.1 0, 36, .inl (upd (upd (upd (upd (upd (fun _ => 0) 24 (-1)) 26 (-1)) 28 (-1)) 30 (-1)) 32 (-1))))] := hD
      refine lv_iconst (v := (-1)) hx hb dX7_newDrawer_90 (by decide) ?_
      refine va_iast hx hb hK hP hD hS 3 0 rfl rfl (show ¬ ((34 : Int32) < 0 ∨ 36 ≤ (34 : Int32).toNatClampNeg) by decide +kernel) dX7_newDrawer_91 (fun H locs hP hD hS => ?_)
      have hP : va_P G.1 pxCl [(a0, .inr (6, [.ref a4, .ref a5, .ref a6, .int 0, .ref a7, .int 0, .int 0, .int 0, .int 0, .ref a8, .int 0, .ref a9, .int 0, .int 0, .int 0, .int (-1), .ref a10, .ref a11, .int 0, .ref a1, .ref a2, .ref a3])), (a1, .inl (G.2.1 0, 3, .inl (upd (fun _ => 0) 2 i1))), (a2, .inl (G.2.1 0, 3, .inl (upd (fun _ => 0) 2 0))), (a3, .inl (G.2.1 0, 36, .inl (upd (upd (upd (upd (upd (upd (fun _ => 0) 24 (-1)) 26 (-1)) 28 (-1)) 30 (-1)) 32 (-1)) 34 (-1))))] H := hP
      have hD : va_D A [(a0, .inr (6, [.ref a4, .ref a5, .ref a6, .int 0, .ref a7, .int 0, .int 0, .int 0, .int 0, .ref a8, .int 0, .ref a9, .int 0, .int 0, .int 0, .int (-1), .ref a10, .ref a11, .int 0, .ref a1, .ref a2, .ref a3])), (a1, .inl (G.2.1 0, 3, .inl (upd (fun _ => 0) 2 i1))), (a2, .inl (G.2.1 0, 3, .inl (upd (fun _ => 0) 2 0))), (a3, .inl (G.2.1 0, 36, .inl (upd (upd (upd (upd (upd (upd (fun _ => 0) 24 (-1)) 26 (-1)) 28 (-1)) 30 (-1)) 32 (-1)) 34 (-1))))] := hD
      refine lv_iinc (v := 6) (lv' := [(5, .int 6), (4, .int 0), (0, .ref a0), (1, .int 2), (2, .int 0), (3, .int i1)]) hx hb dX7_newDrawer_92 hl (k := 0) rfl (by decide) (by decide) rfl (fun ls hl => ?_)
      refine lv_goto (tgt := 73) hx hb dX7_newDrawer_95 (by decide) ?_
      refine lv_iload hx hb dX7_newDrawer_73 (lv_at hl 0 rfl) ?_
      refine lv_bipush (v := 6) hx hb dX7_newDrawer_75 (by decide) ?_
      refine lv_icmp_ge (tgt := 98) hx hb dX7_newDrawer_77 (by decide) (fun _ => ?_) (fun h9 => absurd (by decide) h9)
      refine lv_iload hx hb dX7_newDrawer_98 (lv_at hl 1 rfl) ?_
      have hD : va_D A [(a0, .inr (6, [.ref a4, .ref a5, .ref a6, .int 0, .ref a7, .int 0, .int 0, .int 0, .int 0, .ref a8, .int 0, .ref a9, .int 0, .int 0, .int 0, .int (-1), .ref a10, .ref a11, .int 0, .ref a1, .ref a2, .ref a3]))] := hD.sub [0] (by decide) rfl
      have hP : va_P G.1 pxCl [(a0, .inr (6, [.ref a4, .ref a5, .ref a6, .int 0, .ref a7, .int 0, .int 0, .int 0, .int 0, .ref a8, .int 0, .ref a9, .int 0, .int 0, .int 0, .int (-1), .ref a10, .ref a11, .int 0, .ref a1, .ref a2, .ref a3]))] H := hP.sub [0] rfl
      refine W.widen (k := 0) (n := 0) (Nat.le_of_ble_eq_true rfl) (Nat.le_of_ble_eq_true rfl) ?_
      exact W.iret (v := 0) hx hb hr (fun t ht hW => ⟨⟨0, (fun _ => 0), rfl, rfl, by rw [ht]; exact hP, hD⟩, hS.F ht⟩) hS.2.2 dX7_newDrawer_100
set_option maxHeartbeats 4000000 in
set_option maxRecDepth 100000 in
theorem k271_X6_newDrawer (l : Launch) (hl9 : l.stackTraces = false) (G : pxG) (sz : Nat) (a0 a1 a2 a3 a4 a5 : Nat) (i0 i1 : Int32) (h0 : 0 ≤ i0.toInt ∧ i0.toInt ≤ 2) (h1 : 7 ≤ i1.toInt ∧ i1.toInt ≤ 2147483647) : vx_Met l yX6_newDrawer (Cond.code yX6_newDrawer cX6_newDrawer 4 (some .int) :: pxAll) ({ frames := 6, cells := 1, slots := 6, locals := 90 } : Room) (va_Pc [.ref a0, .int i0, .int 0, .int i1] (pxPre G [(a0, .inr (5, [.ref a1, .ref a2, .ref a3, .ref a4, .ref a5, .int 0, .int 0, .int (-1)]))] sz)) pxF (pxXC "java/lang/IllegalArgumentException" (va_A [(a0, .inr (5, [.ref a1, .ref a2, .ref a3, .ref a4, .ref a5, .int 0, .int 0, .int (-1)]))] sz)) 1 6 (va_A [(a0, .inr (5, [.ref a1, .ref a2, .ref a3, .ref a4, .ref a5, .int 0, .int 0, .int (-1)]))] sz) := by
  refine vx_ofW (cc := cX6_newDrawer) (maxL := 4) (ret := (some .int)) (by decide) rfl ?_
  intro p e s m args below meth c s₁ B hml hEx hv
  obtain ⟨rfl, hsz, hG, hZ, hP, hD0⟩ := hv
  have hx := B.exec
  have hb := B.bytes
  have hr := B.returns
  have hts0 := atoms_spec (ws := Cond.code yX6_newDrawer cX6_newDrawer 4 (some .int) :: pxAll) B.pre
  have hts : ∀ w ∈ pxAll, w.before _ s = true := fun w h => hts0 w (List.mem_cons_of_mem _ h)
  have hown : s.vm.findClass RX6 = some m.cls := findClass_of_methodNamed B.named
  have hlocks := B.notSynchronized
  subst hsz
  have hK := hG.1
  have hD := hD0.self (sz := s.heap.size)
  generalize hAe : va_A [(a0, .inr (5, [.ref a1, .ref a2, .ref a3, .ref a4, .ref a5, .int 0, .int 0, .int (-1)]))] s.heap.size = A at hD hZ ⊢
  have hA : ∀ q : Nat, s.heap.size ≤ q → A q := fun q h => by rw [← hAe]; exact Or.inr h
  have hS : va_S A s.heap s.heap [] := va_S.rf
  have hl := lv_entry ([.ref a0, .int i0, .int 0, .int i1]) (n := 4) (Nat.le_of_ble_eq_true rfl)
  rw [lg_entry_eq]
  generalize (lg_sl ([.ref a0, .int i0, .int 0, .int i1]) ++ List.replicate (4 - (lg_sl ([.ref a0, .int i0, .int 0, .int i1])).length) Slot.unset).toArray = ls at hl ⊢
  have hl : lv_has ls 4 [(0, .ref a0), (1, .int i0), (2, .int 0), (3, .int i1)] := hl
  refine lv_aload_n hx hb dX6_newDrawer_0 rfl (lv_at hl 0 rfl) ?_
  refine lv_iload_n hx hb dX6_newDrawer_1 rfl (lv_at hl 1 rfl) ?_
  refine pxCv (va_runV (As := [.int i0]) (rest := []) ⟨hx, hb, hml, hown, hts⟩ (k232_X6_requireDrawer l G s.heap.size a0 i0 ⟨by omega, by omega⟩) (cwV 1 hts (pxGV pm632 pm633 pm634 pm2 pm635) rfl rfl rfl (by decide +kernel) ⟨(Nat.le_of_ble_eq_true rfl), (Nat.le_of_ble_eq_true rfl)⟩) (pxV (ci := 5) (q0 := 0) hG hZ hP hD hS hA [] rfl (by decide) rfl rfl) rfl rfl hl.1 rfl (lv_room (Nat.le_of_ble_eq_true rfl)) dX6_newDrawer_2 ⟨(Nat.le_of_ble_eq_true rfl), (Nat.le_of_ble_eq_true rfl)⟩) hP hD hS hA [] [0] rfl rfl (by decide) (by decide) (fun q1 H locs hP hD hS => ?_)
  have hP : va_P G.1 pxCl [(a0, .inr (5, [.ref a1, .ref a2, .ref a3, .ref a4, .ref a5, .int 0, .int 0, .int (-1)]))] H := hP
  have hD : va_D A [(a0, .inr (5, [.ref a1, .ref a2, .ref a3, .ref a4, .ref a5, .int 0, .int 0, .int (-1)]))] := hD
  refine lv_iload_n hx hb dX6_newDrawer_5 rfl (lv_at hl 2 rfl) ?_
  refine pxCi (va_runS (As := [.int 0]) (rest := []) ⟨hx, hb, hml, hown, hts⟩ (k241_X6_isSort l G H.size) (va_cwS 1 hts (pxGS pm650 pm651 pm2 pm652) rfl rfl rfl (by decide +kernel) ⟨(Nat.le_of_ble_eq_true rfl), (Nat.le_of_ble_eq_true rfl)⟩) (pxS hG hZ hP hD hS hA [] rfl (by decide)) rfl rfl hl.1 rfl (lv_room (Nat.le_of_ble_eq_true rfl)) dX6_newDrawer_6 ⟨(Nat.le_of_ble_eq_true rfl), (Nat.le_of_ble_eq_true rfl)⟩) hP hD hS hA [] [0] rfl rfl (by decide) (by decide) (fun r4 q3 H locs hw hP hD hS => ?_)
  have hw : r4 = 1 := hw
  subst hw
  have hP : va_P G.1 pxCl [(a0, .inr (5, [.ref a1, .ref a2, .ref a3, .ref a4, .ref a5, .int 0, .int 0, .int (-1)]))] H := hP
  have hD : va_D A [(a0, .inr (5, [.ref a1, .ref a2, .ref a3, .ref a4, .ref a5, .int 0, .int 0, .int (-1)]))] := hD
  refine lv_if_eq (tgt := 23) hx hb dX6_newDrawer_9 (by decide) (fun h9 => absurd h9 (by decide)) (fun _ => ?_)
  refine lv_iload_n hx hb dX6_newDrawer_12 rfl (lv_at hl 3 rfl) ?_
  refine lv_iconst (v := 1) hx hb dX6_newDrawer_13 (by decide) ?_
  refine lv_icmp_lt (tgt := 23) hx hb dX6_newDrawer_14 (by decide) (fun h9 => absurd h9 (pxNlt 1 (by decide) (by omega))) (fun _ => ?_)
  refine lv_iload_n hx hb dX6_newDrawer_17 rfl (lv_at hl 3 rfl) ?_
  refine lv_bipush (v := 6) hx hb dX6_newDrawer_18 (by decide) ?_
  refine lv_icmp_le (tgt := 34) hx hb dX6_newDrawer_20 (by decide) (fun h9 => absurd h9 (pxNle 6 (by decide) (by omega))) (fun _ => ?_)
  exact vx_throwSW (own := RX6) (cls := "java/lang/IllegalArgumentException") (names := ["java/lang/RuntimeException", "java/lang/Exception"]) hx hb hl9 hown (by decide +kernel) (by decide +kernel) (hts _ pm591) (hts _ pm592) (hG.2.2.2.2.1 9 _ rfl) (pxThr (own := RX6) (ic := 109) (by simp [pxBadC]) hts hG wsL_law_x3 pxh_x3) pxg_x3 hZ.1 hZ.2 hS (hl.1.trans hml.symm) dX6_newDrawer_23 dX6_newDrawer_26 dX6_newDrawer_27 dX6_newDrawer_30 dX6_newDrawer_33 (fun x hx => (hEx x hx).elim) (Nat.le_of_ble_eq_true rfl) (Nat.le_of_ble_eq_true rfl) (Nat.le_of_ble_eq_true rfl) (Nat.le_of_ble_eq_true rfl) hlocks (pxXe hS) hS.2.2 (Nat.le_of_ble_eq_true rfl) (Nat.le_of_ble_eq_true rfl)
set_option maxHeartbeats 4000000 in
set_option maxRecDepth 100000 in
theorem k271_L_newDrawer (l : Launch) (hl9 : l.stackTraces = false) (G : pxG) (sz : Nat) (a0 a1 a2 a3 a4 a5 a6 : Nat) (i0 i1 : Int32) (h0 : 0 ≤ i0.toInt ∧ i0.toInt ≤ 2) (h1 : 7 ≤ i1.toInt ∧ i1.toInt ≤ 2147483647) : Met l yL_newDrawer (Cond.codeWith yL_newDrawer cL_newDrawer 6 (some .int) [(0, 12, 15, 67), (0, 12, 19, 51)] :: pxAll) ({ frames := 7, cells := 1, slots := 6, locals := 113 } : Room) (va_Pc [.ref a0, .int i0, .int 0, .int i1, .ref a1] (pxPre G [(a0, .inr (5, [.ref a2, .ref a3, .ref a4, .ref a5, .ref a6, .int 0, .int 0, .int (-1)]))] sz)) (pxQi G (fun r => r = 2) (fun q => []) (va_A [(a0, .inr (5, [.ref a2, .ref a3, .ref a4, .ref a5, .ref a6, .int 0, .int 0, .int (-1)]))] sz)) 1 6 (va_A [(a0, .inr (5, [.ref a2, .ref a3, .ref a4, .ref a5, .ref a6, .int 0, .int 0, .int (-1)]))] sz) := by
  refine va_MetW (cc := cL_newDrawer) (maxL := 6) (ret := (some .int)) (hh := [(0, 12, 15, 67), (0, 12, 19, 51)]) (by decide) rfl ?_
  intro p e s m args below meth c s₁ B hml hv
  obtain ⟨rfl, hsz, hG, hZ, hP, hD0⟩ := hv
  have hx := B.exec
  have hb := B.bytes
  have hr := B.returns
  have hts0 := atoms_spec (ws := Cond.codeWith yL_newDrawer cL_newDrawer 6 (some .int) [(0, 12, 15, 67), (0, 12, 19, 51)] :: pxAll) B.pre
  have hts : ∀ w ∈ pxAll, w.before _ s = true := fun w h => hts0 w (List.mem_cons_of_mem _ h)
  have hown : s.vm.findClass RL = some m.cls := findClass_of_methodNamed B.named
  have hlocks := B.notSynchronized
  have hTab := vx_table (x := yL_newDrawer) B (hts0 _ List.mem_cons_self)
  subst hsz
  have hK := hG.1
  have hD := hD0.self (sz := s.heap.size)
  generalize hAe : va_A [(a0, .inr (5, [.ref a2, .ref a3, .ref a4, .ref a5, .ref a6, .int 0, .int 0, .int (-1)]))] s.heap.size = A at hD hZ ⊢
  have hA : ∀ q : Nat, s.heap.size ≤ q → A q := fun q h => by rw [← hAe]; exact Or.inr h
  have hS : va_S A s.heap s.heap [] := va_S.rf
  have hl := lv_entry ([.ref a0, .int i0, .int 0, .int i1, .ref a1]) (n := 6) (Nat.le_of_ble_eq_true rfl)
  rw [lg_entry_eq]
  generalize (lg_sl ([.ref a0, .int i0, .int 0, .int i1, .ref a1]) ++ List.replicate (6 - (lg_sl ([.ref a0, .int i0, .int 0, .int i1, .ref a1])).length) Slot.unset).toArray = ls at hl ⊢
  have hl : lv_has ls 6 [(0, .ref a0), (1, .int i0), (2, .int 0), (3, .int i1), (4, .ref a1)] := hl
  refine lv_aload hx hb dL_newDrawer_0 (lv_at hl 4 rfl) ?_
  refine lv_iconst (v := 0) hx hb dL_newDrawer_2 (by decide) ?_
  refine lv_aload_n hx hb dL_newDrawer_3 rfl (lv_at hl 0 rfl) ?_
  refine lv_iload_n hx hb dL_newDrawer_4 rfl (lv_at hl 1 rfl) ?_
  refine lv_iload_n hx hb dL_newDrawer_5 rfl (lv_at hl 2 rfl) ?_
  refine lv_iload_n hx hb dL_newDrawer_6 rfl (lv_at hl 3 rfl) ?_
  refine pxCx (vx_runV (As := [.int i0, .int 0, .int i1]) (rest := [.int 0, .ref a1]) ⟨hx, hb, hml, hown, hts⟩ (k271_X6_newDrawer l hl9 G s.heap.size a0 a2 a3 a4 a5 a6 i0 i1 ⟨by omega, by omega⟩ ⟨by omega, by omega⟩) (cwV 3 hts (pxGV pm636 pm637 pm638 pm2 pm639) rfl rfl rfl (by decide +kernel) ⟨(Nat.le_of_ble_eq_true rfl), (Nat.le_of_ble_eq_true rfl)⟩) (pxV (ci := 5) (q0 := 0) hG hZ hP hD hS hA [0] rfl (by decide) rfl rfl) rfl rfl hl.1 rfl (lv_room (Nat.le_of_ble_eq_true rfl)) dL_newDrawer_7 ⟨(Nat.le_of_ble_eq_true rfl), (Nat.le_of_ble_eq_true rfl)⟩) hD hS hA [0] rfl (fun ce q9 H locs hS hce hcv hcl => ?_)
  refine vx_catch (own := RL) (name := "java/lang/IllegalArgumentException") (E := "java/lang/IllegalArgumentException") hown [⟨0, 12, 15, 67⟩] ⟨0, 12, 19, 51⟩ [] (by rw [hTab]; rfl) (by intro z hz; rcases List.mem_cons.mp hz with rfl | hz; exact Or.inr ⟨by decide, "java/lang/IndexOutOfBoundsException", hts _ pm437, hG.2.2.2.2.2.1 ("java/lang/IllegalArgumentException", "java/lang/IndexOutOfBoundsException") (by simp [pxNc])⟩; cases hz) (by decide) (by decide) (hts _ pm597) (va_Nw.use rfl (hG.2.2.1 "java/lang/IllegalArgumentException" (by simp [pxBadC]))) hce hcv hcl ?_
  have hP : va_P G.1 pxCl [] H := fun k q h => by simp at h
  have hD : va_D A [] := ⟨fun i j p q h => by simp at h, fun k q h => by simp at h⟩
  refine lv_astore (lv' := [(5, .ref q9), (0, .ref a0), (1, .int i0), (2, .int 0), (3, .int i1), (4, .ref a1)]) hx hb dL_newDrawer_19 hl (by decide) rfl (fun ls hl => ?_)
  refine lv_iconst (v := 2) hx hb dL_newDrawer_21 (by decide) ?_
  refine W.widen (k := 1) (n := 6) (Nat.le_of_ble_eq_true rfl) (Nat.le_of_ble_eq_true rfl) ?_
  exact W.iret (v := 2) hx hb hr (fun t ht hW => ⟨⟨2, (fun _ => 0), rfl, rfl, by rw [ht]; exact hP, hD⟩, hS.F ht⟩) hS.2.2 dL_newDrawer_22
set_option maxHeartbeats 4000000 in
set_option maxRecDepth 100000 in
theorem k273_X7_in (l : Launch) (G : pxG) (sz : Nat) (i0 : Int32) (h0 : 7 ≤ i0.toInt ∧ i0.toInt ≤ 2147483647) : Met l yX7_in (Cond.code yX7_in cX7_in 3 (some .boolean) :: pxAll) ({ frames := 0, cells := 0, slots := 0, locals := 0 } : Room) (va_Pc [.int i0, .int 1, .int 6] (pxPre G [] sz)) (pxQi G (fun r => r = 0) (fun q => []) (va_A [] sz)) 0 0 (va_A [] sz) := by
  refine Met.ofW (cc := cX7_in) (maxL := 3) (ret := (some .boolean)) (by decide) rfl ?_
  intro p e s m args below meth c s₁ B hml hv
  obtain ⟨rfl, hsz, hG, hZ, hP, hD0⟩ := hv
  have hx := B.exec
  have hb := B.bytes
  have hr := B.returns
  have hts0 := atoms_spec (ws := Cond.code yX7_in cX7_in 3 (some .boolean) :: pxAll) B.pre
  have hts : ∀ w ∈ pxAll, w.before _ s = true := fun w h => hts0 w (List.mem_cons_of_mem _ h)
  have hown : s.vm.findClass RX7 = some m.cls := findClass_of_methodNamed B.named
  have hlocks := B.notSynchronized
  subst hsz
  have hK := hG.1
  have hD := hD0.self (sz := s.heap.size)
  generalize hAe : va_A [] s.heap.size = A at hD hZ ⊢
  have hA : ∀ q : Nat, s.heap.size ≤ q → A q := fun q h => by rw [← hAe]; exact Or.inr h
  have hS : va_S A s.heap s.heap [] := va_S.rf
  have hl := lv_entry ([.int i0, .int 1, .int 6]) (n := 3) (Nat.le_of_ble_eq_true rfl)
  rw [lg_entry_eq]
  generalize (lg_sl ([.int i0, .int 1, .int 6]) ++ List.replicate (3 - (lg_sl ([.int i0, .int 1, .int 6])).length) Slot.unset).toArray = ls at hl ⊢
  have hl : lv_has ls 3 [(0, .int i0), (1, .int 1), (2, .int 6)] := hl
  refine lv_iload_n hx hb dX7_in_0 rfl (lv_at hl 0 rfl) ?_
  refine lv_iload_n hx hb dX7_in_1 rfl (lv_at hl 1 rfl) ?_
  refine lv_icmp_lt (tgt := 14) hx hb dX7_in_2 (by decide) (fun h9 => absurd h9 (pxNlt 1 (by decide) (by omega))) (fun _ => ?_)
  refine lv_iload_n hx hb dX7_in_5 rfl (lv_at hl 0 rfl) ?_
  refine lv_iload_n hx hb dX7_in_6 rfl (lv_at hl 2 rfl) ?_
  refine lv_icmp_gt (tgt := 14) hx hb dX7_in_7 (by decide) (fun _ => ?_) (fun h9 => absurd (pxLt2 6 (by decide) (by omega)) h9)
  refine lv_iconst (v := 0) hx hb dX7_in_14 (by decide) ?_
  refine W.widen (k := 0) (n := 0) (Nat.le_of_ble_eq_true rfl) (Nat.le_of_ble_eq_true rfl) ?_
  exact W.zret (ty := .boolean) (v := 0) hx hb hr rfl (fun t ht hW => ⟨⟨0, (fun _ => 0), rfl, rfl, by rw [ht]; exact hP, hD⟩, hS.F ht⟩) hS.2.2 dX7_in_15
set_option maxHeartbeats 4000000 in
set_option maxRecDepth 100000 in
theorem k273_X7_newDrawer (l : Launch) (G : pxG) (sz : Nat) (a0 a1 a2 a3 a4 a5 a6 a7 a8 a9 a10 a11 : Nat) (i0 i1 : Int32) (h0 : 0 ≤ i0.toInt ∧ i0.toInt ≤ 2) (h1 : 7 ≤ i1.toInt ∧ i1.toInt ≤ 2147483647) : Met l yX7_newDrawer (Cond.code yX7_newDrawer cX7_newDrawer 6 (some .int) :: pxAll) ({ frames := 2, cells := 0, slots := 0, locals := 42 } : Room) (va_Pc [.ref a0, .int i0, .int 0, .int i1] (pxPre G [(a0, .inr (6, [.ref a1, .ref a2, .ref a3, .int 0, .ref a4, .int 0, .int 0, .int 0, .int 0, .ref a5, .int 0, .ref a6, .int 0, .int 0, .int 0, .int (-1), .ref a7, .ref a8, .int 0, .ref a9, .ref a10, .ref a11]))] sz)) (pxQi G (fun r => r = 0) (fun q => [(a0, .inr (6, [.ref a1, .ref a2, .ref a3, .int 0, .ref a4, .int 0, .int 0, .int 2, .int 0, .ref a5, .int 0, .ref a6, .int 0, .int 0, .int 0, .int (-1), .ref a7, .ref a8, .int 0, .ref a9, .ref a10, .ref a11]))]) (va_A [(a0, .inr (6, [.ref a1, .ref a2, .ref a3, .int 0, .ref a4, .int 0, .int 0, .int 0, .int 0, .ref a5, .int 0, .ref a6, .int 0, .int 0, .int 0, .int (-1), .ref a7, .ref a8, .int 0, .ref a9, .ref a10, .ref a11]))] sz)) 0 0 (va_A [(a0, .inr (6, [.ref a1, .ref a2, .ref a3, .int 0, .ref a4, .int 0, .int 0, .int 0, .int 0, .ref a5, .int 0, .ref a6, .int 0, .int 0, .int 0, .int (-1), .ref a7, .ref a8, .int 0, .ref a9, .ref a10, .ref a11]))] sz) := by
  refine Met.ofW (cc := cX7_newDrawer) (maxL := 6) (ret := (some .int)) (by decide) rfl ?_
  intro p e s m args below meth c s₁ B hml hv
  obtain ⟨rfl, hsz, hG, hZ, hP, hD0⟩ := hv
  have hx := B.exec
  have hb := B.bytes
  have hr := B.returns
  have hts0 := atoms_spec (ws := Cond.code yX7_newDrawer cX7_newDrawer 6 (some .int) :: pxAll) B.pre
  have hts : ∀ w ∈ pxAll, w.before _ s = true := fun w h => hts0 w (List.mem_cons_of_mem _ h)
  have hown : s.vm.findClass RX7 = some m.cls := findClass_of_methodNamed B.named
  have hlocks := B.notSynchronized
  subst hsz
  have hK := hG.1
  have hD := hD0.self (sz := s.heap.size)
  generalize hAe : va_A [(a0, .inr (6, [.ref a1, .ref a2, .ref a3, .int 0, .ref a4, .int 0, .int 0, .int 0, .int 0, .ref a5, .int 0, .ref a6, .int 0, .int 0, .int 0, .int (-1), .ref a7, .ref a8, .int 0, .ref a9, .ref a10, .ref a11]))] s.heap.size = A at hD hZ ⊢
  have hA : ∀ q : Nat, s.heap.size ≤ q → A q := fun q h => by rw [← hAe]; exact Or.inr h
  have hS : va_S A s.heap s.heap [] := va_S.rf
  have hl := lv_entry ([.ref a0, .int i0, .int 0, .int i1]) (n := 6) (Nat.le_of_ble_eq_true rfl)
  rw [lg_entry_eq]
  generalize (lg_sl ([.ref a0, .int i0, .int 0, .int i1]) ++ List.replicate (6 - (lg_sl ([.ref a0, .int i0, .int 0, .int i1])).length) Slot.unset).toArray = ls at hl ⊢
  have hl : lv_has ls 6 [(0, .ref a0), (1, .int i0), (2, .int 0), (3, .int i1)] := hl
  refine lv_aload_n hx hb dX7_newDrawer_0 rfl (lv_at hl 0 rfl) ?_
  refine lv_iload_n hx hb dX7_newDrawer_1 rfl (lv_at hl 1 rfl) ?_
  refine pxCi (va_runS (As := [.int i0]) (rest := [.ref a0]) ⟨hx, hb, hml, hown, hts⟩ (k236_X7_isDrawer l G s.heap.size i0 ⟨by omega, by omega⟩) (va_cwS 1 hts (pxGS pm643 pm644 pm71 pm645) rfl rfl rfl (by decide +kernel) ⟨(Nat.le_of_ble_eq_true rfl), (Nat.le_of_ble_eq_true rfl)⟩) (pxS hG hZ hP hD hS hA [] rfl (by decide)) rfl rfl hl.1 rfl (lv_room (Nat.le_of_ble_eq_true rfl)) dX7_newDrawer_2 ⟨(Nat.le_of_ble_eq_true rfl), (Nat.le_of_ble_eq_true rfl)⟩) hP hD hS hA [] [0] rfl rfl (by decide) (by decide) (fun r2 q1 H locs hw hP hD hS => ?_)
  have hw : r2 = 1 := hw
  subst hw
  have hP : va_P G.1 pxCl [(a0, .inr (6, [.ref a1, .ref a2, .ref a3, .int 0, .ref a4, .int 0, .int 0, .int 0, .int 0, .ref a5, .int 0, .ref a6, .int 0, .int 0, .int 0, .int (-1), .ref a7, .ref a8, .int 0, .ref a9, .ref a10, .ref a11]))] H := hP
  have hD : va_D A [(a0, .inr (6, [.ref a1, .ref a2, .ref a3, .int 0, .ref a4, .int 0, .int 0, .int 0, .int 0, .ref a5, .int 0, .ref a6, .int 0, .int 0, .int 0, .int (-1), .ref a7, .ref a8, .int 0, .ref a9, .ref a10, .ref a11]))] := hD
  refine lv_if_ne (tgt := 12) hx hb dX7_newDrawer_5 (by decide) (fun _ => ?_) (fun h9 => absurd h9 (by decide))
  refine lv_iload_n hx hb dX7_newDrawer_12 rfl (lv_at hl 2 rfl) ?_
  refine lv_iconst (v := 0) hx hb dX7_newDrawer_13 (by decide) ?_
  refine lv_iconst (v := 1) hx hb dX7_newDrawer_14 (by decide) ?_
  refine pxCi (va_runS (As := [.int 0, .int 0, .int 1]) (rest := [.ref a0]) ⟨hx, hb, hml, hown, hts⟩ (k244_X7_in l G H.size) (va_cwS 3 hts (pxGS pm143 pm144 pm71 pm145) rfl rfl rfl (by decide +kernel) ⟨(Nat.le_of_ble_eq_true rfl), (Nat.le_of_ble_eq_true rfl)⟩) (pxS hG hZ hP hD hS hA [] rfl (by decide)) rfl rfl hl.1 rfl (lv_room (Nat.le_of_ble_eq_true rfl)) dX7_newDrawer_15 ⟨(Nat.le_of_ble_eq_true rfl), (Nat.le_of_ble_eq_true rfl)⟩) hP hD hS hA [] [0] rfl rfl (by decide) (by decide) (fun r4 q3 H locs hw hP hD hS => ?_)
  have hw : r4 = 1 := hw
  subst hw
  have hP : va_P G.1 pxCl [(a0, .inr (6, [.ref a1, .ref a2, .ref a3, .int 0, .ref a4, .int 0, .int 0, .int 0, .int 0, .ref a5, .int 0, .ref a6, .int 0, .int 0, .int 0, .int (-1), .ref a7, .ref a8, .int 0, .ref a9, .ref a10, .ref a11]))] H := hP
  have hD : va_D A [(a0, .inr (6, [.ref a1, .ref a2, .ref a3, .int 0, .ref a4, .int 0, .int 0, .int 0, .int 0, .ref a5, .int 0, .ref a6, .int 0, .int 0, .int 0, .int (-1), .ref a7, .ref a8, .int 0, .ref a9, .ref a10, .ref a11]))] := hD
  refine lv_if_eq (tgt := 31) hx hb dX7_newDrawer_18 (by decide) (fun h9 => absurd h9 (by decide)) (fun _ => ?_)
  refine lv_iload_n hx hb dX7_newDrawer_21 rfl (lv_at hl 3 rfl) ?_
  refine lv_iconst (v := 1) hx hb dX7_newDrawer_22 (by decide) ?_
  refine lv_bipush (v := 6) hx hb dX7_newDrawer_23 (by decide) ?_
  refine pxCi (va_runS (As := [.int i1, .int 1, .int 6]) (rest := [.ref a0]) ⟨hx, hb, hml, hown, hts⟩ (k273_X7_in l G H.size i1 ⟨by omega, by omega⟩) (va_cwS 3 hts (pxGS pm143 pm144 pm71 pm145) rfl rfl rfl (by decide +kernel) ⟨(Nat.le_of_ble_eq_true rfl), (Nat.le_of_ble_eq_true rfl)⟩) (pxS hG hZ hP hD hS hA [] rfl (by decide)) rfl rfl hl.1 rfl (lv_room (Nat.le_of_ble_eq_true rfl)) dX7_newDrawer_25 ⟨(Nat.le_of_ble_eq_true rfl), (Nat.le_of_ble_eq_true rfl)⟩) hP hD hS hA [] [0] rfl rfl (by decide) (by decide) (fun r6 q5 H locs hw hP hD hS => ?_)
  have hw : r6 = 0 := hw
  subst hw
  have hP : va_P G.1 pxCl [(a0, .inr (6, [.ref a1, .ref a2, .ref a3, .int 0, .ref a4, .int 0, .int 0, .int 0, .int 0, .ref a5, .int 0, .ref a6, .int 0, .int 0, .int 0, .int (-1), .ref a7, .ref a8, .int 0, .ref a9, .ref a10, .ref a11]))] H := hP
  have hD : va_D A [(a0, .inr (6, [.ref a1, .ref a2, .ref a3, .int 0, .ref a4, .int 0, .int 0, .int 0, .int 0, .ref a5, .int 0, .ref a6, .int 0, .int 0, .int 0, .int (-1), .ref a7, .ref a8, .int 0, .ref a9, .ref a10, .ref a11]))] := hD
  refine lv_if_ne (tgt := 35) hx hb dX7_newDrawer_28 (by decide) (fun h9 => absurd h9 (by decide)) (fun _ => ?_)
  refine lv_iconst (v := 2) hx hb dX7_newDrawer_31 (by decide) ?_
  refine lv_goto (tgt := 36) hx hb dX7_newDrawer_32 (by decide) ?_
  refine va_put (D := G.1) (ci := 6) (v := .int 2) (ty := .int) (C := RX7) (T := TX7) (N := 22) hx hb hts piX7 tyX7 tyX7_ok nmX7 hown hK hP hD hS 0 rfl rfl 7 (by decide) (hts _ pm150) (fun _ h9 => h9) rfl (by decide +kernel) rfl rfl (Nat.le_of_ble_eq_true rfl) dX7_newDrawer_36 (fun H locs hP hD hS => ?_)
  have hP : va_P G.1 pxCl [(a0, .inr (6, [.ref a1, .ref a2, .ref a3, .int 0, .ref a4, .int 0, .int 0, .int 2, .int 0, .ref a5, .int 0, .ref a6, .int 0, .int 0, .int 0, .int (-1), .ref a7, .ref a8, .int 0, .ref a9, .ref a10, .ref a11]))] H := hP
  have hD : va_D A [(a0, .inr (6, [.ref a1, .ref a2, .ref a3, .int 0, .ref a4, .int 0, .int 0, .int 2, .int 0, .ref a5, .int 0, .ref a6, .int 0, .int 0, .int 0, .int (-1), .ref a7, .ref a8, .int 0, .ref a9, .ref a10, .ref a11]))] := hD
  refine lv_aload_n hx hb dX7_newDrawer_39 rfl (lv_at hl 0 rfl) ?_
  refine va_get (D := G.1) (ci := 6) (v := .int 2) (C := RX7) (T := TX7) (N := 22) hx hb hts piX7 hown hK hP 0 rfl rfl 7 (by decide) (hts _ pm150) (fun _ h9 => h9) rfl dX7_newDrawer_40 ?_
  refine lv_if_le (tgt := 48) hx hb dX7_newDrawer_43 (by decide) (fun h9 => absurd h9 (by decide)) (fun _ => ?_)
  refine lv_iconst (v := 0) hx hb dX7_newDrawer_46 (by decide) ?_
  refine W.widen (k := 0) (n := 0) (Nat.le_of_ble_eq_true rfl) (Nat.le_of_ble_eq_true rfl) ?_
  exact W.iret (v := 0) hx hb hr (fun t ht hW => ⟨⟨0, (fun _ => 0), rfl, rfl, by rw [ht]; exact hP, hD⟩, hS.F ht⟩) hS.2.2 dX7_newDrawer_47
set_option maxHeartbeats 4000000 in
set_option maxRecDepth 100000 in
theorem k275_X6_isSort (l : Launch) (G : pxG) (sz : Nat) : Met l yX6_isSort (Cond.code yX6_isSort cX6_isSort 1 (some .boolean) :: pxAll) ({ frames := 0, cells := 0, slots := 0, locals := 0 } : Room) (va_Pc [.int 1] (pxPre G [] sz)) (pxQi G (fun r => r = 1) (fun q => []) (va_A [] sz)) 0 0 (va_A [] sz) := by
  refine Met.ofW (cc := cX6_isSort) (maxL := 1) (ret := (some .boolean)) (by decide) rfl ?_
  intro p e s m args below meth c s₁ B hml hv
  obtain ⟨rfl, hsz, hG, hZ, hP, hD0⟩ := hv
  have hx := B.exec
  have hb := B.bytes
  have hr := B.returns
  have hts0 := atoms_spec (ws := Cond.code yX6_isSort cX6_isSort 1 (some .boolean) :: pxAll) B.pre
  have hts : ∀ w ∈ pxAll, w.before _ s = true := fun w h => hts0 w (List.mem_cons_of_mem _ h)
  have hown : s.vm.findClass RX6 = some m.cls := findClass_of_methodNamed B.named
  have hlocks := B.notSynchronized
  subst hsz
  have hK := hG.1
  have hD := hD0.self (sz := s.heap.size)
  generalize hAe : va_A [] s.heap.size = A at hD hZ ⊢
  have hA : ∀ q : Nat, s.heap.size ≤ q → A q := fun q h => by rw [← hAe]; exact Or.inr h
  have hS : va_S A s.heap s.heap [] := va_S.rf
  have hl := lv_entry ([.int 1]) (n := 1) (Nat.le_of_ble_eq_true rfl)
  rw [lg_entry_eq]
  generalize (lg_sl ([.int 1]) ++ List.replicate (1 - (lg_sl ([.int 1])).length) Slot.unset).toArray = ls at hl ⊢
  have hl : lv_has ls 1 [(0, .int 1)] := hl
  refine lv_iload_n hx hb dX6_isSort_0 rfl (lv_at hl 0 rfl) ?_
  refine lv_if_eq (tgt := 9) hx hb dX6_isSort_1 (by decide) (fun h9 => absurd h9 (by decide)) (fun _ => ?_)
  refine lv_iload_n hx hb dX6_isSort_4 rfl (lv_at hl 0 rfl) ?_
  refine lv_iconst (v := 1) hx hb dX6_isSort_5 (by decide) ?_
  refine lv_icmp_ne (tgt := 13) hx hb dX6_isSort_6 (by decide) (fun h9 => absurd h9 (by decide)) (fun _ => ?_)
  refine lv_iconst (v := 1) hx hb dX6_isSort_9 (by decide) ?_
  refine lv_goto (tgt := 14) hx hb dX6_isSort_10 (by decide) ?_
  refine W.widen (k := 0) (n := 0) (Nat.le_of_ble_eq_true rfl) (Nat.le_of_ble_eq_true rfl) ?_
  exact W.zret (ty := .boolean) (v := 1) hx hb hr rfl (fun t ht hW => ⟨⟨1, (fun _ => 0), rfl, rfl, by rw [ht]; exact hP, hD⟩, hS.F ht⟩) hS.2.2 dX6_isSort_14
set_option maxHeartbeats 4000000 in
set_option maxRecDepth 100000 in
theorem k275_X6_newDrawer (l : Launch) (hl9 : l.stackTraces = false) (G : pxG) (sz : Nat) (a0 a1 a2 a3 a4 a5 : Nat) (i0 i1 : Int32) (h0 : 0 ≤ i0.toInt ∧ i0.toInt ≤ 2) (h1 : (-2147483648 : Int) ≤ i1.toInt ∧ i1.toInt ≤ 0) : vx_Met l yX6_newDrawer (Cond.code yX6_newDrawer cX6_newDrawer 4 (some .int) :: pxAll) ({ frames := 6, cells := 1, slots := 6, locals := 90 } : Room) (va_Pc [.ref a0, .int i0, .int 1, .int i1] (pxPre G [(a0, .inr (5, [.ref a1, .ref a2, .ref a3, .ref a4, .ref a5, .int 0, .int 0, .int (-1)]))] sz)) pxF (pxXC "java/lang/IllegalArgumentException" (va_A [(a0, .inr (5, [.ref a1, .ref a2, .ref a3, .ref a4, .ref a5, .int 0, .int 0, .int (-1)]))] sz)) 1 6 (va_A [(a0, .inr (5, [.ref a1, .ref a2, .ref a3, .ref a4, .ref a5, .int 0, .int 0, .int (-1)]))] sz) := by
  refine vx_ofW (cc := cX6_newDrawer) (maxL := 4) (ret := (some .int)) (by decide) rfl ?_
  intro p e s m args below meth c s₁ B hml hEx hv
  obtain ⟨rfl, hsz, hG, hZ, hP, hD0⟩ := hv
  have hx := B.exec
  have hb := B.bytes
  have hr := B.returns
  have hts0 := atoms_spec (ws := Cond.code yX6_newDrawer cX6_newDrawer 4 (some .int) :: pxAll) B.pre
  have hts : ∀ w ∈ pxAll, w.before _ s = true := fun w h => hts0 w (List.mem_cons_of_mem _ h)
  have hown : s.vm.findClass RX6 = some m.cls := findClass_of_methodNamed B.named
  have hlocks := B.notSynchronized
  subst hsz
  have hK := hG.1
  have hD := hD0.self (sz := s.heap.size)
  generalize hAe : va_A [(a0, .inr (5, [.ref a1, .ref a2, .ref a3, .ref a4, .ref a5, .int 0, .int 0, .int (-1)]))] s.heap.size = A at hD hZ ⊢
  have hA : ∀ q : Nat, s.heap.size ≤ q → A q := fun q h => by rw [← hAe]; exact Or.inr h
  have hS : va_S A s.heap s.heap [] := va_S.rf
  have hl := lv_entry ([.ref a0, .int i0, .int 1, .int i1]) (n := 4) (Nat.le_of_ble_eq_true rfl)
  rw [lg_entry_eq]
  generalize (lg_sl ([.ref a0, .int i0, .int 1, .int i1]) ++ List.replicate (4 - (lg_sl ([.ref a0, .int i0, .int 1, .int i1])).length) Slot.unset).toArray = ls at hl ⊢
  have hl : lv_has ls 4 [(0, .ref a0), (1, .int i0), (2, .int 1), (3, .int i1)] := hl
  refine lv_aload_n hx hb dX6_newDrawer_0 rfl (lv_at hl 0 rfl) ?_
  refine lv_iload_n hx hb dX6_newDrawer_1 rfl (lv_at hl 1 rfl) ?_
  refine pxCv (va_runV (As := [.int i0]) (rest := []) ⟨hx, hb, hml, hown, hts⟩ (k232_X6_requireDrawer l G s.heap.size a0 i0 ⟨by omega, by omega⟩) (cwV 1 hts (pxGV pm632 pm633 pm634 pm2 pm635) rfl rfl rfl (by decide +kernel) ⟨(Nat.le_of_ble_eq_true rfl), (Nat.le_of_ble_eq_true rfl)⟩) (pxV (ci := 5) (q0 := 0) hG hZ hP hD hS hA [] rfl (by decide) rfl rfl) rfl rfl hl.1 rfl (lv_room (Nat.le_of_ble_eq_true rfl)) dX6_newDrawer_2 ⟨(Nat.le_of_ble_eq_true rfl), (Nat.le_of_ble_eq_true rfl)⟩) hP hD hS hA [] [0] rfl rfl (by decide) (by decide) (fun q1 H locs hP hD hS => ?_)
  have hP : va_P G.1 pxCl [(a0, .inr (5, [.ref a1, .ref a2, .ref a3, .ref a4, .ref a5, .int 0, .int 0, .int (-1)]))] H := hP
  have hD : va_D A [(a0, .inr (5, [.ref a1, .ref a2, .ref a3, .ref a4, .ref a5, .int 0, .int 0, .int (-1)]))] := hD
  refine lv_iload_n hx hb dX6_newDrawer_5 rfl (lv_at hl 2 rfl) ?_
  refine pxCi (va_runS (As := [.int 1]) (rest := []) ⟨hx, hb, hml, hown, hts⟩ (k275_X6_isSort l G H.size) (va_cwS 1 hts (pxGS pm650 pm651 pm2 pm652) rfl rfl rfl (by decide +kernel) ⟨(Nat.le_of_ble_eq_true rfl), (Nat.le_of_ble_eq_true rfl)⟩) (pxS hG hZ hP hD hS hA [] rfl (by decide)) rfl rfl hl.1 rfl (lv_room (Nat.le_of_ble_eq_true rfl)) dX6_newDrawer_6 ⟨(Nat.le_of_ble_eq_true rfl), (Nat.le_of_ble_eq_true rfl)⟩) hP hD hS hA [] [0] rfl rfl (by decide) (by decide) (fun r4 q3 H locs hw hP hD hS => ?_)
  have hw : r4 = 1 := hw
  subst hw
  have hP : va_P G.1 pxCl [(a0, .inr (5, [.ref a1, .ref a2, .ref a3, .ref a4, .ref a5, .int 0, .int 0, .int (-1)]))] H := hP
  have hD : va_D A [(a0, .inr (5, [.ref a1, .ref a2, .ref a3, .ref a4, .ref a5, .int 0, .int 0, .int (-1)]))] := hD
  refine lv_if_eq (tgt := 23) hx hb dX6_newDrawer_9 (by decide) (fun h9 => absurd h9 (by decide)) (fun _ => ?_)
  refine lv_iload_n hx hb dX6_newDrawer_12 rfl (lv_at hl 3 rfl) ?_
  refine lv_iconst (v := 1) hx hb dX6_newDrawer_13 (by decide) ?_
  refine lv_icmp_lt (tgt := 23) hx hb dX6_newDrawer_14 (by decide) (fun _ => ?_) (fun h9 => absurd (pxLt 1 (by decide) (by omega)) h9)
  exact vx_throwSW (own := RX6) (cls := "java/lang/IllegalArgumentException") (names := ["java/lang/RuntimeException", "java/lang/Exception"]) hx hb hl9 hown (by decide +kernel) (by decide +kernel) (hts _ pm591) (hts _ pm592) (hG.2.2.2.2.1 9 _ rfl) (pxThr (own := RX6) (ic := 109) (by simp [pxBadC]) hts hG wsL_law_x3 pxh_x3) pxg_x3 hZ.1 hZ.2 hS (hl.1.trans hml.symm) dX6_newDrawer_23 dX6_newDrawer_26 dX6_newDrawer_27 dX6_newDrawer_30 dX6_newDrawer_33 (fun x hx => (hEx x hx).elim) (Nat.le_of_ble_eq_true rfl) (Nat.le_of_ble_eq_true rfl) (Nat.le_of_ble_eq_true rfl) (Nat.le_of_ble_eq_true rfl) hlocks (pxXe hS) hS.2.2 (Nat.le_of_ble_eq_true rfl) (Nat.le_of_ble_eq_true rfl)
set_option maxHeartbeats 4000000 in
set_option maxRecDepth 100000 in
theorem k275_L_newDrawer (l : Launch) (hl9 : l.stackTraces = false) (G : pxG) (sz : Nat) (a0 a1 a2 a3 a4 a5 a6 : Nat) (i0 i1 : Int32) (h0 : 0 ≤ i0.toInt ∧ i0.toInt ≤ 2) (h1 : (-2147483648 : Int) ≤ i1.toInt ∧ i1.toInt ≤ 0) : Met l yL_newDrawer (Cond.codeWith yL_newDrawer cL_newDrawer 6 (some .int) [(0, 12, 15, 67), (0, 12, 19, 51)] :: pxAll) ({ frames := 7, cells := 1, slots := 6, locals := 113 } : Room) (va_Pc [.ref a0, .int i0, .int 1, .int i1, .ref a1] (pxPre G [(a0, .inr (5, [.ref a2, .ref a3, .ref a4, .ref a5, .ref a6, .int 0, .int 0, .int (-1)]))] sz)) (pxQi G (fun r => r = 2) (fun q => []) (va_A [(a0, .inr (5, [.ref a2, .ref a3, .ref a4, .ref a5, .ref a6, .int 0, .int 0, .int (-1)]))] sz)) 1 6 (va_A [(a0, .inr (5, [.ref a2, .ref a3, .ref a4, .ref a5, .ref a6, .int 0, .int 0, .int (-1)]))] sz) := by
  refine va_MetW (cc := cL_newDrawer) (maxL := 6) (ret := (some .int)) (hh := [(0, 12, 15, 67), (0, 12, 19, 51)]) (by decide) rfl ?_
  intro p e s m args below meth c s₁ B hml hv
  obtain ⟨rfl, hsz, hG, hZ, hP, hD0⟩ := hv
  have hx := B.exec
  have hb := B.bytes
  have hr := B.returns
  have hts0 := atoms_spec (ws := Cond.codeWith yL_newDrawer cL_newDrawer 6 (some .int) [(0, 12, 15, 67), (0, 12, 19, 51)] :: pxAll) B.pre
  have hts : ∀ w ∈ pxAll, w.before _ s = true := fun w h => hts0 w (List.mem_cons_of_mem _ h)
  have hown : s.vm.findClass RL = some m.cls := findClass_of_methodNamed B.named
  have hlocks := B.notSynchronized
  have hTab := vx_table (x := yL_newDrawer) B (hts0 _ List.mem_cons_self)
  subst hsz
  have hK := hG.1
  have hD := hD0.self (sz := s.heap.size)
  generalize hAe : va_A [(a0, .inr (5, [.ref a2, .ref a3, .ref a4, .ref a5, .ref a6, .int 0, .int 0, .int (-1)]))] s.heap.size = A at hD hZ ⊢
  have hA : ∀ q : Nat, s.heap.size ≤ q → A q := fun q h => by rw [← hAe]; exact Or.inr h
  have hS : va_S A s.heap s.heap [] := va_S.rf
  have hl := lv_entry ([.ref a0, .int i0, .int 1, .int i1, .ref a1]) (n := 6) (Nat.le_of_ble_eq_true rfl)
  rw [lg_entry_eq]
  generalize (lg_sl ([.ref a0, .int i0, .int 1, .int i1, .ref a1]) ++ List.replicate (6 - (lg_sl ([.ref a0, .int i0, .int 1, .int i1, .ref a1])).length) Slot.unset).toArray = ls at hl ⊢
  have hl : lv_has ls 6 [(0, .ref a0), (1, .int i0), (2, .int 1), (3, .int i1), (4, .ref a1)] := hl
  refine lv_aload hx hb dL_newDrawer_0 (lv_at hl 4 rfl) ?_
  refine lv_iconst (v := 0) hx hb dL_newDrawer_2 (by decide) ?_
  refine lv_aload_n hx hb dL_newDrawer_3 rfl (lv_at hl 0 rfl) ?_
  refine lv_iload_n hx hb dL_newDrawer_4 rfl (lv_at hl 1 rfl) ?_
  refine lv_iload_n hx hb dL_newDrawer_5 rfl (lv_at hl 2 rfl) ?_
  refine lv_iload_n hx hb dL_newDrawer_6 rfl (lv_at hl 3 rfl) ?_
  refine pxCx (vx_runV (As := [.int i0, .int 1, .int i1]) (rest := [.int 0, .ref a1]) ⟨hx, hb, hml, hown, hts⟩ (k275_X6_newDrawer l hl9 G s.heap.size a0 a2 a3 a4 a5 a6 i0 i1 ⟨by omega, by omega⟩ ⟨by omega, by omega⟩) (cwV 3 hts (pxGV pm636 pm637 pm638 pm2 pm639) rfl rfl rfl (by decide +kernel) ⟨(Nat.le_of_ble_eq_true rfl), (Nat.le_of_ble_eq_true rfl)⟩) (pxV (ci := 5) (q0 := 0) hG hZ hP hD hS hA [0] rfl (by decide) rfl rfl) rfl rfl hl.1 rfl (lv_room (Nat.le_of_ble_eq_true rfl)) dL_newDrawer_7 ⟨(Nat.le_of_ble_eq_true rfl), (Nat.le_of_ble_eq_true rfl)⟩) hD hS hA [0] rfl (fun ce q9 H locs hS hce hcv hcl => ?_)
  refine vx_catch (own := RL) (name := "java/lang/IllegalArgumentException") (E := "java/lang/IllegalArgumentException") hown [⟨0, 12, 15, 67⟩] ⟨0, 12, 19, 51⟩ [] (by rw [hTab]; rfl) (by intro z hz; rcases List.mem_cons.mp hz with rfl | hz; exact Or.inr ⟨by decide, "java/lang/IndexOutOfBoundsException", hts _ pm437, hG.2.2.2.2.2.1 ("java/lang/IllegalArgumentException", "java/lang/IndexOutOfBoundsException") (by simp [pxNc])⟩; cases hz) (by decide) (by decide) (hts _ pm597) (va_Nw.use rfl (hG.2.2.1 "java/lang/IllegalArgumentException" (by simp [pxBadC]))) hce hcv hcl ?_
  have hP : va_P G.1 pxCl [] H := fun k q h => by simp at h
  have hD : va_D A [] := ⟨fun i j p q h => by simp at h, fun k q h => by simp at h⟩
  refine lv_astore (lv' := [(5, .ref q9), (0, .ref a0), (1, .int i0), (2, .int 1), (3, .int i1), (4, .ref a1)]) hx hb dL_newDrawer_19 hl (by decide) rfl (fun ls hl => ?_)
  refine lv_iconst (v := 2) hx hb dL_newDrawer_21 (by decide) ?_
  refine W.widen (k := 1) (n := 6) (Nat.le_of_ble_eq_true rfl) (Nat.le_of_ble_eq_true rfl) ?_
  exact W.iret (v := 2) hx hb hr (fun t ht hW => ⟨⟨2, (fun _ => 0), rfl, rfl, by rw [ht]; exact hP, hD⟩, hS.F ht⟩) hS.2.2 dL_newDrawer_22
set_option maxHeartbeats 4000000 in
set_option maxRecDepth 100000 in
theorem k278_X7_in (l : Launch) (G : pxG) (sz : Nat) : Met l yX7_in (Cond.code yX7_in cX7_in 3 (some .boolean) :: pxAll) ({ frames := 0, cells := 0, slots := 0, locals := 0 } : Room) (va_Pc [.int 1, .int 0, .int 1] (pxPre G [] sz)) (pxQi G (fun r => r = 1) (fun q => []) (va_A [] sz)) 0 0 (va_A [] sz) := by
  refine Met.ofW (cc := cX7_in) (maxL := 3) (ret := (some .boolean)) (by decide) rfl ?_
  intro p e s m args below meth c s₁ B hml hv
  obtain ⟨rfl, hsz, hG, hZ, hP, hD0⟩ := hv
  have hx := B.exec
  have hb := B.bytes
  have hr := B.returns
  have hts0 := atoms_spec (ws := Cond.code yX7_in cX7_in 3 (some .boolean) :: pxAll) B.pre
  have hts : ∀ w ∈ pxAll, w.before _ s = true := fun w h => hts0 w (List.mem_cons_of_mem _ h)
  have hown : s.vm.findClass RX7 = some m.cls := findClass_of_methodNamed B.named
  have hlocks := B.notSynchronized
  subst hsz
  have hK := hG.1
  have hD := hD0.self (sz := s.heap.size)
  generalize hAe : va_A [] s.heap.size = A at hD hZ ⊢
  have hA : ∀ q : Nat, s.heap.size ≤ q → A q := fun q h => by rw [← hAe]; exact Or.inr h
  have hS : va_S A s.heap s.heap [] := va_S.rf
  have hl := lv_entry ([.int 1, .int 0, .int 1]) (n := 3) (Nat.le_of_ble_eq_true rfl)
  rw [lg_entry_eq]
  generalize (lg_sl ([.int 1, .int 0, .int 1]) ++ List.replicate (3 - (lg_sl ([.int 1, .int 0, .int 1])).length) Slot.unset).toArray = ls at hl ⊢
  have hl : lv_has ls 3 [(0, .int 1), (1, .int 0), (2, .int 1)] := hl
  refine lv_iload_n hx hb dX7_in_0 rfl (lv_at hl 0 rfl) ?_
  refine lv_iload_n hx hb dX7_in_1 rfl (lv_at hl 1 rfl) ?_
  refine lv_icmp_lt (tgt := 14) hx hb dX7_in_2 (by decide) (fun h9 => absurd h9 (by decide)) (fun _ => ?_)
  refine lv_iload_n hx hb dX7_in_5 rfl (lv_at hl 0 rfl) ?_
  refine lv_iload_n hx hb dX7_in_6 rfl (lv_at hl 2 rfl) ?_
  refine lv_icmp_gt (tgt := 14) hx hb dX7_in_7 (by decide) (fun h9 => absurd h9 (by decide)) (fun _ => ?_)
  refine lv_iconst (v := 1) hx hb dX7_in_10 (by decide) ?_
  refine lv_goto (tgt := 15) hx hb dX7_in_11 (by decide) ?_
  refine W.widen (k := 0) (n := 0) (Nat.le_of_ble_eq_true rfl) (Nat.le_of_ble_eq_true rfl) ?_
  exact W.zret (ty := .boolean) (v := 1) hx hb hr rfl (fun t ht hW => ⟨⟨1, (fun _ => 0), rfl, rfl, by rw [ht]; exact hP, hD⟩, hS.F ht⟩) hS.2.2 dX7_in_15
set_option maxHeartbeats 4000000 in
set_option maxRecDepth 100000 in
theorem k278_X7_newDrawer (l : Launch) (G : pxG) (sz : Nat) (a0 a1 a2 a3 a4 a5 a6 a7 a8 a9 a10 a11 : Nat) (i0 i1 : Int32) (h0 : 0 ≤ i0.toInt ∧ i0.toInt ≤ 2) (h1 : (-2147483648 : Int) ≤ i1.toInt ∧ i1.toInt ≤ 0) : Met l yX7_newDrawer (Cond.code yX7_newDrawer cX7_newDrawer 6 (some .int) :: pxAll) ({ frames := 2, cells := 0, slots := 0, locals := 42 } : Room) (va_Pc [.ref a0, .int i0, .int 1, .int i1] (pxPre G [(a0, .inr (6, [.ref a1, .ref a2, .ref a3, .int 0, .ref a4, .int 0, .int 0, .int 0, .int 0, .ref a5, .int 0, .ref a6, .int 0, .int 0, .int 0, .int (-1), .ref a7, .ref a8, .int 0, .ref a9, .ref a10, .ref a11]))] sz)) (pxQi G (fun r => r = 0) (fun q => [(a0, .inr (6, [.ref a1, .ref a2, .ref a3, .int 0, .ref a4, .int 0, .int 0, .int 2, .int 0, .ref a5, .int 0, .ref a6, .int 0, .int 0, .int 0, .int (-1), .ref a7, .ref a8, .int 0, .ref a9, .ref a10, .ref a11]))]) (va_A [(a0, .inr (6, [.ref a1, .ref a2, .ref a3, .int 0, .ref a4, .int 0, .int 0, .int 0, .int 0, .ref a5, .int 0, .ref a6, .int 0, .int 0, .int 0, .int (-1), .ref a7, .ref a8, .int 0, .ref a9, .ref a10, .ref a11]))] sz)) 0 0 (va_A [(a0, .inr (6, [.ref a1, .ref a2, .ref a3, .int 0, .ref a4, .int 0, .int 0, .int 0, .int 0, .ref a5, .int 0, .ref a6, .int 0, .int 0, .int 0, .int (-1), .ref a7, .ref a8, .int 0, .ref a9, .ref a10, .ref a11]))] sz) := by
  refine Met.ofW (cc := cX7_newDrawer) (maxL := 6) (ret := (some .int)) (by decide) rfl ?_
  intro p e s m args below meth c s₁ B hml hv
  obtain ⟨rfl, hsz, hG, hZ, hP, hD0⟩ := hv
  have hx := B.exec
  have hb := B.bytes
  have hr := B.returns
  have hts0 := atoms_spec (ws := Cond.code yX7_newDrawer cX7_newDrawer 6 (some .int) :: pxAll) B.pre
  have hts : ∀ w ∈ pxAll, w.before _ s = true := fun w h => hts0 w (List.mem_cons_of_mem _ h)
  have hown : s.vm.findClass RX7 = some m.cls := findClass_of_methodNamed B.named
  have hlocks := B.notSynchronized
  subst hsz
  have hK := hG.1
  have hD := hD0.self (sz := s.heap.size)
  generalize hAe : va_A [(a0, .inr (6, [.ref a1, .ref a2, .ref a3, .int 0, .ref a4, .int 0, .int 0, .int 0, .int 0, .ref a5, .int 0, .ref a6, .int 0, .int 0, .int 0, .int (-1), .ref a7, .ref a8, .int 0, .ref a9, .ref a10, .ref a11]))] s.heap.size = A at hD hZ ⊢
  have hA : ∀ q : Nat, s.heap.size ≤ q → A q := fun q h => by rw [← hAe]; exact Or.inr h
  have hS : va_S A s.heap s.heap [] := va_S.rf
  have hl := lv_entry ([.ref a0, .int i0, .int 1, .int i1]) (n := 6) (Nat.le_of_ble_eq_true rfl)
  rw [lg_entry_eq]
  generalize (lg_sl ([.ref a0, .int i0, .int 1, .int i1]) ++ List.replicate (6 - (lg_sl ([.ref a0, .int i0, .int 1, .int i1])).length) Slot.unset).toArray = ls at hl ⊢
  have hl : lv_has ls 6 [(0, .ref a0), (1, .int i0), (2, .int 1), (3, .int i1)] := hl
  refine lv_aload_n hx hb dX7_newDrawer_0 rfl (lv_at hl 0 rfl) ?_
  refine lv_iload_n hx hb dX7_newDrawer_1 rfl (lv_at hl 1 rfl) ?_
  refine pxCi (va_runS (As := [.int i0]) (rest := [.ref a0]) ⟨hx, hb, hml, hown, hts⟩ (k236_X7_isDrawer l G s.heap.size i0 ⟨by omega, by omega⟩) (va_cwS 1 hts (pxGS pm643 pm644 pm71 pm645) rfl rfl rfl (by decide +kernel) ⟨(Nat.le_of_ble_eq_true rfl), (Nat.le_of_ble_eq_true rfl)⟩) (pxS hG hZ hP hD hS hA [] rfl (by decide)) rfl rfl hl.1 rfl (lv_room (Nat.le_of_ble_eq_true rfl)) dX7_newDrawer_2 ⟨(Nat.le_of_ble_eq_true rfl), (Nat.le_of_ble_eq_true rfl)⟩) hP hD hS hA [] [0] rfl rfl (by decide) (by decide) (fun r2 q1 H locs hw hP hD hS => ?_)
  have hw : r2 = 1 := hw
  subst hw
  have hP : va_P G.1 pxCl [(a0, .inr (6, [.ref a1, .ref a2, .ref a3, .int 0, .ref a4, .int 0, .int 0, .int 0, .int 0, .ref a5, .int 0, .ref a6, .int 0, .int 0, .int 0, .int (-1), .ref a7, .ref a8, .int 0, .ref a9, .ref a10, .ref a11]))] H := hP
  have hD : va_D A [(a0, .inr (6, [.ref a1, .ref a2, .ref a3, .int 0, .ref a4, .int 0, .int 0, .int 0, .int 0, .ref a5, .int 0, .ref a6, .int 0, .int 0, .int 0, .int (-1), .ref a7, .ref a8, .int 0, .ref a9, .ref a10, .ref a11]))] := hD
  refine lv_if_ne (tgt := 12) hx hb dX7_newDrawer_5 (by decide) (fun _ => ?_) (fun h9 => absurd h9 (by decide))
  refine lv_iload_n hx hb dX7_newDrawer_12 rfl (lv_at hl 2 rfl) ?_
  refine lv_iconst (v := 0) hx hb dX7_newDrawer_13 (by decide) ?_
  refine lv_iconst (v := 1) hx hb dX7_newDrawer_14 (by decide) ?_
  refine pxCi (va_runS (As := [.int 1, .int 0, .int 1]) (rest := [.ref a0]) ⟨hx, hb, hml, hown, hts⟩ (k278_X7_in l G H.size) (va_cwS 3 hts (pxGS pm143 pm144 pm71 pm145) rfl rfl rfl (by decide +kernel) ⟨(Nat.le_of_ble_eq_true rfl), (Nat.le_of_ble_eq_true rfl)⟩) (pxS hG hZ hP hD hS hA [] rfl (by decide)) rfl rfl hl.1 rfl (lv_room (Nat.le_of_ble_eq_true rfl)) dX7_newDrawer_15 ⟨(Nat.le_of_ble_eq_true rfl), (Nat.le_of_ble_eq_true rfl)⟩) hP hD hS hA [] [0] rfl rfl (by decide) (by decide) (fun r4 q3 H locs hw hP hD hS => ?_)
  have hw : r4 = 1 := hw
  subst hw
  have hP : va_P G.1 pxCl [(a0, .inr (6, [.ref a1, .ref a2, .ref a3, .int 0, .ref a4, .int 0, .int 0, .int 0, .int 0, .ref a5, .int 0, .ref a6, .int 0, .int 0, .int 0, .int (-1), .ref a7, .ref a8, .int 0, .ref a9, .ref a10, .ref a11]))] H := hP
  have hD : va_D A [(a0, .inr (6, [.ref a1, .ref a2, .ref a3, .int 0, .ref a4, .int 0, .int 0, .int 0, .int 0, .ref a5, .int 0, .ref a6, .int 0, .int 0, .int 0, .int (-1), .ref a7, .ref a8, .int 0, .ref a9, .ref a10, .ref a11]))] := hD
  refine lv_if_eq (tgt := 31) hx hb dX7_newDrawer_18 (by decide) (fun h9 => absurd h9 (by decide)) (fun _ => ?_)
  refine lv_iload_n hx hb dX7_newDrawer_21 rfl (lv_at hl 3 rfl) ?_
  refine lv_iconst (v := 1) hx hb dX7_newDrawer_22 (by decide) ?_
  refine lv_bipush (v := 6) hx hb dX7_newDrawer_23 (by decide) ?_
  refine pxCi (va_runS (As := [.int i1, .int 1, .int 6]) (rest := [.ref a0]) ⟨hx, hb, hml, hown, hts⟩ (k245_X7_in l G H.size i1 ⟨by omega, by omega⟩) (va_cwS 3 hts (pxGS pm143 pm144 pm71 pm145) rfl rfl rfl (by decide +kernel) ⟨(Nat.le_of_ble_eq_true rfl), (Nat.le_of_ble_eq_true rfl)⟩) (pxS hG hZ hP hD hS hA [] rfl (by decide)) rfl rfl hl.1 rfl (lv_room (Nat.le_of_ble_eq_true rfl)) dX7_newDrawer_25 ⟨(Nat.le_of_ble_eq_true rfl), (Nat.le_of_ble_eq_true rfl)⟩) hP hD hS hA [] [0] rfl rfl (by decide) (by decide) (fun r6 q5 H locs hw hP hD hS => ?_)
  have hw : r6 = 0 := hw
  subst hw
  have hP : va_P G.1 pxCl [(a0, .inr (6, [.ref a1, .ref a2, .ref a3, .int 0, .ref a4, .int 0, .int 0, .int 0, .int 0, .ref a5, .int 0, .ref a6, .int 0, .int 0, .int 0, .int (-1), .ref a7, .ref a8, .int 0, .ref a9, .ref a10, .ref a11]))] H := hP
  have hD : va_D A [(a0, .inr (6, [.ref a1, .ref a2, .ref a3, .int 0, .ref a4, .int 0, .int 0, .int 0, .int 0, .ref a5, .int 0, .ref a6, .int 0, .int 0, .int 0, .int (-1), .ref a7, .ref a8, .int 0, .ref a9, .ref a10, .ref a11]))] := hD
  refine lv_if_ne (tgt := 35) hx hb dX7_newDrawer_28 (by decide) (fun h9 => absurd h9 (by decide)) (fun _ => ?_)
  refine lv_iconst (v := 2) hx hb dX7_newDrawer_31 (by decide) ?_
  refine lv_goto (tgt := 36) hx hb dX7_newDrawer_32 (by decide) ?_
  refine va_put (D := G.1) (ci := 6) (v := .int 2) (ty := .int) (C := RX7) (T := TX7) (N := 22) hx hb hts piX7 tyX7 tyX7_ok nmX7 hown hK hP hD hS 0 rfl rfl 7 (by decide) (hts _ pm150) (fun _ h9 => h9) rfl (by decide +kernel) rfl rfl (Nat.le_of_ble_eq_true rfl) dX7_newDrawer_36 (fun H locs hP hD hS => ?_)
  have hP : va_P G.1 pxCl [(a0, .inr (6, [.ref a1, .ref a2, .ref a3, .int 0, .ref a4, .int 0, .int 0, .int 2, .int 0, .ref a5, .int 0, .ref a6, .int 0, .int 0, .int 0, .int (-1), .ref a7, .ref a8, .int 0, .ref a9, .ref a10, .ref a11]))] H := hP
  have hD : va_D A [(a0, .inr (6, [.ref a1, .ref a2, .ref a3, .int 0, .ref a4, .int 0, .int 0, .int 2, .int 0, .ref a5, .int 0, .ref a6, .int 0, .int 0, .int 0, .int (-1), .ref a7, .ref a8, .int 0, .ref a9, .ref a10, .ref a11]))] := hD
  refine lv_aload_n hx hb dX7_newDrawer_39 rfl (lv_at hl 0 rfl) ?_
  refine va_get (D := G.1) (ci := 6) (v := .int 2) (C := RX7) (T := TX7) (N := 22) hx hb hts piX7 hown hK hP 0 rfl rfl 7 (by decide) (hts _ pm150) (fun _ h9 => h9) rfl dX7_newDrawer_40 ?_
  refine lv_if_le (tgt := 48) hx hb dX7_newDrawer_43 (by decide) (fun h9 => absurd h9 (by decide)) (fun _ => ?_)
  refine lv_iconst (v := 0) hx hb dX7_newDrawer_46 (by decide) ?_
  refine W.widen (k := 0) (n := 0) (Nat.le_of_ble_eq_true rfl) (Nat.le_of_ble_eq_true rfl) ?_
  exact W.iret (v := 0) hx hb hr (fun t ht hW => ⟨⟨0, (fun _ => 0), rfl, rfl, by rw [ht]; exact hP, hD⟩, hS.F ht⟩) hS.2.2 dX7_newDrawer_47
set_option maxHeartbeats 4000000 in
set_option maxRecDepth 100000 in
theorem k280_X1_renew (l : Launch) (G : pxG) (sz : Nat) (a0 a1 a2 : Nat) (i0 : Int32) : Met l yX1_renew (Cond.code yX1_renew cX1_renew 4 (some .int) :: pxAll) ({ frames := 1, cells := 0, slots := 0, locals := 23 } : Room) (va_Pc [.ref a0, .int 1, .int i0] (pxPre G [(a0, .inr (0, [.ref a1, .ref a2, .int 0, .int 0])), (a1, .inl (G.2.1 0, 6, .inl (fun _ => 0)))] sz)) (pxQi G (fun r => r = 0) (fun q => [(a0, .inr (0, [.ref a1, .ref a2, .int 1, .int i0])), (a1, .inl (G.2.1 0, 6, .inl (upd (upd (upd (upd (upd (upd (fun _ => 0) 0 (-1)) 1 (-1)) 2 (-1)) 3 (-1)) 4 (-1)) 5 (-1))))]) (va_A [(a0, .inr (0, [.ref a1, .ref a2, .int 0, .int 0])), (a1, .inl (G.2.1 0, 6, .inl (fun _ => 0)))] sz)) 0 0 (va_A [(a0, .inr (0, [.ref a1, .ref a2, .int 0, .int 0])), (a1, .inl (G.2.1 0, 6, .inl (fun _ => 0)))] sz) := by
  refine Met.ofW (cc := cX1_renew) (maxL := 4) (ret := (some .int)) (by decide) rfl ?_
  intro p e s m args below meth c s₁ B hml hv
  obtain ⟨rfl, hsz, hG, hZ, hP, hD0⟩ := hv
  have hx := B.exec
  have hb := B.bytes
  have hr := B.returns
  have hts0 := atoms_spec (ws := Cond.code yX1_renew cX1_renew 4 (some .int) :: pxAll) B.pre
  have hts : ∀ w ∈ pxAll, w.before _ s = true := fun w h => hts0 w (List.mem_cons_of_mem _ h)
  have hown : s.vm.findClass RX1 = some m.cls := findClass_of_methodNamed B.named
  have hlocks := B.notSynchronized
  subst hsz
  have hK := hG.1
  have hD := hD0.self (sz := s.heap.size)
  generalize hAe : va_A [(a0, .inr (0, [.ref a1, .ref a2, .int 0, .int 0])), (a1, .inl (G.2.1 0, 6, .inl (fun _ => 0)))] s.heap.size = A at hD hZ ⊢
  have hA : ∀ q : Nat, s.heap.size ≤ q → A q := fun q h => by rw [← hAe]; exact Or.inr h
  have hS : va_S A s.heap s.heap [] := va_S.rf
  have hl := lv_entry ([.ref a0, .int 1, .int i0]) (n := 4) (Nat.le_of_ble_eq_true rfl)
  rw [lg_entry_eq]
  generalize (lg_sl ([.ref a0, .int 1, .int i0]) ++ List.replicate (4 - (lg_sl ([.ref a0, .int 1, .int i0])).length) Slot.unset).toArray = ls at hl ⊢
  have hl : lv_has ls 4 [(0, .ref a0), (1, .int 1), (2, .int i0)] := hl
  refine lv_aload_n hx hb dX1_renew_0 rfl (lv_at hl 0 rfl) ?_
  refine va_get (D := G.1) (ci := 0) (v := .int 0) (C := RX1) (T := TX1) (N := 4) hx hb hts piX1 hown hK hP 0 rfl rfl 3 (by decide) (hts _ pm653) (fun _ h9 => h9) rfl dX1_renew_1 ?_
  refine lv_istore_n (lv' := [(3, .int 0), (0, .ref a0), (1, .int 1), (2, .int i0)]) hx hb dX1_renew_4 rfl hl (by decide) rfl (fun ls hl => ?_)
  refine lv_aload_n hx hb dX1_renew_5 rfl (lv_at hl 1 rfl) ?_
  refine va_get (D := G.1) (ci := 0) (v := .ref a1) (C := RX1) (T := TX1) (N := 4) hx hb hts piX1 hown hK hP 0 rfl rfl 0 (by decide) (hts _ pm62) (fun _ h9 => h9) rfl dX1_renew_6 ?_
  refine lv_iconst (v := (-1)) hx hb dX1_renew_9 (by decide) ?_
  refine pxCv (va_runS (As := [.ref a1, .int (-1)]) (rest := []) ⟨hx, hb, hml, hown, hts⟩ (k247_J7_fill_53178 l G s.heap.size a1) (va_cwS 2 hts (pxGS pm654 pm655 pm656 pm657) rfl rfl rfl (by decide +kernel) ⟨(Nat.le_of_ble_eq_true rfl), (Nat.le_of_ble_eq_true rfl)⟩) (pxS hG hZ hP hD hS hA [1] rfl (by decide)) rfl rfl hl.1 rfl (lv_room (Nat.le_of_ble_eq_true rfl)) dX1_renew_10 ⟨(Nat.le_of_ble_eq_true rfl), (Nat.le_of_ble_eq_true rfl)⟩) hP hD hS hA [1] [0] rfl rfl (by decide) (by decide) (fun q1 H locs hP hD hS => ?_)
  have hP : va_P G.1 pxCl [(a0, .inr (0, [.ref a1, .ref a2, .int 0, .int 0])), (a1, .inl (G.2.1 0, 6, .inl (upd (upd (upd (upd (upd (upd (fun _ => 0) 0 (-1)) 1 (-1)) 2 (-1)) 3 (-1)) 4 (-1)) 5 (-1))))] H := hP
  have hD : va_D A [(a0, .inr (0, [.ref a1, .ref a2, .int 0, .int 0])), (a1, .inl (G.2.1 0, 6, .inl (upd (upd (upd (upd (upd (upd (fun _ => 0) 0 (-1)) 1 (-1)) 2 (-1)) 3 (-1)) 4 (-1)) 5 (-1))))] := hD
  refine lv_aload_n hx hb dX1_renew_13 rfl (lv_at hl 1 rfl) ?_
  refine lv_iload_n hx hb dX1_renew_14 rfl (lv_at hl 2 rfl) ?_
  refine va_put (D := G.1) (ci := 0) (v := .int 1) (ty := .int) (C := RX1) (T := TX1) (N := 4) hx hb hts piX1 tyX1 tyX1_ok nmX1 hown hK hP hD hS 0 rfl rfl 2 (by decide) (hts _ pm658) (fun _ h9 => h9) rfl (by decide +kernel) rfl rfl (Nat.le_of_ble_eq_true rfl) dX1_renew_15 (fun H locs hP hD hS => ?_)
  have hP : va_P G.1 pxCl [(a0, .inr (0, [.ref a1, .ref a2, .int 1, .int 0])), (a1, .inl (G.2.1 0, 6, .inl (upd (upd (upd (upd (upd (upd (fun _ => 0) 0 (-1)) 1 (-1)) 2 (-1)) 3 (-1)) 4 (-1)) 5 (-1))))] H := hP
  have hD : va_D A [(a0, .inr (0, [.ref a1, .ref a2, .int 1, .int 0])), (a1, .inl (G.2.1 0, 6, .inl (upd (upd (upd (upd (upd (upd (fun _ => 0) 0 (-1)) 1 (-1)) 2 (-1)) 3 (-1)) 4 (-1)) 5 (-1))))] := hD
  refine lv_aload_n hx hb dX1_renew_18 rfl (lv_at hl 1 rfl) ?_
  refine lv_iload_n hx hb dX1_renew_19 rfl (lv_at hl 3 rfl) ?_
  refine va_put (D := G.1) (ci := 0) (v := .int i0) (ty := .int) (C := RX1) (T := TX1) (N := 4) hx hb hts piX1 tyX1 tyX1_ok nmX1 hown hK hP hD hS 0 rfl rfl 3 (by decide) (hts _ pm653) (fun _ h9 => h9) rfl (by decide +kernel) rfl rfl (Nat.le_of_ble_eq_true rfl) dX1_renew_20 (fun H locs hP hD hS => ?_)
  have hP : va_P G.1 pxCl [(a0, .inr (0, [.ref a1, .ref a2, .int 1, .int i0])), (a1, .inl (G.2.1 0, 6, .inl (upd (upd (upd (upd (upd (upd (fun _ => 0) 0 (-1)) 1 (-1)) 2 (-1)) 3 (-1)) 4 (-1)) 5 (-1))))] H := hP
  have hD : va_D A [(a0, .inr (0, [.ref a1, .ref a2, .int 1, .int i0])), (a1, .inl (G.2.1 0, 6, .inl (upd (upd (upd (upd (upd (upd (fun _ => 0) 0 (-1)) 1 (-1)) 2 (-1)) 3 (-1)) 4 (-1)) 5 (-1))))] := hD
  refine lv_iload_n hx hb dX1_renew_23 rfl (lv_at hl 0 rfl) ?_
  refine W.widen (k := 0) (n := 0) (Nat.le_of_ble_eq_true rfl) (Nat.le_of_ble_eq_true rfl) ?_
  exact W.iret (v := 0) hx hb hr (fun t ht hW => ⟨⟨0, (fun _ => 0), rfl, rfl, by rw [ht]; exact hP, hD⟩, hS.F ht⟩) hS.2.2 dX1_renew_24
set_option maxHeartbeats 4000000 in
set_option maxRecDepth 100000 in
theorem k280_X6_newDrawer (l : Launch) (G : pxG) (sz : Nat) (a0 a1 a2 a3 a4 a5 a6 a7 a8 a9 a10 a11 a12 a13 a14 : Nat) (i0 i1 : Int32) (h0 : 0 ≤ i0.toInt ∧ i0.toInt ≤ 2) (h1 : 1 ≤ i1.toInt ∧ i1.toInt ≤ 6) : Met l yX6_newDrawer (Cond.code yX6_newDrawer cX6_newDrawer 4 (some .int) :: pxAll) ({ frames := 2, cells := 0, slots := 0, locals := 46 } : Room) (va_Pc [.ref a0, .int i0, .int 1, .int i1] (pxPre G [(a0, .inr (5, [.ref a8, .ref a9, .ref a10, .ref a11, .ref a1, .int 0, .int 0, .int (-1)])), (a1, .inl (G.2.1 6, 3, .inr (.inr (.inr (.inr (va_up (va_up (va_up (fun _ => none) 0 (some a2)) 1 (some a4)) 2 (some a6))))))), (a2, .inr (0, [.ref a3, .ref a12, .int 0, .int 0])), (a3, .inl (G.2.1 0, 6, .inl (fun _ => 0))), (a4, .inr (0, [.ref a5, .ref a13, .int 0, .int 0])), (a5, .inl (G.2.1 0, 6, .inl (fun _ => 0))), (a6, .inr (0, [.ref a7, .ref a14, .int 0, .int 0])), (a7, .inl (G.2.1 0, 6, .inl (fun _ => 0)))] sz)) (pxQi G (fun r => r = 0) (fun q => []) (va_A [(a0, .inr (5, [.ref a8, .ref a9, .ref a10, .ref a11, .ref a1, .int 0, .int 0, .int (-1)])), (a1, .inl (G.2.1 6, 3, .inr (.inr (.inr (.inr (va_up (va_up (va_up (fun _ => none) 0 (some a2)) 1 (some a4)) 2 (some a6))))))), (a2, .inr (0, [.ref a3, .ref a12, .int 0, .int 0])), (a3, .inl (G.2.1 0, 6, .inl (fun _ => 0))), (a4, .inr (0, [.ref a5, .ref a13, .int 0, .int 0])), (a5, .inl (G.2.1 0, 6, .inl (fun _ => 0))), (a6, .inr (0, [.ref a7, .ref a14, .int 0, .int 0])), (a7, .inl (G.2.1 0, 6, .inl (fun _ => 0)))] sz)) 0 0 (va_A [(a0, .inr (5, [.ref a8, .ref a9, .ref a10, .ref a11, .ref a1, .int 0, .int 0, .int (-1)])), (a1, .inl (G.2.1 6, 3, .inr (.inr (.inr (.inr (va_up (va_up (va_up (fun _ => none) 0 (some a2)) 1 (some a4)) 2 (some a6))))))), (a2, .inr (0, [.ref a3, .ref a12, .int 0, .int 0])), (a3, .inl (G.2.1 0, 6, .inl (fun _ => 0))), (a4, .inr (0, [.ref a5, .ref a13, .int 0, .int 0])), (a5, .inl (G.2.1 0, 6, .inl (fun _ => 0))), (a6, .inr (0, [.ref a7, .ref a14, .int 0, .int 0])), (a7, .inl (G.2.1 0, 6, .inl (fun _ => 0)))] sz) := by
  refine Met.ofW (cc := cX6_newDrawer) (maxL := 4) (ret := (some .int)) (by decide) rfl ?_
  intro p e s m args below meth c s₁ B hml hv
  obtain ⟨rfl, hsz, hG, hZ, hP, hD0⟩ := hv
  have hx := B.exec
  have hb := B.bytes
  have hr := B.returns
  have hts0 := atoms_spec (ws := Cond.code yX6_newDrawer cX6_newDrawer 4 (some .int) :: pxAll) B.pre
  have hts : ∀ w ∈ pxAll, w.before _ s = true := fun w h => hts0 w (List.mem_cons_of_mem _ h)
  have hown : s.vm.findClass RX6 = some m.cls := findClass_of_methodNamed B.named
  have hlocks := B.notSynchronized
  subst hsz
  have hK := hG.1
  have hD := hD0.self (sz := s.heap.size)
  generalize hAe : va_A [(a0, .inr (5, [.ref a8, .ref a9, .ref a10, .ref a11, .ref a1, .int 0, .int 0, .int (-1)])), (a1, .inl (G.2.1 6, 3, .inr (.inr (.inr (.inr (va_up (va_up (va_up (fun _ => none) 0 (some a2)) 1 (some a4)) 2 (some a6))))))), (a2, .inr (0, [.ref a3, .ref a12, .int 0, .int 0])), (a3, .inl (G.2.1 0, 6, .inl (fun _ => 0))), (a4, .inr (0, [.ref a5, .ref a13, .int 0, .int 0])), (a5, .inl (G.2.1 0, 6, .inl (fun _ => 0))), (a6, .inr (0, [.ref a7, .ref a14, .int 0, .int 0])), (a7, .inl (G.2.1 0, 6, .inl (fun _ => 0)))] s.heap.size = A at hD hZ ⊢
  have hA : ∀ q : Nat, s.heap.size ≤ q → A q := fun q h => by rw [← hAe]; exact Or.inr h
  have hS : va_S A s.heap s.heap [] := va_S.rf
  have hl := lv_entry ([.ref a0, .int i0, .int 1, .int i1]) (n := 4) (Nat.le_of_ble_eq_true rfl)
  rw [lg_entry_eq]
  generalize (lg_sl ([.ref a0, .int i0, .int 1, .int i1]) ++ List.replicate (4 - (lg_sl ([.ref a0, .int i0, .int 1, .int i1])).length) Slot.unset).toArray = ls at hl ⊢
  have hl : lv_has ls 4 [(0, .ref a0), (1, .int i0), (2, .int 1), (3, .int i1)] := hl
  have r0 := pxRng i0
  have r1 := pxRng i1
  refine lv_aload_n hx hb dX6_newDrawer_0 rfl (lv_at hl 0 rfl) ?_
  refine lv_iload_n hx hb dX6_newDrawer_1 rfl (lv_at hl 1 rfl) ?_
  refine pxCv (va_runV (As := [.int i0]) (rest := []) ⟨hx, hb, hml, hown, hts⟩ (k232_X6_requireDrawer l G s.heap.size a0 i0 ⟨by omega, by omega⟩) (cwV 1 hts (pxGV pm632 pm633 pm634 pm2 pm635) rfl rfl rfl (by decide +kernel) ⟨(Nat.le_of_ble_eq_true rfl), (Nat.le_of_ble_eq_true rfl)⟩) (pxV (ci := 5) (q0 := 0) hG hZ hP hD hS hA [] rfl (by decide) rfl rfl) rfl rfl hl.1 rfl (lv_room (Nat.le_of_ble_eq_true rfl)) dX6_newDrawer_2 ⟨(Nat.le_of_ble_eq_true rfl), (Nat.le_of_ble_eq_true rfl)⟩) hP hD hS hA [] [0, 1, 2, 3, 4, 5, 6, 7] rfl rfl (by decide) (by decide) (fun q1 H locs hP hD hS => ?_)
  have hP : va_P G.1 pxCl [(a0, .inr (5, [.ref a8, .ref a9, .ref a10, .ref a11, .ref a1, .int 0, .int 0, .int (-1)])), (a1, .inl (G.2.1 6, 3, .inr (.inr (.inr (.inr (va_up (va_up (va_up (fun _ => none) 0 (some a2)) 1 (some a4)) 2 (some a6))))))), (a2, .inr (0, [.ref a3, .ref a12, .int 0, .int 0])), (a3, .inl (G.2.1 0, 6, .inl (fun _ => 0))), (a4, .inr (0, [.ref a5, .ref a13, .int 0, .int 0])), (a5, .inl (G.2.1 0, 6, .inl (fun _ => 0))), (a6, .inr (0, [.ref a7, .ref a14, .int 0, .int 0])), (a7, .inl (G.2.1 0, 6, .inl (fun _ => 0)))] H := hP
  have hD : va_D A [(a0, .inr (5, [.ref a8, .ref a9, .ref a10, .ref a11, .ref a1, .int 0, .int 0, .int (-1)])), (a1, .inl (G.2.1 6, 3, .inr (.inr (.inr (.inr (va_up (va_up (va_up (fun _ => none) 0 (some a2)) 1 (some a4)) 2 (some a6))))))), (a2, .inr (0, [.ref a3, .ref a12, .int 0, .int 0])), (a3, .inl (G.2.1 0, 6, .inl (fun _ => 0))), (a4, .inr (0, [.ref a5, .ref a13, .int 0, .int 0])), (a5, .inl (G.2.1 0, 6, .inl (fun _ => 0))), (a6, .inr (0, [.ref a7, .ref a14, .int 0, .int 0])), (a7, .inl (G.2.1 0, 6, .inl (fun _ => 0)))] := hD
  refine lv_iload_n hx hb dX6_newDrawer_5 rfl (lv_at hl 2 rfl) ?_
  refine pxCi (va_runS (As := [.int 1]) (rest := []) ⟨hx, hb, hml, hown, hts⟩ (k275_X6_isSort l G H.size) (va_cwS 1 hts (pxGS pm650 pm651 pm2 pm652) rfl rfl rfl (by decide +kernel) ⟨(Nat.le_of_ble_eq_true rfl), (Nat.le_of_ble_eq_true rfl)⟩) (pxS hG hZ hP hD hS hA [] rfl (by decide)) rfl rfl hl.1 rfl (lv_room (Nat.le_of_ble_eq_true rfl)) dX6_newDrawer_6 ⟨(Nat.le_of_ble_eq_true rfl), (Nat.le_of_ble_eq_true rfl)⟩) hP hD hS hA [] [0, 1, 2, 3, 4, 5, 6, 7] rfl rfl (by decide) (by decide) (fun r4 q3 H locs hw hP hD hS => ?_)
  have hw : r4 = 1 := hw
  subst hw
  have hP : va_P G.1 pxCl [(a0, .inr (5, [.ref a8, .ref a9, .ref a10, .ref a11, .ref a1, .int 0, .int 0, .int (-1)])), (a1, .inl (G.2.1 6, 3, .inr (.inr (.inr (.inr (va_up (va_up (va_up (fun _ => none) 0 (some a2)) 1 (some a4)) 2 (some a6))))))), (a2, .inr (0, [.ref a3, .ref a12, .int 0, .int 0])), (a3, .inl (G.2.1 0, 6, .inl (fun _ => 0))), (a4, .inr (0, [.ref a5, .ref a13, .int 0, .int 0])), (a5, .inl (G.2.1 0, 6, .inl (fun _ => 0))), (a6, .inr (0, [.ref a7, .ref a14, .int 0, .int 0])), (a7, .inl (G.2.1 0, 6, .inl (fun _ => 0)))] H := hP
  have hD : va_D A [(a0, .inr (5, [.ref a8, .ref a9, .ref a10, .ref a11, .ref a1, .int 0, .int 0, .int (-1)])), (a1, .inl (G.2.1 6, 3, .inr (.inr (.inr (.inr (va_up (va_up (va_up (fun _ => none) 0 (some a2)) 1 (some a4)) 2 (some a6))))))), (a2, .inr (0, [.ref a3, .ref a12, .int 0, .int 0])), (a3, .inl (G.2.1 0, 6, .inl (fun _ => 0))), (a4, .inr (0, [.ref a5, .ref a13, .int 0, .int 0])), (a5, .inl (G.2.1 0, 6, .inl (fun _ => 0))), (a6, .inr (0, [.ref a7, .ref a14, .int 0, .int 0])), (a7, .inl (G.2.1 0, 6, .inl (fun _ => 0)))] := hD
  refine lv_if_eq (tgt := 23) hx hb dX6_newDrawer_9 (by decide) (fun h9 => absurd h9 (by decide)) (fun _ => ?_)
  refine lv_iload_n hx hb dX6_newDrawer_12 rfl (lv_at hl 3 rfl) ?_
  refine lv_iconst (v := 1) hx hb dX6_newDrawer_13 (by decide) ?_
  refine lv_icmp_lt (tgt := 23) hx hb dX6_newDrawer_14 (by decide) (fun h9 => absurd h9 (pxNlt 1 (by decide) (by omega))) (fun _ => ?_)
  refine lv_iload_n hx hb dX6_newDrawer_17 rfl (lv_at hl 3 rfl) ?_
  refine lv_bipush (v := 6) hx hb dX6_newDrawer_18 (by decide) ?_
  refine lv_icmp_le (tgt := 34) hx hb dX6_newDrawer_20 (by decide) (fun _ => ?_) (fun h9 => absurd (pxLe 6 (by decide) (by omega)) h9)
  refine lv_aload_n hx hb dX6_newDrawer_34 rfl (lv_at hl 0 rfl) ?_
  refine va_get (D := G.1) (ci := 5) (v := .ref a1) (C := RX6) (T := TX6) (N := 8) hx hb hts piX6 hown hK hP 0 rfl rfl 4 (by decide) (hts _ pm57) (fun _ h9 => h9) rfl dX6_newDrawer_35 ?_
  refine lv_iload_n hx hb dX6_newDrawer_38 rfl (lv_at hl 1 rfl) ?_
  rcases Int.lt_or_le i0.toInt 1 with f1 | f1
  · skip
    obtain rfl : i0 = 0 := pxEq 0 (by have h9 : (0 : Int32).toInt = 0 := (by decide); omega)
    refine va_aldq hx hb hK hP 1 6 rfl rfl (show ¬ ((0 : Int32) < 0 ∨ 3 ≤ (0 : Int32).toNatClampNeg) by decide +kernel) dX6_newDrawer_39 ?_
    refine pxTop (w := .ref a2) rfl ?_
    refine lv_iload_n hx hb dX6_newDrawer_40 rfl (lv_at hl 2 rfl) ?_
    refine lv_iload_n hx hb dX6_newDrawer_41 rfl (lv_at hl 3 rfl) ?_
    refine pxCi (va_runV (As := [.int 1, .int i1]) (rest := []) ⟨hx, hb, hml, hown, hts⟩ (k280_X1_renew l G H.size a2 a3 a12 i1) (cwV 2 hts (pxGV pm659 pm660 pm661 pm60 pm662) rfl rfl rfl (by decide +kernel) ⟨(Nat.le_of_ble_eq_true rfl), (Nat.le_of_ble_eq_true rfl)⟩) (pxV (ci := 0) (q0 := 2) hG hZ hP hD hS hA [2, 3] rfl (by decide) rfl rfl) rfl rfl hl.1 rfl (lv_room (Nat.le_of_ble_eq_true rfl)) dX6_newDrawer_42 ⟨(Nat.le_of_ble_eq_true rfl), (Nat.le_of_ble_eq_true rfl)⟩) hP hD hS hA [2, 3] [0, 1, 4, 5, 6, 7] rfl rfl (by decide) (by decide) (fun r6 q5 H locs hw hP hD hS => ?_)
    have hw : r6 = 0 := hw
    subst hw
    have hP : va_P G.1 pxCl [(a0, .inr (5, [.ref a8, .ref a9, .ref a10, .ref a11, .ref a1, .int 0, .int 0, .int (-1)])), (a1, .inl (G.2.1 6, 3, .inr (.inr (.inr (.inr (va_up (va_up (va_up (fun _ => none) 0 (some a2)) 1 (some a4)) 2 (some a6))))))), (a4, .inr (0, [.ref a5, .ref a13, .int 0, .int 0])), (a5, .inl (G.2.1 0, 6, .inl (fun _ => 0))), (a6, .inr (0, [.ref a7, .ref a14, .int 0, .int 0])), (a7, .inl (G.2.1 0, 6, .inl (fun _ => 0))), (a2, .inr (0, [.ref a3, .ref a12, .int 1, .int i1])), (a3, .inl (G.2.1 0, 6, .inl (upd (upd (upd (upd (upd (upd (fun _ => 0) 0 (-1)) 1 (-1)) 2 (-1)) 3 (-1)) 4 (-1)) 5 (-1))))] H := hP
    have hD : va_D A [(a0, .inr (5, [.ref a8, .ref a9, .ref a10, .ref a11, .ref a1, .int 0, .int 0, .int (-1)])), (a1, .inl (G.2.1 6, 3, .inr (.inr (.inr (.inr (va_up (va_up (va_up (fun _ => none) 0 (some a2)) 1 (some a4)) 2 (some a6))))))), (a4, .inr (0, [.ref a5, .ref a13, .int 0, .int 0])), (a5, .inl (G.2.1 0, 6, .inl (fun _ => 0))), (a6, .inr (0, [.ref a7, .ref a14, .int 0, .int 0])), (a7, .inl (G.2.1 0, 6, .inl (fun _ => 0))), (a2, .inr (0, [.ref a3, .ref a12, .int 1, .int i1])), (a3, .inl (G.2.1 0, 6, .inl (upd (upd (upd (upd (upd (upd (fun _ => 0) 0 (-1)) 1 (-1)) 2 (-1)) 3 (-1)) 4 (-1)) 5 (-1))))] := hD
    have hD : va_D A [] := hD.sub [] (by decide) rfl
    have hP : va_P G.1 pxCl [] H := hP.sub [] rfl
    refine W.widen (k := 0) (n := 0) (Nat.le_of_ble_eq_true rfl) (Nat.le_of_ble_eq_true rfl) ?_
    exact W.iret (v := 0) hx hb hr (fun t ht hW => ⟨⟨0, (fun _ => 0), rfl, rfl, by rw [ht]; exact hP, hD⟩, hS.F ht⟩) hS.2.2 dX6_newDrawer_45
  · skip
    rcases Int.lt_or_le i0.toInt 2 with f2 | f2
    · skip
      obtain rfl : i0 = 1 := pxEq 1 (by have h9 : (1 : Int32).toInt = 1 := (by decide); omega)
      refine va_aldq hx hb hK hP 1 6 rfl rfl (show ¬ ((1 : Int32) < 0 ∨ 3 ≤ (1 : Int32).toNatClampNeg) by decide +kernel) dX6_newDrawer_39 ?_
      refine pxTop (w := .ref a4) rfl ?_
      refine lv_iload_n hx hb dX6_newDrawer_40 rfl (lv_at hl 2 rfl) ?_
      refine lv_iload_n hx hb dX6_newDrawer_41 rfl (lv_at hl 3 rfl) ?_
      refine pxCi (va_runV (As := [.int 1, .int i1]) (rest := []) ⟨hx, hb, hml, hown, hts⟩ (k280_X1_renew l G H.size a4 a5 a13 i1) (cwV 2 hts (pxGV pm659 pm660 pm661 pm60 pm662) rfl rfl rfl (by decide +kernel) ⟨(Nat.le_of_ble_eq_true rfl), (Nat.le_of_ble_eq_true rfl)⟩) (pxV (ci := 0) (q0 := 4) hG hZ hP hD hS hA [4, 5] rfl (by decide) rfl rfl) rfl rfl hl.1 rfl (lv_room (Nat.le_of_ble_eq_true rfl)) dX6_newDrawer_42 ⟨(Nat.le_of_ble_eq_true rfl), (Nat.le_of_ble_eq_true rfl)⟩) hP hD hS hA [4, 5] [0, 1, 2, 3, 6, 7] rfl rfl (by decide) (by decide) (fun r6 q5 H locs hw hP hD hS => ?_)
      have hw : r6 = 0 := hw
      subst hw
      have hP : va_P G.1 pxCl [(a0, .inr (5, [.ref a8, .ref a9, .ref a10, .ref a11, .ref a1, .int 0, .int 0, .int (-1)])), (a1, .inl (G.2.1 6, 3, .inr (.inr (.inr (.inr (va_up (va_up (va_up (fun _ => none) 0 (some a2)) 1 (some a4)) 2 (some a6))))))), (a2, .inr (0, [.ref a3, .ref a12, .int 0, .int 0])), (a3, .inl (G.2.1 0, 6, .inl (fun _ => 0))), (a6, .inr (0, [.ref a7, .ref a14, .int 0, .int 0])), (a7, .inl (G.2.1 0, 6, .inl (fun _ => 0))), (a4, .inr (0, [.ref a5, .ref a13, .int 1, .int i1])), (a5, .inl (G.2.1 0, 6, .inl (upd (upd (upd (upd (upd (upd (fun _ => 0) 0 (-1)) 1 (-1)) 2 (-1)) 3 (-1)) 4 (-1)) 5 (-1))))] H := hP
      have hD : va_D A [(a0, .inr (5, [.ref a8, .ref a9, .ref a10, .ref a11, .ref a1, .int 0, .int 0, .int (-1)])), (a1, .inl (G.2.1 6, 3, .inr (.inr (.inr (.inr (va_up (va_up (va_up (fun _ => none) 0 (some a2)) 1 (some a4)) 2 (some a6))))))), (a2, .inr (0, [.ref a3, .ref a12, .int 0, .int 0])), (a3, .inl (G.2.1 0, 6, .inl (fun _ => 0))), (a6, .inr (0, [.ref a7, .ref a14, .int 0, .int 0])), (a7, .inl (G.2.1 0, 6, .inl (fun _ => 0))), (a4, .inr (0, [.ref a5, .ref a13, .int 1, .int i1])), (a5, .inl (G.2.1 0, 6, .inl (upd (upd (upd (upd (upd (upd (fun _ => 0) 0 (-1)) 1 (-1)) 2 (-1)) 3 (-1)) 4 (-1)) 5 (-1))))] := hD
      have hD : va_D A [] := hD.sub [] (by decide) rfl
      have hP : va_P G.1 pxCl [] H := hP.sub [] rfl
      refine W.widen (k := 0) (n := 0) (Nat.le_of_ble_eq_true rfl) (Nat.le_of_ble_eq_true rfl) ?_
      exact W.iret (v := 0) hx hb hr (fun t ht hW => ⟨⟨0, (fun _ => 0), rfl, rfl, by rw [ht]; exact hP, hD⟩, hS.F ht⟩) hS.2.2 dX6_newDrawer_45
    · skip
      obtain rfl : i0 = 2 := pxEq 2 (by have h9 : (2 : Int32).toInt = 2 := (by decide); omega)
      refine va_aldq hx hb hK hP 1 6 rfl rfl (show ¬ ((2 : Int32) < 0 ∨ 3 ≤ (2 : Int32).toNatClampNeg) by decide +kernel) dX6_newDrawer_39 ?_
      refine pxTop (w := .ref a6) rfl ?_
      refine lv_iload_n hx hb dX6_newDrawer_40 rfl (lv_at hl 2 rfl) ?_
      refine lv_iload_n hx hb dX6_newDrawer_41 rfl (lv_at hl 3 rfl) ?_
      refine pxCi (va_runV (As := [.int 1, .int i1]) (rest := []) ⟨hx, hb, hml, hown, hts⟩ (k280_X1_renew l G H.size a6 a7 a14 i1) (cwV 2 hts (pxGV pm659 pm660 pm661 pm60 pm662) rfl rfl rfl (by decide +kernel) ⟨(Nat.le_of_ble_eq_true rfl), (Nat.le_of_ble_eq_true rfl)⟩) (pxV (ci := 0) (q0 := 6) hG hZ hP hD hS hA [6, 7] rfl (by decide) rfl rfl) rfl rfl hl.1 rfl (lv_room (Nat.le_of_ble_eq_true rfl)) dX6_newDrawer_42 ⟨(Nat.le_of_ble_eq_true rfl), (Nat.le_of_ble_eq_true rfl)⟩) hP hD hS hA [6, 7] [0, 1, 2, 3, 4, 5] rfl rfl (by decide) (by decide) (fun r6 q5 H locs hw hP hD hS => ?_)
      have hw : r6 = 0 := hw
      subst hw
      have hP : va_P G.1 pxCl [(a0, .inr (5, [.ref a8, .ref a9, .ref a10, .ref a11, .ref a1, .int 0, .int 0, .int (-1)])), (a1, .inl (G.2.1 6, 3, .inr (.inr (.inr (.inr (va_up (va_up (va_up (fun _ => none) 0 (some a2)) 1 (some a4)) 2 (some a6))))))), (a2, .inr (0, [.ref a3, .ref a12, .int 0, .int 0])), (a3, .inl (G.2.1 0, 6, .inl (fun _ => 0))), (a4, .inr (0, [.ref a5, .ref a13, .int 0, .int 0])), (a5, .inl (G.2.1 0, 6, .inl (fun _ => 0))), (a6, .inr (0, [.ref a7, .ref a14, .int 1, .int i1])), (a7, .inl (G.2.1 0, 6, .inl (upd (upd (upd (upd (upd (upd (fun _ => 0) 0 (-1)) 1 (-1)) 2 (-1)) 3 (-1)) 4 (-1)) 5 (-1))))] H := hP
      have hD : va_D A [(a0, .inr (5, [.ref a8, .ref a9, .ref a10, .ref a11, .ref a1, .int 0, .int 0, .int (-1)])), (a1, .inl (G.2.1 6, 3, .inr (.inr (.inr (.inr (va_up (va_up (va_up (fun _ => none) 0 (some a2)) 1 (some a4)) 2 (some a6))))))), (a2, .inr (0, [.ref a3, .ref a12, .int 0, .int 0])), (a3, .inl (G.2.1 0, 6, .inl (fun _ => 0))), (a4, .inr (0, [.ref a5, .ref a13, .int 0, .int 0])), (a5, .inl (G.2.1 0, 6, .inl (fun _ => 0))), (a6, .inr (0, [.ref a7, .ref a14, .int 1, .int i1])), (a7, .inl (G.2.1 0, 6, .inl (upd (upd (upd (upd (upd (upd (fun _ => 0) 0 (-1)) 1 (-1)) 2 (-1)) 3 (-1)) 4 (-1)) 5 (-1))))] := hD
      have hD : va_D A [] := hD.sub [] (by decide) rfl
      have hP : va_P G.1 pxCl [] H := hP.sub [] rfl
      refine W.widen (k := 0) (n := 0) (Nat.le_of_ble_eq_true rfl) (Nat.le_of_ble_eq_true rfl) ?_
      exact W.iret (v := 0) hx hb hr (fun t ht hW => ⟨⟨0, (fun _ => 0), rfl, rfl, by rw [ht]; exact hP, hD⟩, hS.F ht⟩) hS.2.2 dX6_newDrawer_45
set_option maxHeartbeats 4000000 in
set_option maxRecDepth 100000 in
theorem k280_L_newDrawer (l : Launch) (G : pxG) (sz : Nat) (a0 a1 a2 a3 a4 a5 a6 a7 a8 a9 a10 a11 a12 a13 a14 a15 : Nat) (i0 i1 : Int32) (h0 : 0 ≤ i0.toInt ∧ i0.toInt ≤ 2) (h1 : 1 ≤ i1.toInt ∧ i1.toInt ≤ 6) : Met l yL_newDrawer (Cond.codeWith yL_newDrawer cL_newDrawer 6 (some .int) [(0, 12, 15, 67), (0, 12, 19, 51)] :: pxAll) ({ frames := 3, cells := 0, slots := 0, locals := 69 } : Room) (va_Pc [.ref a0, .int i0, .int 1, .int i1, .ref a8] (pxPre G [(a0, .inr (5, [.ref a9, .ref a10, .ref a11, .ref a12, .ref a1, .int 0, .int 0, .int (-1)])), (a1, .inl (G.2.1 6, 3, .inr (.inr (.inr (.inr (va_up (va_up (va_up (fun _ => none) 0 (some a2)) 1 (some a4)) 2 (some a6))))))), (a2, .inr (0, [.ref a3, .ref a13, .int 0, .int 0])), (a3, .inl (G.2.1 0, 6, .inl (fun _ => 0))), (a4, .inr (0, [.ref a5, .ref a14, .int 0, .int 0])), (a5, .inl (G.2.1 0, 6, .inl (fun _ => 0))), (a6, .inr (0, [.ref a7, .ref a15, .int 0, .int 0])), (a7, .inl (G.2.1 0, 6, .inl (fun _ => 0))), (a8, .inl (G.2.1 1, 1, .inr (.inl (fun _ => 0))))] sz)) (pxQi G (fun r => r = 0) (fun q => [(a8, .inl (G.2.1 1, 1, .inr (.inl (vp_updL (fun _ => 0) 0 0))))]) (va_A [(a0, .inr (5, [.ref a9, .ref a10, .ref a11, .ref a12, .ref a1, .int 0, .int 0, .int (-1)])), (a1, .inl (G.2.1 6, 3, .inr (.inr (.inr (.inr (va_up (va_up (va_up (fun _ => none) 0 (some a2)) 1 (some a4)) 2 (some a6))))))), (a2, .inr (0, [.ref a3, .ref a13, .int 0, .int 0])), (a3, .inl (G.2.1 0, 6, .inl (fun _ => 0))), (a4, .inr (0, [.ref a5, .ref a14, .int 0, .int 0])), (a5, .inl (G.2.1 0, 6, .inl (fun _ => 0))), (a6, .inr (0, [.ref a7, .ref a15, .int 0, .int 0])), (a7, .inl (G.2.1 0, 6, .inl (fun _ => 0))), (a8, .inl (G.2.1 1, 1, .inr (.inl (fun _ => 0))))] sz)) 0 0 (va_A [(a0, .inr (5, [.ref a9, .ref a10, .ref a11, .ref a12, .ref a1, .int 0, .int 0, .int (-1)])), (a1, .inl (G.2.1 6, 3, .inr (.inr (.inr (.inr (va_up (va_up (va_up (fun _ => none) 0 (some a2)) 1 (some a4)) 2 (some a6))))))), (a2, .inr (0, [.ref a3, .ref a13, .int 0, .int 0])), (a3, .inl (G.2.1 0, 6, .inl (fun _ => 0))), (a4, .inr (0, [.ref a5, .ref a14, .int 0, .int 0])), (a5, .inl (G.2.1 0, 6, .inl (fun _ => 0))), (a6, .inr (0, [.ref a7, .ref a15, .int 0, .int 0])), (a7, .inl (G.2.1 0, 6, .inl (fun _ => 0))), (a8, .inl (G.2.1 1, 1, .inr (.inl (fun _ => 0))))] sz) := by
  refine va_MetW (cc := cL_newDrawer) (maxL := 6) (ret := (some .int)) (hh := [(0, 12, 15, 67), (0, 12, 19, 51)]) (by decide) rfl ?_
  intro p e s m args below meth c s₁ B hml hv
  obtain ⟨rfl, hsz, hG, hZ, hP, hD0⟩ := hv
  have hx := B.exec
  have hb := B.bytes
  have hr := B.returns
  have hts0 := atoms_spec (ws := Cond.codeWith yL_newDrawer cL_newDrawer 6 (some .int) [(0, 12, 15, 67), (0, 12, 19, 51)] :: pxAll) B.pre
  have hts : ∀ w ∈ pxAll, w.before _ s = true := fun w h => hts0 w (List.mem_cons_of_mem _ h)
  have hown : s.vm.findClass RL = some m.cls := findClass_of_methodNamed B.named
  have hlocks := B.notSynchronized
  have hTab := vx_table (x := yL_newDrawer) B (hts0 _ List.mem_cons_self)
  subst hsz
  have hK := hG.1
  have hD := hD0.self (sz := s.heap.size)
  generalize hAe : va_A [(a0, .inr (5, [.ref a9, .ref a10, .ref a11, .ref a12, .ref a1, .int 0, .int 0, .int (-1)])), (a1, .inl (G.2.1 6, 3, .inr (.inr (.inr (.inr (va_up (va_up (va_up (fun _ => none) 0 (some a2)) 1 (some a4)) 2 (some a6))))))), (a2, .inr (0, [.ref a3, .ref a13, .int 0, .int 0])), (a3, .inl (G.2.1 0, 6, .inl (fun _ => 0))), (a4, .inr (0, [.ref a5, .ref a14, .int 0, .int 0])), (a5, .inl (G.2.1 0, 6, .inl (fun _ => 0))), (a6, .inr (0, [.ref a7, .ref a15, .int 0, .int 0])), (a7, .inl (G.2.1 0, 6, .inl (fun _ => 0))), (a8, .inl (G.2.1 1, 1, .inr (.inl (fun _ => 0))))] s.heap.size = A at hD hZ ⊢
  have hA : ∀ q : Nat, s.heap.size ≤ q → A q := fun q h => by rw [← hAe]; exact Or.inr h
  have hS : va_S A s.heap s.heap [] := va_S.rf
  have hl := lv_entry ([.ref a0, .int i0, .int 1, .int i1, .ref a8]) (n := 6) (Nat.le_of_ble_eq_true rfl)
  rw [lg_entry_eq]
  generalize (lg_sl ([.ref a0, .int i0, .int 1, .int i1, .ref a8]) ++ List.replicate (6 - (lg_sl ([.ref a0, .int i0, .int 1, .int i1, .ref a8])).length) Slot.unset).toArray = ls at hl ⊢
  have hl : lv_has ls 6 [(0, .ref a0), (1, .int i0), (2, .int 1), (3, .int i1), (4, .ref a8)] := hl
  refine lv_aload hx hb dL_newDrawer_0 (lv_at hl 4 rfl) ?_
  refine lv_iconst (v := 0) hx hb dL_newDrawer_2 (by decide) ?_
  refine lv_aload_n hx hb dL_newDrawer_3 rfl (lv_at hl 0 rfl) ?_
  refine lv_iload_n hx hb dL_newDrawer_4 rfl (lv_at hl 1 rfl) ?_
  refine lv_iload_n hx hb dL_newDrawer_5 rfl (lv_at hl 2 rfl) ?_
  refine lv_iload_n hx hb dL_newDrawer_6 rfl (lv_at hl 3 rfl) ?_
  refine pxCi (va_runV (As := [.int i0, .int 1, .int i1]) (rest := [.int 0, .ref a8]) ⟨hx, hb, hml, hown, hts⟩ (k280_X6_newDrawer l G s.heap.size a0 a1 a2 a3 a4 a5 a6 a7 a9 a10 a11 a12 a13 a14 a15 i0 i1 ⟨by omega, by omega⟩ ⟨by omega, by omega⟩) (cwV 3 hts (pxGV pm636 pm637 pm638 pm2 pm639) rfl rfl rfl (by decide +kernel) ⟨(Nat.le_of_ble_eq_true rfl), (Nat.le_of_ble_eq_true rfl)⟩) (pxV (ci := 5) (q0 := 0) hG hZ hP hD hS hA [0, 1, 2, 3, 4, 5, 6, 7] rfl (by decide) rfl rfl) rfl rfl hl.1 rfl (lv_room (Nat.le_of_ble_eq_true rfl)) dL_newDrawer_7 ⟨(Nat.le_of_ble_eq_true rfl), (Nat.le_of_ble_eq_true rfl)⟩) hP hD hS hA [0, 1, 2, 3, 4, 5, 6, 7] [8] rfl rfl (by decide) (by decide) (fun r2 q1 H locs hw hP hD hS => ?_)
  have hw : r2 = 0 := hw
  subst hw
  have hP : va_P G.1 pxCl [(a8, .inl (G.2.1 1, 1, .inr (.inl (fun _ => 0))))] H := hP
  have hD : va_D A [(a8, .inl (G.2.1 1, 1, .inr (.inl (fun _ => 0))))] := hD
  refine lv_i2l (v := 0) hx hb dL_newDrawer_10 (by decide) ?_
  refine va_last hx hb hK hP hD hS 0 1 rfl rfl (show ¬ ((0 : Int32) < 0 ∨ 1 ≤ (0 : Int32).toNatClampNeg) by decide +kernel) dL_newDrawer_11 (fun H locs hP hD hS => ?_)
  have hP : va_P G.1 pxCl [(a8, .inl (G.2.1 1, 1, .inr (.inl (vp_updL (fun _ => 0) 0 0))))] H := hP
  have hD : va_D A [(a8, .inl (G.2.1 1, 1, .inr (.inl (vp_updL (fun _ => 0) 0 0))))] := hD
  refine lv_goto (tgt := 23) hx hb dL_newDrawer_12 (by decide) ?_
  refine lv_iconst (v := 0) hx hb dL_newDrawer_23 (by decide) ?_
  refine W.widen (k := 0) (n := 0) (Nat.le_of_ble_eq_true rfl) (Nat.le_of_ble_eq_true rfl) ?_
  exact W.iret (v := 0) hx hb hr (fun t ht hW => ⟨⟨0, (fun _ => 0), rfl, rfl, by rw [ht]; exact hP, hD⟩, hS.F ht⟩) hS.2.2 dL_newDrawer_24
set_option maxHeartbeats 4000000 in
set_option maxRecDepth 100000 in
theorem k283_X7_newDrawer (l : Launch) (G : pxG) (sz : Nat) (a0 a1 a2 a3 a4 a5 a6 a7 a8 a9 a10 a11 : Nat) (i0 i1 : Int32) (h0 : 0 ≤ i0.toInt ∧ i0.toInt ≤ 2) (h1 : 1 ≤ i1.toInt ∧ i1.toInt ≤ 6) : Met l yX7_newDrawer (Cond.code yX7_newDrawer cX7_newDrawer 6 (some .int) :: pxAll) ({ frames := 2, cells := 0, slots := 0, locals := 42 } : Room) (va_Pc [.ref a0, .int i0, .int 1, .int i1] (pxPre G [(a0, .inr (6, [.ref a4, .ref a5, .ref a6, .int 0, .ref a7, .int 0, .int 0, .int 0, .int 0, .ref a8, .int 0, .ref a9, .int 0, .int 0, .int 0, .int (-1), .ref a10, .ref a11, .int 0, .ref a1, .ref a2, .ref a3])), (a1, .inl (G.2.1 0, 3, .inl (fun _ => 0))), (a2, .inl (G.2.1 0, 3, .inl (fun _ => 0))), (a3, .inl (G.2.1 0, 36, .inl (fun _ => 0)))] sz)) (pxQi G (fun r => r = 0) (fun q => [(a0, .inr (6, [.ref a4, .ref a5, .ref a6, .int 0, .ref a7, .int 0, .int 0, .int 0, .int 0, .ref a8, .int 0, .ref a9, .int 0, .int 0, .int 0, .int (-1), .ref a10, .ref a11, .int 0, .ref a1, .ref a2, .ref a3]))]) (va_A [(a0, .inr (6, [.ref a4, .ref a5, .ref a6, .int 0, .ref a7, .int 0, .int 0, .int 0, .int 0, .ref a8, .int 0, .ref a9, .int 0, .int 0, .int 0, .int (-1), .ref a10, .ref a11, .int 0, .ref a1, .ref a2, .ref a3])), (a1, .inl (G.2.1 0, 3, .inl (fun _ => 0))), (a2, .inl (G.2.1 0, 3, .inl (fun _ => 0))), (a3, .inl (G.2.1 0, 36, .inl (fun _ => 0)))] sz)) 0 0 (va_A [(a0, .inr (6, [.ref a4, .ref a5, .ref a6, .int 0, .ref a7, .int 0, .int 0, .int 0, .int 0, .ref a8, .int 0, .ref a9, .int 0, .int 0, .int 0, .int (-1), .ref a10, .ref a11, .int 0, .ref a1, .ref a2, .ref a3])), (a1, .inl (G.2.1 0, 3, .inl (fun _ => 0))), (a2, .inl (G.2.1 0, 3, .inl (fun _ => 0))), (a3, .inl (G.2.1 0, 36, .inl (fun _ => 0)))] sz) := by
  refine Met.ofW (cc := cX7_newDrawer) (maxL := 6) (ret := (some .int)) (by decide) rfl ?_
  intro p e s m args below meth c s₁ B hml hv
  obtain ⟨rfl, hsz, hG, hZ, hP, hD0⟩ := hv
  have hx := B.exec
  have hb := B.bytes
  have hr := B.returns
  have hts0 := atoms_spec (ws := Cond.code yX7_newDrawer cX7_newDrawer 6 (some .int) :: pxAll) B.pre
  have hts : ∀ w ∈ pxAll, w.before _ s = true := fun w h => hts0 w (List.mem_cons_of_mem _ h)
  have hown : s.vm.findClass RX7 = some m.cls := findClass_of_methodNamed B.named
  have hlocks := B.notSynchronized
  subst hsz
  have hK := hG.1
  have hD := hD0.self (sz := s.heap.size)
  generalize hAe : va_A [(a0, .inr (6, [.ref a4, .ref a5, .ref a6, .int 0, .ref a7, .int 0, .int 0, .int 0, .int 0, .ref a8, .int 0, .ref a9, .int 0, .int 0, .int 0, .int (-1), .ref a10, .ref a11, .int 0, .ref a1, .ref a2, .ref a3])), (a1, .inl (G.2.1 0, 3, .inl (fun _ => 0))), (a2, .inl (G.2.1 0, 3, .inl (fun _ => 0))), (a3, .inl (G.2.1 0, 36, .inl (fun _ => 0)))] s.heap.size = A at hD hZ ⊢
  have hA : ∀ q : Nat, s.heap.size ≤ q → A q := fun q h => by rw [← hAe]; exact Or.inr h
  have hS : va_S A s.heap s.heap [] := va_S.rf
  have hl := lv_entry ([.ref a0, .int i0, .int 1, .int i1]) (n := 6) (Nat.le_of_ble_eq_true rfl)
  rw [lg_entry_eq]
  generalize (lg_sl ([.ref a0, .int i0, .int 1, .int i1]) ++ List.replicate (6 - (lg_sl ([.ref a0, .int i0, .int 1, .int i1])).length) Slot.unset).toArray = ls at hl ⊢
  have hl : lv_has ls 6 [(0, .ref a0), (1, .int i0), (2, .int 1), (3, .int i1)] := hl
  have r0 := pxRng i0
  have r1 := pxRng i1
  refine lv_aload_n hx hb dX7_newDrawer_0 rfl (lv_at hl 0 rfl) ?_
  refine lv_iload_n hx hb dX7_newDrawer_1 rfl (lv_at hl 1 rfl) ?_
  refine pxCi (va_runS (As := [.int i0]) (rest := [.ref a0]) ⟨hx, hb, hml, hown, hts⟩ (k236_X7_isDrawer l G s.heap.size i0 ⟨by omega, by omega⟩) (va_cwS 1 hts (pxGS pm643 pm644 pm71 pm645) rfl rfl rfl (by decide +kernel) ⟨(Nat.le_of_ble_eq_true rfl), (Nat.le_of_ble_eq_true rfl)⟩) (pxS hG hZ hP hD hS hA [] rfl (by decide)) rfl rfl hl.1 rfl (lv_room (Nat.le_of_ble_eq_true rfl)) dX7_newDrawer_2 ⟨(Nat.le_of_ble_eq_true rfl), (Nat.le_of_ble_eq_true rfl)⟩) hP hD hS hA [] [0, 1, 2, 3] rfl rfl (by decide) (by decide) (fun r2 q1 H locs hw hP hD hS => ?_)
  have hw : r2 = 1 := hw
  subst hw
  have hP : va_P G.1 pxCl [(a0, .inr (6, [.ref a4, .ref a5, .ref a6, .int 0, .ref a7, .int 0, .int 0, .int 0, .int 0, .ref a8, .int 0, .ref a9, .int 0, .int 0, .int 0, .int (-1), .ref a10, .ref a11, .int 0, .ref a1, .ref a2, .ref a3])), (a1, .inl (G.2.1 0, 3, .inl (fun _ => 0))), (a2, .inl (G.2.1 0, 3, .inl (fun _ => 0))), (a3, .inl (G.2.1 0, 36, .inl (fun _ => 0)))] H := hP
  have hD : va_D A [(a0, .inr (6, [.ref a4, .ref a5, .ref a6, .int 0, .ref a7, .int 0, .int 0, .int 0, .int 0, .ref a8, .int 0, .ref a9, .int 0, .int 0, .int 0, .int (-1), .ref a10, .ref a11, .int 0, .ref a1, .ref a2, .ref a3])), (a1, .inl (G.2.1 0, 3, .inl (fun _ => 0))), (a2, .inl (G.2.1 0, 3, .inl (fun _ => 0))), (a3, .inl (G.2.1 0, 36, .inl (fun _ => 0)))] := hD
  refine lv_if_ne (tgt := 12) hx hb dX7_newDrawer_5 (by decide) (fun _ => ?_) (fun h9 => absurd h9 (by decide))
  refine lv_iload_n hx hb dX7_newDrawer_12 rfl (lv_at hl 2 rfl) ?_
  refine lv_iconst (v := 0) hx hb dX7_newDrawer_13 (by decide) ?_
  refine lv_iconst (v := 1) hx hb dX7_newDrawer_14 (by decide) ?_
  refine pxCi (va_runS (As := [.int 1, .int 0, .int 1]) (rest := [.ref a0]) ⟨hx, hb, hml, hown, hts⟩ (k278_X7_in l G H.size) (va_cwS 3 hts (pxGS pm143 pm144 pm71 pm145) rfl rfl rfl (by decide +kernel) ⟨(Nat.le_of_ble_eq_true rfl), (Nat.le_of_ble_eq_true rfl)⟩) (pxS hG hZ hP hD hS hA [] rfl (by decide)) rfl rfl hl.1 rfl (lv_room (Nat.le_of_ble_eq_true rfl)) dX7_newDrawer_15 ⟨(Nat.le_of_ble_eq_true rfl), (Nat.le_of_ble_eq_true rfl)⟩) hP hD hS hA [] [0, 1, 2, 3] rfl rfl (by decide) (by decide) (fun r4 q3 H locs hw hP hD hS => ?_)
  have hw : r4 = 1 := hw
  subst hw
  have hP : va_P G.1 pxCl [(a0, .inr (6, [.ref a4, .ref a5, .ref a6, .int 0, .ref a7, .int 0, .int 0, .int 0, .int 0, .ref a8, .int 0, .ref a9, .int 0, .int 0, .int 0, .int (-1), .ref a10, .ref a11, .int 0, .ref a1, .ref a2, .ref a3])), (a1, .inl (G.2.1 0, 3, .inl (fun _ => 0))), (a2, .inl (G.2.1 0, 3, .inl (fun _ => 0))), (a3, .inl (G.2.1 0, 36, .inl (fun _ => 0)))] H := hP
  have hD : va_D A [(a0, .inr (6, [.ref a4, .ref a5, .ref a6, .int 0, .ref a7, .int 0, .int 0, .int 0, .int 0, .ref a8, .int 0, .ref a9, .int 0, .int 0, .int 0, .int (-1), .ref a10, .ref a11, .int 0, .ref a1, .ref a2, .ref a3])), (a1, .inl (G.2.1 0, 3, .inl (fun _ => 0))), (a2, .inl (G.2.1 0, 3, .inl (fun _ => 0))), (a3, .inl (G.2.1 0, 36, .inl (fun _ => 0)))] := hD
  refine lv_if_eq (tgt := 31) hx hb dX7_newDrawer_18 (by decide) (fun h9 => absurd h9 (by decide)) (fun _ => ?_)
  refine lv_iload_n hx hb dX7_newDrawer_21 rfl (lv_at hl 3 rfl) ?_
  refine lv_iconst (v := 1) hx hb dX7_newDrawer_22 (by decide) ?_
  refine lv_bipush (v := 6) hx hb dX7_newDrawer_23 (by decide) ?_
  refine pxCi (va_runS (As := [.int i1, .int 1, .int 6]) (rest := [.ref a0]) ⟨hx, hb, hml, hown, hts⟩ (k251_X7_in l G H.size i1 ⟨by omega, by omega⟩) (va_cwS 3 hts (pxGS pm143 pm144 pm71 pm145) rfl rfl rfl (by decide +kernel) ⟨(Nat.le_of_ble_eq_true rfl), (Nat.le_of_ble_eq_true rfl)⟩) (pxS hG hZ hP hD hS hA [] rfl (by decide)) rfl rfl hl.1 rfl (lv_room (Nat.le_of_ble_eq_true rfl)) dX7_newDrawer_25 ⟨(Nat.le_of_ble_eq_true rfl), (Nat.le_of_ble_eq_true rfl)⟩) hP hD hS hA [] [0, 1, 2, 3] rfl rfl (by decide) (by decide) (fun r6 q5 H locs hw hP hD hS => ?_)
  have hw : r6 = 1 := hw
  subst hw
  have hP : va_P G.1 pxCl [(a0, .inr (6, [.ref a4, .ref a5, .ref a6, .int 0, .ref a7, .int 0, .int 0, .int 0, .int 0, .ref a8, .int 0, .ref a9, .int 0, .int 0, .int 0, .int (-1), .ref a10, .ref a11, .int 0, .ref a1, .ref a2, .ref a3])), (a1, .inl (G.2.1 0, 3, .inl (fun _ => 0))), (a2, .inl (G.2.1 0, 3, .inl (fun _ => 0))), (a3, .inl (G.2.1 0, 36, .inl (fun _ => 0)))] H := hP
  have hD : va_D A [(a0, .inr (6, [.ref a4, .ref a5, .ref a6, .int 0, .ref a7, .int 0, .int 0, .int 0, .int 0, .ref a8, .int 0, .ref a9, .int 0, .int 0, .int 0, .int (-1), .ref a10, .ref a11, .int 0, .ref a1, .ref a2, .ref a3])), (a1, .inl (G.2.1 0, 3, .inl (fun _ => 0))), (a2, .inl (G.2.1 0, 3, .inl (fun _ => 0))), (a3, .inl (G.2.1 0, 36, .inl (fun _ => 0)))] := hD
  refine lv_if_ne (tgt := 35) hx hb dX7_newDrawer_28 (by decide) (fun _ => ?_) (fun h9 => absurd h9 (by decide))
  refine lv_iconst (v := 0) hx hb dX7_newDrawer_35 (by decide) ?_
  refine va_put (D := G.1) (ci := 6) (v := .int 0) (ty := .int) (C := RX7) (T := TX7) (N := 22) hx hb hts piX7 tyX7 tyX7_ok nmX7 hown hK hP hD hS 0 rfl rfl 7 (by decide) (hts _ pm150) (fun _ h9 => h9) rfl (by decide +kernel) rfl rfl (Nat.le_of_ble_eq_true rfl) dX7_newDrawer_36 (fun H locs hP hD hS => ?_)
  have hP : va_P G.1 pxCl [(a0, .inr (6, [.ref a4, .ref a5, .ref a6, .int 0, .ref a7, .int 0, .int 0, .int 0, .int 0, .ref a8, .int 0, .ref a9, .int 0, .int 0, .int 0, .int (-1), .ref a10, .ref a11, .int 0, .ref a1, .ref a2, .ref a3])), (a1, .inl (G.2.1 0, 3, .inl (fun _ => 0))), (a2, .inl (G.2.1 0, 3, .inl (fun _ => 0))), (a3, .inl (G.2.1 0, 36, .inl (fun _ => 0)))] H := hP
  have hD : va_D A [(a0, .inr (6, [.ref a4, .ref a5, .ref a6, .int 0, .ref a7, .int 0, .int 0, .int 0, .int 0, .ref a8, .int 0, .ref a9, .int 0, .int 0, .int 0, .int (-1), .ref a10, .ref a11, .int 0, .ref a1, .ref a2, .ref a3])), (a1, .inl (G.2.1 0, 3, .inl (fun _ => 0))), (a2, .inl (G.2.1 0, 3, .inl (fun _ => 0))), (a3, .inl (G.2.1 0, 36, .inl (fun _ => 0)))] := hD
  refine lv_aload_n hx hb dX7_newDrawer_39 rfl (lv_at hl 0 rfl) ?_
  refine va_get (D := G.1) (ci := 6) (v := .int 0) (C := RX7) (T := TX7) (N := 22) hx hb hts piX7 hown hK hP 0 rfl rfl 7 (by decide) (hts _ pm150) (fun _ h9 => h9) rfl dX7_newDrawer_40 ?_
  refine lv_if_le (tgt := 48) hx hb dX7_newDrawer_43 (by decide) (fun _ => ?_) (fun h9 => absurd (by decide) h9)
  refine lv_aload_n hx hb dX7_newDrawer_48 rfl (lv_at hl 0 rfl) ?_
  refine va_get (D := G.1) (ci := 6) (v := .ref a1) (C := RX7) (T := TX7) (N := 22) hx hb hts piX7 hown hK hP 0 rfl rfl 19 (by decide) (hts _ pm83) (fun _ h9 => h9) rfl dX7_newDrawer_49 ?_
  refine lv_iload_n hx hb dX7_newDrawer_52 rfl (lv_at hl 1 rfl) ?_
  refine va_iald hx hb hK hP 1 0 rfl rfl (vp_in_iff.mpr ⟨by omega, by omega⟩) dX7_newDrawer_53 ?_
  refine pxTop (w := .int 0) rfl ?_
  refine lv_istore (lv' := [(4, .int 0), (0, .ref a0), (1, .int i0), (2, .int 1), (3, .int i1)]) hx hb dX7_newDrawer_54 hl (by decide) rfl (fun ls hl => ?_)
  refine lv_aload_n hx hb dX7_newDrawer_56 rfl (lv_at hl 1 rfl) ?_
  refine va_get (D := G.1) (ci := 6) (v := .ref a1) (C := RX7) (T := TX7) (N := 22) hx hb hts piX7 hown hK hP 0 rfl rfl 19 (by decide) (hts _ pm83) (fun _ h9 => h9) rfl dX7_newDrawer_57 ?_
  refine lv_iload_n hx hb dX7_newDrawer_60 rfl (lv_at hl 2 rfl) ?_
  refine lv_iload_n hx hb dX7_newDrawer_61 rfl (lv_at hl 4 rfl) ?_
  rcases Int.lt_or_le i0.toInt 1 with f1 | f1
  · skip
    obtain rfl : i0 = 0 := pxEq 0 (by have h9 : (0 : Int32).toInt = 0 := (by decide); omega)
    refine va_iast hx hb hK hP hD hS 1 0 rfl rfl (show ¬ ((0 : Int32) < 0 ∨ 3 ≤ (0 : Int32).toNatClampNeg) by decide +kernel) dX7_newDrawer_62 (fun H locs hP hD hS => ?_)
    have hP : va_P G.1 pxCl [(a0, .inr (6, [.ref a4, .ref a5, .ref a6, .int 0, .ref a7, .int 0, .int 0, .int 0, .int 0, .ref a8, .int 0, .ref a9, .int 0, .int 0, .int 0, .int (-1), .ref a10, .ref a11, .int 0, .ref a1, .ref a2, .ref a3])), (a1, .inl (G.2.1 0, 3, .inl (upd (fun _ => 0) 0 i1))), (a2, .inl (G.2.1 0, 3, .inl (fun _ => 0))), (a3, .inl (G.2.1 0, 36, .inl (fun _ => 0)))] H := hP
    have hD : va_D A [(a0, .inr (6, [.ref a4, .ref a5, .ref a6, .int 0, .ref a7, .int 0, .int 0, .int 0, .int 0, .ref a8, .int 0, .ref a9, .int 0, .int 0, .int 0, .int (-1), .ref a10, .ref a11, .int 0, .ref a1, .ref a2, .ref a3])), (a1, .inl (G.2.1 0, 3, .inl (upd (fun _ => 0) 0 i1))), (a2, .inl (G.2.1 0, 3, .inl (fun _ => 0))), (a3, .inl (G.2.1 0, 36, .inl (fun _ => 0)))] := hD
    refine lv_aload_n hx hb dX7_newDrawer_63 rfl (lv_at hl 1 rfl) ?_
    refine va_get (D := G.1) (ci := 6) (v := .ref a2) (C := RX7) (T := TX7) (N := 22) hx hb hts piX7 hown hK hP 0 rfl rfl 20 (by decide) (hts _ pm84) (fun _ h9 => h9) rfl dX7_newDrawer_64 ?_
    refine lv_iload_n hx hb dX7_newDrawer_67 rfl (lv_at hl 2 rfl) ?_
    refine lv_iload_n hx hb dX7_newDrawer_68 rfl (lv_at hl 3 rfl) ?_
    refine va_iast hx hb hK hP hD hS 2 0 rfl rfl (show ¬ ((0 : Int32) < 0 ∨ 3 ≤ (0 : Int32).toNatClampNeg) by decide +kernel) dX7_newDrawer_69 (fun H locs hP hD hS => ?_)
    have hP : va_P G.1 pxCl [(a0, .inr (6, [.ref a4, .ref a5, .ref a6, .int 0, .ref a7, .int 0, .int 0, .int 0, .int 0, .ref a8, .int 0, .ref a9, .int 0, .int 0, .int 0, .int (-1), .ref a10, .ref a11, .int 0, .ref a1, .ref a2, .ref a3])), (a1, .inl (G.2.1 0, 3, .inl (upd (fun _ => 0) 0 i1))), (a2, .inl (G.2.1 0, 3, .inl (upd (fun _ => 0) 0 1))), (a3, .inl (G.2.1 0, 36, .inl (fun _ => 0)))] H := hP
    have hD : va_D A [(a0, .inr (6, [.ref a4, .ref a5, .ref a6, .int 0, .ref a7, .int 0, .int 0, .int 0, .int 0, .ref a8, .int 0, .ref a9, .int 0, .int 0, .int 0, .int (-1), .ref a10, .ref a11, .int 0, .ref a1, .ref a2, .ref a3])), (a1, .inl (G.2.1 0, 3, .inl (upd (fun _ => 0) 0 i1))), (a2, .inl (G.2.1 0, 3, .inl (upd (fun _ => 0) 0 1))), (a3, .inl (G.2.1 0, 36, .inl (fun _ => 0)))] := hD
    refine lv_iconst (v := 0) hx hb dX7_newDrawer_70 (by decide) ?_
    refine lv_istore (lv' := [(5, .int 0), (4, .int 0), (0, .ref a0), (1, .int 0), (2, .int 1), (3, .int i1)]) hx hb dX7_newDrawer_71 hl (by decide) rfl (fun ls hl => ?_)
    refine lv_iload hx hb dX7_newDrawer_73 (lv_at hl 0 rfl) ?_
    refine lv_bipush (v := 6) hx hb dX7_newDrawer_75 (by decide) ?_
    refine lv_icmp_ge (tgt := 98) hx hb dX7_newDrawer_77 (by decide) (fun h9 => absurd h9 (by decide)) (fun _ => ?_)
    refine lv_aload_n hx hb dX7_newDrawer_80 rfl (lv_at hl 2 rfl) ?_
    refine va_get (D := G.1) (ci := 6) (v := .ref a3) (C := RX7) (T := TX7) (N := 22) hx hb hts piX7 hown hK hP 0 rfl rfl 21 (by decide) (hts _ pm85) (fun _ h9 => h9) rfl dX7_newDrawer_81 ?_
    refine lv_iload_n hx hb dX7_newDrawer_84 rfl (lv_at hl 3 rfl) ?_
    refine lv_iload hx hb dX7_newDrawer_85 (lv_at hl 0 rfl) ?_
    refine pxCi (va_runS (As := [.int 0, .int 0]) (rest := [.ref a3]) ⟨hx, hb, hml, hown, hts⟩ (k252_X7_filedAt l G H.size) (va_cwS 2 hts (pxGS pm663 pm664 pm71 pm665) rfl rfl rfl (by decide +kernel) ⟨(Nat.le_of_ble_eq_true rfl), (Nat.le_of_ble_eq_true rfl)⟩) (pxS hG hZ hP hD hS hA [] rfl (by decide)) rfl rfl hl.1 rfl (lv_room (Nat.le_of_ble_eq_true rfl)) dX7_newDrawer_87 ⟨(Nat.le_of_ble_eq_true rfl), (Nat.le_of_ble_eq_true rfl)⟩) hP hD hS hA [] [0, 1, 2, 3] rfl rfl (by decide) (by decide) (fun r8 q7 H locs hw hP hD hS => ?_)
    have hw : r8 = 0 := hw
    subst hw
    have hP : va_P G.1 pxCl [(a0, .inr (6, [.ref a4, .ref a5, .ref a6, .int 0, .ref a7, .int 0, .int 0, .int 0, .int 0, .ref a8, .int 0, .ref a9, .int 0, .int 0, .int 0, .int (-1), .ref a10, .ref a11, .int 0, .ref a1, .ref a2, .ref a3])), (a1, .inl (G.2.1 0, 3, .inl (upd (fun _ => 0) 0 i1))), (a2, .inl (G.2.1 0, 3, .inl (upd (fun _ => 0) 0 1))), (a3, .inl (G.2.1 0, 36, .inl (fun _ => 0)))] H := hP
    have hD : va_D A [(a0, .inr (6, [.ref a4, .ref a5, .ref a6, .int 0, .ref a7, .int 0, .int 0, .int 0, .int 0, .ref a8, .int 0, .ref a9, .int 0, .int 0, .int 0, .int (-1), .ref a10, .ref a11, .int 0, .ref a1, .ref a2, .ref a3])), (a1, .inl (G.2.1 0, 3, .inl (upd (fun _ => 0) 0 i1))), (a2, .inl (G.2.1 0, 3, .inl (upd (fun _ => 0) 0 1))), (a3, .inl (G.2.1 0, 36, .inl (fun _ => 0)))] := hD
    refine lv_iconst (v := (-1)) hx hb dX7_newDrawer_90 (by decide) ?_
    refine va_iast hx hb hK hP hD hS 3 0 rfl rfl (show ¬ ((0 : Int32) < 0 ∨ 36 ≤ (0 : Int32).toNatClampNeg) by decide +kernel) dX7_newDrawer_91 (fun H locs hP hD hS => ?_)
    have hP : va_P G.1 pxCl [(a0, .inr (6, [.ref a4, .ref a5, .ref a6, .int 0, .ref a7, .int 0, .int 0, .int 0, .int 0, .ref a8, .int 0, .ref a9, .int 0, .int 0, .int 0, .int (-1), .ref a10, .ref a11, .int 0, .ref a1, .ref a2, .ref a3])), (a1, .inl (G.2.1 0, 3, .inl (upd (fun _ => 0) 0 i1))), (a2, .inl (G.2.1 0, 3, .inl (upd (fun _ => 0) 0 1))), (a3, .inl (G.2.1 0, 36, .inl (upd (fun _ => 0) 0 (-1))))] H := hP
    have hD : va_D A [(a0, .inr (6, [.ref a4, .ref a5, .ref a6, .int 0, .ref a7, .int 0, .int 0, .int 0, .int 0, .ref a8, .int 0, .ref a9, .int 0, .int 0, .int 0, .int (-1), .ref a10, .ref a11, .int 0, .ref a1, .ref a2, .ref a3])), (a1, .inl (G.2.1 0, 3, .inl (upd (fun _ => 0) 0 i1))), (a2, .inl (G.2.1 0, 3, .inl (upd (fun _ => 0) 0 1))), (a3, .inl (G.2.1 0, 36, .inl (upd (fun _ => 0) 0 (-1))))] := hD
    refine lv_iinc (v := 1) (lv' := [(5, .int 1), (4, .int 0), (0, .ref a0), (1, .int 0), (2, .int 1), (3, .int i1)]) hx hb dX7_newDrawer_92 hl (k := 0) rfl (by decide) (by decide) rfl (fun ls hl => ?_)
    refine lv_goto (tgt := 73) hx hb dX7_newDrawer_95 (by decide) ?_
    refine lv_iload hx hb dX7_newDrawer_73 (lv_at hl 0 rfl) ?_
    refine lv_bipush (v := 6) hx hb dX7_newDrawer_75 (by decide) ?_
    refine lv_icmp_ge (tgt := 98) hx hb dX7_newDrawer_77 (by decide) (fun h9 => absurd h9 (by decide)) (fun _ => ?_)
    refine lv_aload_n hx hb dX7_newDrawer_80 rfl (lv_at hl 2 rfl) ?_
    refine va_get (D := G.1) (ci := 6) (v := .ref a3) (C := RX7) (T := TX7) (N := 22) hx hb hts piX7 hown hK hP 0 rfl rfl 21 (by decide) (hts _ pm85) (fun _ h9 => h9) rfl dX7_newDrawer_81 ?_
    refine lv_iload_n hx hb dX7_newDrawer_84 rfl (lv_at hl 3 rfl) ?_
    refine lv_iload hx hb dX7_newDrawer_85 (lv_at hl 0 rfl) ?_
    refine pxCi (va_runS (As := [.int 0, .int 1]) (rest := [.ref a3]) ⟨hx, hb, hml, hown, hts⟩ (k253_X7_filedAt l G H.size) (va_cwS 2 hts (pxGS pm663 pm664 pm71 pm665) rfl rfl rfl (by decide +kernel) ⟨(Nat.le_of_ble_eq_true rfl), (Nat.le_of_ble_eq_true rfl)⟩) (pxS hG hZ hP hD hS hA [] rfl (by decide)) rfl rfl hl.1 rfl (lv_room (Nat.le_of_ble_eq_true rfl)) dX7_newDrawer_87 ⟨(Nat.le_of_ble_eq_true rfl), (Nat.le_of_ble_eq_true rfl)⟩) hP hD hS hA [] [0, 1, 2, 3] rfl rfl (by decide) (by decide) (fun r10 q9 H locs hw hP hD hS => ?_)
    have hw : r10 = 2 := hw
    subst hw
    have hP : va_P G.1 pxCl [(a0, .inr (6, [.ref a4, .ref a5, .ref a6, .int 0, .ref a7, .int 0, .int 0, .int 0, .int 0, .ref a8, .int 0, .ref a9, .int 0, .int 0, .int 0, .int (-1), .ref a10, .ref a11, .int 0, .ref a1, .ref a2, .ref a3])), (a1, .inl (G.2.1 0, 3, .inl (upd (fun _ => 0) 0 i1))), (a2, .inl (G.2.1 0, 3, .inl (upd (fun _ => 0) 0 1))), (a3, .inl (G.2.1 0, 36, .inl (upd (fun _ => 0) 0 (-1))))] H := hP
    have hD : va_D A [(a0, .inr (6, [.ref a4, .ref a5, .ref a6, .int 0, .ref a7, .int 0, .int 0, .int 0, .int 0, .ref a8, .int 0, .ref a9, .int 0, .int 0, .int 0, .int (-1), .ref a10, .ref a11, .int 0, .ref a1, .ref a2, .ref a3])), (a1, .inl (G.2.1 0, 3, .inl (upd (fun _ => 0) 0 i1))), (a2, .inl (G.2.1 0, 3, .inl (upd (fun _ => 0) 0 1))), (a3, .inl (G.2.1 0, 36, .inl (upd (fun _ => 0) 0 (-1))))] := hD
    refine lv_iconst (v := (-1)) hx hb dX7_newDrawer_90 (by decide) ?_
    refine va_iast hx hb hK hP hD hS 3 0 rfl rfl (show ¬ ((2 : Int32) < 0 ∨ 36 ≤ (2 : Int32).toNatClampNeg) by decide +kernel) dX7_newDrawer_91 (fun H locs hP hD hS => ?_)
    have hP : va_P G.1 pxCl [(a0, .inr (6, [.ref a4, .ref a5, .ref a6, .int 0, .ref a7, .int 0, .int 0, .int 0, .int 0, .ref a8, .int 0, .ref a9, .int 0, .int 0, .int 0, .int (-1), .ref a10, .ref a11, .int 0, .ref a1, .ref a2, .ref a3])), (a1, .inl (G.2.1 0, 3, .inl (upd (fun _ => 0) 0 i1))), (a2, .inl (G.2.1 0, 3, .inl (upd (fun _ => 0) 0 1))), (a3, .inl (G.2.1 0, 36, .inl (upd (upd (fun _ => 0) 0 (-1)) 2 (-1))))] H := hP
    have hD : va_D A [(a0, .inr (6, [.ref a4, .ref a5, .ref a6, .int 0, .ref a7, .int 0, .int 0, .int 0, .int 0, .ref a8, .int 0, .ref a9, .int 0, .int 0, .int 0, .int (-1), .ref a10, .ref a11, .int 0, .ref a1, .ref a2, .ref a3])), (a1, .inl (G.2.1 0, 3, .inl (upd (fun _ => 0) 0 i1))), (a2, .inl (G.2.1 0, 3, .inl (upd (fun _ => 0) 0 1))), (a3, .inl (G.2.1 0, 36, .inl (upd (upd (fun _ => 0) 0 (-1)) 2 (-1))))] := hD
    refine lv_iinc (v := 2) (lv' := [(5, .int 2), (4, .int 0), (0, .ref a0), (1, .int 0), (2, .int 1), (3, .int i1)]) hx hb dX7_newDrawer_92 hl (k := 0) rfl (by decide) (by decide) rfl (fun ls hl => ?_)
    refine lv_goto (tgt := 73) hx hb dX7_newDrawer_95 (by decide) ?_
    refine lv_iload hx hb dX7_newDrawer_73 (lv_at hl 0 rfl) ?_
    refine lv_bipush (v := 6) hx hb dX7_newDrawer_75 (by decide) ?_
    refine lv_icmp_ge (tgt := 98) hx hb dX7_newDrawer_77 (by decide) (fun h9 => absurd h9 (by decide)) (fun _ => ?_)
    refine lv_aload_n hx hb dX7_newDrawer_80 rfl (lv_at hl 2 rfl) ?_
    refine va_get (D := G.1) (ci := 6) (v := .ref a3) (C := RX7) (T := TX7) (N := 22) hx hb hts piX7 hown hK hP 0 rfl rfl 21 (by decide) (hts _ pm85) (fun _ h9 => h9) rfl dX7_newDrawer_81 ?_
    refine lv_iload_n hx hb dX7_newDrawer_84 rfl (lv_at hl 3 rfl) ?_
    refine lv_iload hx hb dX7_newDrawer_85 (lv_at hl 0 rfl) ?_
    refine pxCi (va_runS (As := [.int 0, .int 2]) (rest := [.ref a3]) ⟨hx, hb, hml, hown, hts⟩ (k254_X7_filedAt l G H.size) (va_cwS 2 hts (pxGS pm663 pm664 pm71 pm665) rfl rfl rfl (by decide +kernel) ⟨(Nat.le_of_ble_eq_true rfl), (Nat.le_of_ble_eq_true rfl)⟩) (pxS hG hZ hP hD hS hA [] rfl (by decide)) rfl rfl hl.1 rfl (lv_room (Nat.le_of_ble_eq_true rfl)) dX7_newDrawer_87 ⟨(Nat.le_of_ble_eq_true rfl), (Nat.le_of_ble_eq_true rfl)⟩) hP hD hS hA [] [0, 1, 2, 3] rfl rfl (by decide) (by decide) (fun r12 q11 H locs hw hP hD hS => ?_)
    have hw : r12 = 4 := hw
    subst hw
    have hP : va_P G.1 pxCl [(a0, .inr (6, [.ref a4, .ref a5, .ref a6, .int 0, .ref a7, .int 0, .int 0, .int 0, .int 0, .ref a8, .int 0, .ref a9, .int 0, .int 0, .int 0, .int (-1), .ref a10, .ref a11, .int 0, .ref a1, .ref a2, .ref a3])), (a1, .inl (G.2.1 0, 3, .inl (upd (fun _ => 0) 0 i1))), (a2, .inl (G.2.1 0, 3, .inl (upd (fun _ => 0) 0 1))), (a3, .inl (G.2.1 0, 36, .inl (upd (upd (fun _ => 0) 0 (-1)) 2 (-1))))] H := hP
    have hD : va_D A [(a0, .inr (6, [.ref a4, .ref a5, .ref a6, .int 0, .ref a7, .int 0, .int 0, .int 0, .int 0, .ref a8, .int 0, .ref a9, .int 0, .int 0, .int 0, .int (-1), .ref a10, .ref a11, .int 0, .ref a1, .ref a2, .ref a3])), (a1, .inl (G.2.1 0, 3, .inl (upd (fun _ => 0) 0 i1))), (a2, .inl (G.2.1 0, 3, .inl (upd (fun _ => 0) 0 1))), (a3, .inl (G.2.1 0, 36, .inl (upd (upd (fun _ => 0) 0 (-1)) 2 (-1))))] := hD
    refine lv_iconst (v := (-1)) hx hb dX7_newDrawer_90 (by decide) ?_
    refine va_iast hx hb hK hP hD hS 3 0 rfl rfl (show ¬ ((4 : Int32) < 0 ∨ 36 ≤ (4 : Int32).toNatClampNeg) by decide +kernel) dX7_newDrawer_91 (fun H locs hP hD hS => ?_)
    have hP : va_P G.1 pxCl [(a0, .inr (6, [.ref a4, .ref a5, .ref a6, .int 0, .ref a7, .int 0, .int 0, .int 0, .int 0, .ref a8, .int 0, .ref a9, .int 0, .int 0, .int 0, .int (-1), .ref a10, .ref a11, .int 0, .ref a1, .ref a2, .ref a3])), (a1, .inl (G.2.1 0, 3, .inl (upd (fun _ => 0) 0 i1))), (a2, .inl (G.2.1 0, 3, .inl (upd (fun _ => 0) 0 1))), (a3, .inl (G.2.1 0, 36, .inl (upd (upd (upd (fun _ => 0) 0 (-1)) 2 (-1)) 4 (-1))))] H := hP
    have hD : va_D A [(a0, .inr (6, [.ref a4, .ref a5, .ref a6, .int 0, .ref a7, .int 0, .int 0, .int 0, .int 0, .ref a8, .int 0, .ref a9, .int 0, .int 0, .int 0, .int (-1), .ref a10, .ref a11, .int 0, .ref a1, .ref a2, .ref a3])), (a1, .inl (G.2.1 0, 3, .inl (upd (fun _ => 0) 0 i1))), (a2, .inl (G.2.1 0, 3, .inl (upd (fun _ => 0) 0 1))), (a3, .inl (G.2.1 0, 36, .inl (upd (upd (upd (fun _ => 0) 0 (-1)) 2 (-1)) 4 (-1))))] := hD
    refine lv_iinc (v := 3) (lv' := [(5, .int 3), (4, .int 0), (0, .ref a0), (1, .int 0), (2, .int 1), (3, .int i1)]) hx hb dX7_newDrawer_92 hl (k := 0) rfl (by decide) (by decide) rfl (fun ls hl => ?_)
    refine lv_goto (tgt := 73) hx hb dX7_newDrawer_95 (by decide) ?_
    refine lv_iload hx hb dX7_newDrawer_73 (lv_at hl 0 rfl) ?_
    refine lv_bipush (v := 6) hx hb dX7_newDrawer_75 (by decide) ?_
    refine lv_icmp_ge (tgt := 98) hx hb dX7_newDrawer_77 (by decide) (fun h9 => absurd h9 (by decide)) (fun _ => ?_)
    refine lv_aload_n hx hb dX7_newDrawer_80 rfl (lv_at hl 2 rfl) ?_
    refine va_get (D := G.1) (ci := 6) (v := .ref a3) (C := RX7) (T := TX7) (N := 22) hx hb hts piX7 hown hK hP 0 rfl rfl 21 (by decide) (hts _ pm85) (fun _ h9 => h9) rfl dX7_newDrawer_81 ?_
    refine lv_iload_n hx hb dX7_newDrawer_84 rfl (lv_at hl 3 rfl) ?_
    refine lv_iload hx hb dX7_newDrawer_85 (lv_at hl 0 rfl) ?_
    refine pxCi (va_runS (As := [.int 0, .int 3]) (rest := [.ref a3]) ⟨hx, hb, hml, hown, hts⟩ (k255_X7_filedAt l G H.size) (va_cwS 2 hts (pxGS pm663 pm664 pm71 pm665) rfl rfl rfl (by decide +kernel) ⟨(Nat.le_of_ble_eq_true rfl), (Nat.le_of_ble_eq_true rfl)⟩) (pxS hG hZ hP hD hS hA [] rfl (by decide)) rfl rfl hl.1 rfl (lv_room (Nat.le_of_ble_eq_true rfl)) dX7_newDrawer_87 ⟨(Nat.le_of_ble_eq_true rfl), (Nat.le_of_ble_eq_true rfl)⟩) hP hD hS hA [] [0, 1, 2, 3] rfl rfl (by decide) (by decide) (fun r14 q13 H locs hw hP hD hS => ?_)
    have hw : r14 = 6 := hw
    subst hw
    have hP : va_P G.1 pxCl [(a0, .inr (6, [.ref a4, .ref a5, .ref a6, .int 0, .ref a7, .int 0, .int 0, .int 0, .int 0, .ref a8, .int 0, .ref a9, .int 0, .int 0, .int 0, .int (-1), .ref a10, .ref a11, .int 0, .ref a1, .ref a2, .ref a3])), (a1, .inl (G.2.1 0, 3, .inl (upd (fun _ => 0) 0 i1))), (a2, .inl (G.2.1 0, 3, .inl (upd (fun _ => 0) 0 1))), (a3, .inl (G.2.1 0, 36, .inl (upd (upd (upd (fun _ => 0) 0 (-1)) 2 (-1)) 4 (-1))))] H := hP
    have hD : va_D A [(a0, .inr (6, [.ref a4, .ref a5, .ref a6, .int 0, .ref a7, .int 0, .int 0, .int 0, .int 0, .ref a8, .int 0, .ref a9, .int 0, .int 0, .int 0, .int (-1), .ref a10, .ref a11, .int 0, .ref a1, .ref a2, .ref a3])), (a1, .inl (G.2.1 0, 3, .inl (upd (fun _ => 0) 0 i1))), (a2, .inl (G.2.1 0, 3, .inl (upd (fun _ => 0) 0 1))), (a3, .inl (G.2.1 0, 36, .inl (upd (upd (upd (fun _ => 0) 0 (-1)) 2 (-1)) 4 (-1))))] := hD
    refine lv_iconst (v := (-1)) hx hb dX7_newDrawer_90 (by decide) ?_
    refine va_iast hx hb hK hP hD hS 3 0 rfl rfl (show ¬ ((6 : Int32) < 0 ∨ 36 ≤ (6 : Int32).toNatClampNeg) by decide +kernel) dX7_newDrawer_91 (fun H locs hP hD hS => ?_)
    have hP : va_P G.1 pxCl [(a0, .inr (6, [.ref a4, .ref a5, .ref a6, .int 0, .ref a7, .int 0, .int 0, .int 0, .int 0, .ref a8, .int 0, .ref a9, .int 0, .int 0, .int 0, .int (-1), .ref a10, .ref a11, .int 0, .ref a1, .ref a2, .ref a3])), (a1, .inl (G.2.1 0, 3, .inl (upd (fun _ => 0) 0 i1))), (a2, .inl (G.2.1 0, 3, .inl (upd (fun _ => 0) 0 1))), (a3, .inl (G.2.1 0, 36, .inl (upd (upd (upd (upd (fun _ => 0) 0 (-1)) 2 (-1)) 4 (-1)) 6 (-1))))] H := hP
    have hD : va_D A [(a0, .inr (6, [.ref a4, .ref a5, .ref a6, .int 0, .ref a7, .int 0, .int 0, .int 0, .int 0, .ref a8, .int 0, .ref a9, .int 0, .int 0, .int 0, .int (-1), .ref a10, .ref a11, .int 0, .ref a1, .ref a2, .ref a3])), (a1, .inl (G.2.1 0, 3, .inl (upd (fun _ => 0) 0 i1))), (a2, .inl (G.2.1 0, 3, .inl (upd (fun _ => 0) 0 1))), (a3, .inl (G.2.1 0, 36, .inl (upd (upd (upd (upd (fun _ => 0) 0 (-1)) 2 (-1)) 4 (-1)) 6 (-1))))] := hD
    refine lv_iinc (v := 4) (lv' := [(5, .int 4), (4, .int 0), (0, .ref a0), (1, .int 0), (2, .int 1), (3, .int i1)]) hx hb dX7_newDrawer_92 hl (k := 0) rfl (by decide) (by decide) rfl (fun ls hl => ?_)
    refine lv_goto (tgt := 73) hx hb dX7_newDrawer_95 (by decide) ?_
    refine lv_iload hx hb dX7_newDrawer_73 (lv_at hl 0 rfl) ?_
    refine lv_bipush (v := 6) hx hb dX7_newDrawer_75 (by decide) ?_
    refine lv_icmp_ge (tgt := 98) hx hb dX7_newDrawer_77 (by decide) (fun h9 => absurd h9 (by decide)) (fun _ => ?_)
    refine lv_aload_n hx hb dX7_newDrawer_80 rfl (lv_at hl 2 rfl) ?_
    refine va_get (D := G.1) (ci := 6) (v := .ref a3) (C := RX7) (T := TX7) (N := 22) hx hb hts piX7 hown hK hP 0 rfl rfl 21 (by decide) (hts _ pm85) (fun _ h9 => h9) rfl dX7_newDrawer_81 ?_
    refine lv_iload_n hx hb dX7_newDrawer_84 rfl (lv_at hl 3 rfl) ?_
    refine lv_iload hx hb dX7_newDrawer_85 (lv_at hl 0 rfl) ?_
    refine pxCi (va_runS (As := [.int 0, .int 4]) (rest := [.ref a3]) ⟨hx, hb, hml, hown, hts⟩ (k256_X7_filedAt l G H.size) (va_cwS 2 hts (pxGS pm663 pm664 pm71 pm665) rfl rfl rfl (by decide +kernel) ⟨(Nat.le_of_ble_eq_true rfl), (Nat.le_of_ble_eq_true rfl)⟩) (pxS hG hZ hP hD hS hA [] rfl (by decide)) rfl rfl hl.1 rfl (lv_room (Nat.le_of_ble_eq_true rfl)) dX7_newDrawer_87 ⟨(Nat.le_of_ble_eq_true rfl), (Nat.le_of_ble_eq_true rfl)⟩) hP hD hS hA [] [0, 1, 2, 3] rfl rfl (by decide) (by decide) (fun r16 q15 H locs hw hP hD hS => ?_)
    have hw : r16 = 8 := hw
    subst hw
    have hP : va_P G.1 pxCl [(a0, .inr (6, [.ref a4, .ref a5, .ref a6, .int 0, .ref a7, .int 0, .int 0, .int 0, .int 0, .ref a8, .int 0, .ref a9, .int 0, .int 0, .int 0, .int (-1), .ref a10, .ref a11, .int 0, .ref a1, .ref a2, .ref a3])), (a1, .inl (G.2.1 0, 3, .inl (upd (fun _ => 0) 0 i1))), (a2, .inl (G.2.1 0, 3, .inl (upd (fun _ => 0) 0 1))), (a3, .inl (G.2.1 0, 36, .inl (upd (upd (upd (upd (fun _ => 0) 0 (-1)) 2 (-1)) 4 (-1)) 6 (-1))))] H := hP
    have hD : va_D A [(a0, .inr (6, [.ref a4, .ref a5, .ref a6, .int 0, .ref a7, .int 0, .int 0, .int 0, .int 0, .ref a8, .int 0, .ref a9, .int 0, .int 0, .int 0, .int (-1), .ref a10, .ref a11, .int 0, .ref a1, .ref a2, .ref a3])), (a1, .inl (G.2.1 0, 3, .inl (upd (fun _ => 0) 0 i1))), (a2, .inl (G.2.1 0, 3, .inl (upd (fun _ => 0) 0 1))), (a3, .inl (G.2.1 0, 36, .inl (upd (upd (upd (upd (fun _ => 0) 0 (-1)) 2 (-1)) 4 (-1)) 6 (-1))))] := hD
    refine lv_iconst (v := (-1)) hx hb dX7_newDrawer_90 (by decide) ?_
    refine va_iast hx hb hK hP hD hS 3 0 rfl rfl (show ¬ ((8 : Int32) < 0 ∨ 36 ≤ (8 : Int32).toNatClampNeg) by decide +kernel) dX7_newDrawer_91 (fun H locs hP hD hS => ?_)
    have hP : va_P G.1 pxCl [(a0, .inr (6, [.ref a4, .ref a5, .ref a6, .int 0, .ref a7, .int 0, .int 0, .int 0, .int 0, .ref a8, .int 0, .ref a9, .int 0, .int 0, .int 0, .int (-1), .ref a10, .ref a11, .int 0, .ref a1, .ref a2, .ref a3])), (a1, .inl (G.2.1 0, 3, .inl (upd (fun _ => 0) 0 i1))), (a2, .inl (G.2.1 0, 3, .inl (upd (fun _ => 0) 0 1))), (a3, .inl (G.2.1 0, 36, .inl (upd (upd (upd (upd (upd (fun _ => 0) 0 (-1)) 2 (-1)) 4 (-1)) 6 (-1)) 8 (-1))))] H := hP
    have hD : va_D A [(a0, .inr (6, [.ref a4, .ref a5, .ref a6, .int 0, .ref a7, .int 0, .int 0, .int 0, .int 0, .ref a8, .int 0, .ref a9, .int 0, .int 0, .int 0, .int (-1), .ref a10, .ref a11, .int 0, .ref a1, .ref a2, .ref a3])), (a1, .inl (G.2.1 0, 3, .inl (upd (fun _ => 0) 0 i1))), (a2, .inl (G.2.1 0, 3, .inl (upd (fun _ => 0) 0 1))), (a3, .inl (G.2.1 0, 36, .inl (upd (upd (upd (upd (upd (fun _ => 0) 0 (-1)) 2 (-1)) 4 (-1)) 6 (-1)) 8 (-1))))] := hD
    refine lv_iinc (v := 5) (lv' := [(5, .int 5), (4, .int 0), (0, .ref a0), (1, .int 0), (2, .int 1), (3, .int i1)]) hx hb dX7_newDrawer_92 hl (k := 0) rfl (by decide) (by decide) rfl (fun ls hl => ?_)
    refine lv_goto (tgt := 73) hx hb dX7_newDrawer_95 (by decide) ?_
    refine lv_iload hx hb dX7_newDrawer_73 (lv_at hl 0 rfl) ?_
    refine lv_bipush (v := 6) hx hb dX7_newDrawer_75 (by decide) ?_
    refine lv_icmp_ge (tgt := 98) hx hb dX7_newDrawer_77 (by decide) (fun h9 => absurd h9 (by decide)) (fun _ => ?_)
    refine lv_aload_n hx hb dX7_newDrawer_80 rfl (lv_at hl 2 rfl) ?_
    refine va_get (D := G.1) (ci := 6) (v := .ref a3) (C := RX7) (T := TX7) (N := 22) hx hb hts piX7 hown hK hP 0 rfl rfl 21 (by decide) (hts _ pm85) (fun _ h9 => h9) rfl dX7_newDrawer_81 ?_
    refine lv_iload_n hx hb dX7_newDrawer_84 rfl (lv_at hl 3 rfl) ?_
    refine lv_iload hx hb dX7_newDrawer_85 (lv_at hl 0 rfl) ?_
    refine pxCi (va_runS (As := [.int 0, .int 5]) (rest := [.ref a3]) ⟨hx, hb, hml, hown, hts⟩ (k257_X7_filedAt l G H.size) (va_cwS 2 hts (pxGS pm663 pm664 pm71 pm665) rfl rfl rfl (by decide +kernel) ⟨(Nat.le_of_ble_eq_true rfl), (Nat.le_of_ble_eq_true rfl)⟩) (pxS hG hZ hP hD hS hA [] rfl (by decide)) rfl rfl hl.1 rfl (lv_room (Nat.le_of_ble_eq_true rfl)) dX7_newDrawer_87 ⟨(Nat.le_of_ble_eq_true rfl), (Nat.le_of_ble_eq_true rfl)⟩) hP hD hS hA [] [0, 1, 2, 3] rfl rfl (by decide) (by decide) (fun r18 q17 H locs hw hP hD hS => ?_)
    have hw : r18 = 10 := hw
    subst hw
    have hP : va_P G.1 pxCl [(a0, .inr (6, [.ref a4, .ref a5, .ref a6, .int 0, .ref a7, .int 0, .int 0, .int 0, .int 0, .ref a8, .int 0, .ref a9, .int 0, .int 0, .int 0, .int (-1), .ref a10, .ref a11, .int 0, .ref a1, .ref a2, .ref a3])), (a1, .inl (G.2.1 0, 3, .inl (upd (fun _ => 0) 0 i1))), (a2, .inl (G.2.1 0, 3, .inl (upd (fun _ => 0) 0 1))), (a3, .inl (G.2.1 0, 36, .inl (upd (upd (upd (upd (upd (fun _ => 0) 0 (-1)) 2 (-1)) 4 (-1)) 6 (-1)) 8 (-1))))] H := hP
    have hD : va_D A [(a0, .inr (6, [.ref a4, .ref a5, .ref a6, .int 0, .ref a7, .int 0, .int 0, .int 0, .int 0, .ref a8, .int 0, .ref a9, .int 0, .int 0, .int 0, .int (-1), .ref a10, .ref a11, .int 0, .ref a1, .ref a2, .ref a3])), (a1, .inl (G.2.1 0, 3, .inl (upd (fun _ => 0) 0 i1))), (a2, .inl (G.2.1 0, 3, .inl (upd (fun _ => 0) 0 1))), (a3, .inl (G.2.1 0, 36, .inl (upd (upd (upd (upd (upd (fun _ => 0) 0 (-1)) 2 (-1)) 4 (-1)) 6 (-1)) 8 (-1))))] := hD
    refine lv_iconst (v := (-1)) hx hb dX7_newDrawer_90 (by decide) ?_
    refine va_iast hx hb hK hP hD hS 3 0 rfl rfl (show ¬ ((10 : Int32) < 0 ∨ 36 ≤ (10 : Int32).toNatClampNeg) by decide +kernel) dX7_newDrawer_91 (fun H locs hP hD hS => ?_)
    have hP : va_P G.1 pxCl [(a0, .inr (6, [.ref a4, .ref a5, .ref a6, .int 0, .ref a7, .int 0, .int 0, .int 0, .int 0, .ref a8, .int 0, .ref a9, .int 0, .int 0, .int 0, .int (-1), .ref a10, .ref a11, .int 0, .ref a1, .ref a2, .ref a3])), (a1, .inl (G.2.1 0, 3, .inl (upd (fun _ => 0) 0 i1))), (a2, .inl (G.2.1 0, 3, .inl (upd (fun _ => 0) 0 1))), (a3, .inl (G.2.1 0, 36, .inl (upd (upd (upd (upd (upd (upd (fun _ => 0) 0 (-1)) 2 (-1)) 4 (-1)) 6 (-1)) 8 (-1)) 10 (-1))))] H := hP
    have hD : va_D A [(a0, .inr (6, [.ref a4, .ref a5, .ref a6, .int 0, .ref a7, .int 0, .int 0, .int 0, .int 0, .ref a8, .int 0, .ref a9, .int 0, .int 0, .int 0, .int (-1), .ref a10, .ref a11, .int 0, .ref a1, .ref a2, .ref a3])), (a1, .inl (G.2.1 0, 3, .inl (upd (fun _ => 0) 0 i1))), (a2, .inl (G.2.1 0, 3, .inl (upd (fun _ => 0) 0 1))), (a3, .inl (G.2.1 0, 36, .inl (upd (upd (upd (upd (upd (upd (fun _ => 0) 0 (-1)) 2 (-1)) 4 (-1)) 6 (-1)) 8 (-1)) 10 (-1))))] := hD
    refine lv_iinc (v := 6) (lv' := [(5, .int 6), (4, .int 0), (0, .ref a0), (1, .int 0), (2, .int 1), (3, .int i1)]) hx hb dX7_newDrawer_92 hl (k := 0) rfl (by decide) (by decide) rfl (fun ls hl => ?_)
    refine lv_goto (tgt := 73) hx hb dX7_newDrawer_95 (by decide) ?_
    refine lv_iload hx hb dX7_newDrawer_73 (lv_at hl 0 rfl) ?_
    refine lv_bipush (v := 6) hx hb dX7_newDrawer_75 (by decide) ?_
    refine lv_icmp_ge (tgt := 98) hx hb dX7_newDrawer_77 (by decide) (fun _ => ?_) (fun h9 => absurd (by decide) h9)
    refine lv_iload hx hb dX7_newDrawer_98 (lv_at hl 1 rfl) ?_
    have hD : va_D A [(a0, .inr (6, [.ref a4, .ref a5, .ref a6, .int 0, .ref a7, .int 0, .int 0, .int 0, .int 0, .ref a8, .int 0, .ref a9, .int 0, .int 0, .int 0, .int (-1), .ref a10, .ref a11, .int 0, .ref a1, .ref a2, .ref a3]))] := hD.sub [0] (by decide) rfl
    have hP : va_P G.1 pxCl [(a0, .inr (6, [.ref a4, .ref a5, .ref a6, .int 0, .ref a7, .int 0, .int 0, .int 0, .int 0, .ref a8, .int 0, .ref a9, .int 0, .int 0, .int 0, .int (-1), .ref a10, .ref a11, .int 0, .ref a1, .ref a2, .ref a3]))] H := hP.sub [0] rfl
    refine W.widen (k := 0) (n := 0) (Nat.le_of_ble_eq_true rfl) (Nat.le_of_ble_eq_true rfl) ?_
    exact W.iret (v := 0) hx hb hr (fun t ht hW => ⟨⟨0, (fun _ => 0), rfl, rfl, by rw [ht]; exact hP, hD⟩, hS.F ht⟩) hS.2.2 dX7_newDrawer_100
  · skip
    rcases Int.lt_or_le i0.toInt 2 with f2 | f2
    · skip
      obtain rfl : i0 = 1 := pxEq 1 (by have h9 : (1 : Int32).toInt = 1 := (by decide); omega)
      refine va_iast hx hb hK hP hD hS 1 0 rfl rfl (show ¬ ((1 : Int32) < 0 ∨ 3 ≤ (1 : Int32).toNatClampNeg) by decide +kernel) dX7_newDrawer_62 (fun H locs hP hD hS => ?_)
      have hP : va_P G.1 pxCl [(a0, .inr (6, [.ref a4, .ref a5, .ref a6, .int 0, .ref a7, .int 0, .int 0, .int 0, .int 0, .ref a8, .int 0, .ref a9, .int 0, .int 0, .int 0, .int (-1), .ref a10, .ref a11, .int 0, .ref a1, .ref a2, .ref a3])), (a1, .inl (G.2.1 0, 3, .inl (upd (fun _ => 0) 1 i1))), (a2, .inl (G.2.1 0, 3, .inl (fun _ => 0))), (a3, .inl (G.2.1 0, 36, .inl (fun _ => 0)))] H := hP
      have hD : va_D A [(a0, .inr (6, [.ref a4, .ref a5, .ref a6, .int 0, .ref a7, .int 0, .int 0, .int 0, .int 0, .ref a8, .int 0, .ref a9, .int 0, .int 0, .int 0, .int (-1), .ref a10, .ref a11, .int 0, .ref a1, .ref a2, .ref a3])), (a1, .inl (G.2.1 0, 3, .inl (upd (fun _ => 0) 1 i1))), (a2, .inl (G.2.1 0, 3, .inl (fun _ => 0))), (a3, .inl (G.2.1 0, 36, .inl (fun _ => 0)))] := hD
      refine lv_aload_n hx hb dX7_newDrawer_63 rfl (lv_at hl 1 rfl) ?_
      refine va_get (D := G.1) (ci := 6) (v := .ref a2) (C := RX7) (T := TX7) (N := 22) hx hb hts piX7 hown hK hP 0 rfl rfl 20 (by decide) (hts _ pm84) (fun _ h9 => h9) rfl dX7_newDrawer_64 ?_
      refine lv_iload_n hx hb dX7_newDrawer_67 rfl (lv_at hl 2 rfl) ?_
      refine lv_iload_n hx hb dX7_newDrawer_68 rfl (lv_at hl 3 rfl) ?_
      refine va_iast hx hb hK hP hD hS 2 0 rfl rfl (show ¬ ((1 : Int32) < 0 ∨ 3 ≤ (1 : Int32).toNatClampNeg) by decide +kernel) dX7_newDrawer_69 (fun H locs hP hD hS => ?_)
      have hP : va_P G.1 pxCl [(a0, .inr (6, [.ref a4, .ref a5, .ref a6, .int 0, .ref a7, .int 0, .int 0, .int 0, .int 0, .ref a8, .int 0, .ref a9, .int 0, .int 0, .int 0, .int (-1), .ref a10, .ref a11, .int 0, .ref a1, .ref a2, .ref a3])), (a1, .inl (G.2.1 0, 3, .inl (upd (fun _ => 0) 1 i1))), (a2, .inl (G.2.1 0, 3, .inl (upd (fun _ => 0) 1 1))), (a3, .inl (G.2.1 0, 36, .inl (fun _ => 0)))] H := hP
      have hD : va_D A [(a0, .inr (6, [.ref a4, .ref a5, .ref a6, .int 0, .ref a7, .int 0, .int 0, .int 0, .int 0, .ref a8, .int 0, .ref a9, .int 0, .int 0, .int 0, .int (-1), .ref a10, .ref a11, .int 0, .ref a1, .ref a2, .ref a3])), (a1, .inl (G.2.1 0, 3, .inl (upd (fun _ => 0) 1 i1))), (a2, .inl (G.2.1 0, 3, .inl (upd (fun _ => 0) 1 1))), (a3, .inl (G.2.1 0, 36, .inl (fun _ => 0)))] := hD
      refine lv_iconst (v := 0) hx hb dX7_newDrawer_70 (by decide) ?_
      refine lv_istore (lv' := [(5, .int 0), (4, .int 0), (0, .ref a0), (1, .int 1), (2, .int 1), (3, .int i1)]) hx hb dX7_newDrawer_71 hl (by decide) rfl (fun ls hl => ?_)
      refine lv_iload hx hb dX7_newDrawer_73 (lv_at hl 0 rfl) ?_
      refine lv_bipush (v := 6) hx hb dX7_newDrawer_75 (by decide) ?_
      refine lv_icmp_ge (tgt := 98) hx hb dX7_newDrawer_77 (by decide) (fun h9 => absurd h9 (by decide)) (fun _ => ?_)
      refine lv_aload_n hx hb dX7_newDrawer_80 rfl (lv_at hl 2 rfl) ?_
      refine va_get (D := G.1) (ci := 6) (v := .ref a3) (C := RX7) (T := TX7) (N := 22) hx hb hts piX7 hown hK hP 0 rfl rfl 21 (by decide) (hts _ pm85) (fun _ h9 => h9) rfl dX7_newDrawer_81 ?_
      refine lv_iload_n hx hb dX7_newDrawer_84 rfl (lv_at hl 3 rfl) ?_
      refine lv_iload hx hb dX7_newDrawer_85 (lv_at hl 0 rfl) ?_
      refine pxCi (va_runS (As := [.int 1, .int 0]) (rest := [.ref a3]) ⟨hx, hb, hml, hown, hts⟩ (k258_X7_filedAt l G H.size) (va_cwS 2 hts (pxGS pm663 pm664 pm71 pm665) rfl rfl rfl (by decide +kernel) ⟨(Nat.le_of_ble_eq_true rfl), (Nat.le_of_ble_eq_true rfl)⟩) (pxS hG hZ hP hD hS hA [] rfl (by decide)) rfl rfl hl.1 rfl (lv_room (Nat.le_of_ble_eq_true rfl)) dX7_newDrawer_87 ⟨(Nat.le_of_ble_eq_true rfl), (Nat.le_of_ble_eq_true rfl)⟩) hP hD hS hA [] [0, 1, 2, 3] rfl rfl (by decide) (by decide) (fun r8 q7 H locs hw hP hD hS => ?_)
      have hw : r8 = 12 := hw
      subst hw
      have hP : va_P G.1 pxCl [(a0, .inr (6, [.ref a4, .ref a5, .ref a6, .int 0, .ref a7, .int 0, .int 0, .int 0, .int 0, .ref a8, .int 0, .ref a9, .int 0, .int 0, .int 0, .int (-1), .ref a10, .ref a11, .int 0, .ref a1, .ref a2, .ref a3])), (a1, .inl (G.2.1 0, 3, .inl (upd (fun _ => 0) 1 i1))), (a2, .inl (G.2.1 0, 3, .inl (upd (fun _ => 0) 1 1))), (a3, .inl (G.2.1 0, 36, .inl (fun _ => 0)))] H := hP
      have hD : va_D A [(a0, .inr (6, [.ref a4, .ref a5, .ref a6, .int 0, .ref a7, .int 0, .int 0, .int 0, .int 0, .ref a8, .int 0, .ref a9, .int 0, .int 0, .int 0, .int (-1), .ref a10, .ref a11, .int 0, .ref a1, .ref a2, .ref a3])), (a1, .inl (G.2.1 0, 3, .inl (upd (fun _ => 0) 1 i1))), (a2, .inl (G.2.1 0, 3, .inl (upd (fun _ => 0) 1 1))), (a3, .inl (G.2.1 0, 36, .inl (fun _ => 0)))] := hD
      refine lv_iconst (v := (-1)) hx hb dX7_newDrawer_90 (by decide) ?_
      refine va_iast hx hb hK hP hD hS 3 0 rfl rfl (show ¬ ((12 : Int32) < 0 ∨ 36 ≤ (12 : Int32).toNatClampNeg) by decide +kernel) dX7_newDrawer_91 (fun H locs hP hD hS => ?_)
      have hP : va_P G.1 pxCl [(a0, .inr (6, [.ref a4, .ref a5, .ref a6, .int 0, .ref a7, .int 0, .int 0, .int 0, .int 0, .ref a8, .int 0, .ref a9, .int 0, .int 0, .int 0, .int (-1), .ref a10, .ref a11, .int 0, .ref a1, .ref a2, .ref a3])), (a1, .inl (G.2.1 0, 3, .inl (upd (fun _ => 0) 1 i1))), (a2, .inl (G.2.1 0, 3, .inl (upd (fun _ => 0) 1 1))), (a3, .inl (G.2.1 0, 36, .inl (upd (fun _ => 0) 12 (-1))))] H := hP
      have hD : va_D A [(a0, .inr (6, [.ref a4, .ref a5, .ref a6, .int 0, .ref a7, .int 0, .int 0, .int 0, .int 0, .ref a8, .int 0, .ref a9, .int 0, .int 0, .int 0, .int (-1), .ref a10, .ref a11, .int 0, .ref a1, .ref a2, .ref a3])), (a1, .inl (G.2.1 0, 3, .inl (upd (fun _ => 0) 1 i1))), (a2, .inl (G.2.1 0, 3, .inl (upd (fun _ => 0) 1 1))), (a3, .inl (G.2.1 0, 36, .inl (upd (fun _ => 0) 12 (-1))))] := hD
      refine lv_iinc (v := 1) (lv' := [(5, .int 1), (4, .int 0), (0, .ref a0), (1, .int 1), (2, .int 1), (3, .int i1)]) hx hb dX7_newDrawer_92 hl (k := 0) rfl (by decide) (by decide) rfl (fun ls hl => ?_)
      refine lv_goto (tgt := 73) hx hb dX7_newDrawer_95 (by decide) ?_
      refine lv_iload hx hb dX7_newDrawer_73 (lv_at hl 0 rfl) ?_
      refine lv_bipush (v := 6) hx hb dX7_newDrawer_75 (by decide) ?_
      refine lv_icmp_ge (tgt := 98) hx hb dX7_newDrawer_77 (by decide) (fun h9 => absurd h9 (by decide)) (fun _ => ?_)
      refine lv_aload_n hx hb dX7_newDrawer_80 rfl (lv_at hl 2 rfl) ?_
      refine va_get (D := G.1) (ci := 6) (v := .ref a3) (C := RX7) (T := TX7) (N := 22) hx hb hts piX7 hown hK hP 0 rfl rfl 21 (by decide) (hts _ pm85) (fun _ h9 => h9) rfl dX7_newDrawer_81 ?_
      refine lv_iload_n hx hb dX7_newDrawer_84 rfl (lv_at hl 3 rfl) ?_
      refine lv_iload hx hb dX7_newDrawer_85 (lv_at hl 0 rfl) ?_
      refine pxCi (va_runS (As := [.int 1, .int 1]) (rest := [.ref a3]) ⟨hx, hb, hml, hown, hts⟩ (k259_X7_filedAt l G H.size) (va_cwS 2 hts (pxGS pm663 pm664 pm71 pm665) rfl rfl rfl (by decide +kernel) ⟨(Nat.le_of_ble_eq_true rfl), (Nat.le_of_ble_eq_true rfl)⟩) (pxS hG hZ hP hD hS hA [] rfl (by decide)) rfl rfl hl.1 rfl (lv_room (Nat.le_of_ble_eq_true rfl)) dX7_newDrawer_87 ⟨(Nat.le_of_ble_eq_true rfl), (Nat.le_of_ble_eq_true rfl)⟩) hP hD hS hA [] [0, 1, 2, 3] rfl rfl (by decide) (by decide) (fun r10 q9 H locs hw hP hD hS => ?_)
      have hw : r10 = 14 := hw
      subst hw
      have hP : va_P G.1 pxCl [(a0, .inr (6, [.ref a4, .ref a5, .ref a6, .int 0, .ref a7, .int 0, .int 0, .int 0, .int 0, .ref a8, .int 0, .ref a9, .int 0, .int 0, .int 0, .int (-1), .ref a10, .ref a11, .int 0, .ref a1, .ref a2, .ref a3])), (a1, .inl (G.2.1 0, 3, .inl (upd (fun _ => 0) 1 i1))), (a2, .inl (G.2.1 0, 3, .inl (upd (fun _ => 0) 1 1))), (a3, .inl (G.2.1 0, 36, .inl (upd (fun _ => 0) 12 (-1))))] H := hP
      have hD : va_D A [(a0, .inr (6, [.ref a4, .ref a5, .ref a6, .int 0, .ref a7, .int 0, .int 0, .int 0, .int 0, .ref a8, .int 0, .ref a9, .int 0, .int 0, .int 0, .int (-1), .ref a10, .ref a11, .int 0, .ref a1, .ref a2, .ref a3])), (a1, .inl (G.2.1 0, 3, .inl (upd (fun _ => 0) 1 i1))), (a2, .inl (G.2.1 0, 3, .inl (upd (fun _ => 0) 1 1))), (a3, .inl (G.2.1 0, 36, .inl (upd (fun _ => 0) 12 (-1))))] := hD
      refine lv_iconst (v := (-1)) hx hb dX7_newDrawer_90 (by decide) ?_
      refine va_iast hx hb hK hP hD hS 3 0 rfl rfl (show ¬ ((14 : Int32) < 0 ∨ 36 ≤ (14 : Int32).toNatClampNeg) by decide +kernel) dX7_newDrawer_91 (fun H locs hP hD hS => ?_)
      have hP : va_P G.1 pxCl [(a0, .inr (6, [.ref a4, .ref a5, .ref a6, .int 0, .ref a7, .int 0, .int 0, .int 0, .int 0, .ref a8, .int 0, .ref a9, .int 0, .int 0, .int 0, .int (-1), .ref a10, .ref a11, .int 0, .ref a1, .ref a2, .ref a3])), (a1, .inl (G.2.1 0, 3, .inl (upd (fun _ => 0) 1 i1))), (a2, .inl (G.2.1 0, 3, .inl (upd (fun _ => 0) 1 1))), (a3, .inl (G.2.1 0, 36, .inl (upd (upd (fun _ => 0) 12 (-1)) 14 (-1))))] H := hP
      have hD : va_D A [(a0, .inr (6, [.ref a4, .ref a5, .ref a6, .int 0, .ref a7, .int 0, .int 0, .int 0, .int 0, .ref a8, .int 0, .ref a9, .int 0, .int 0, .int 0, .int (-1), .ref a10, .ref a11, .int 0, .ref a1, .ref a2, .ref a3])), (a1, .inl (G.2.1 0, 3, .inl (upd (fun _ => 0) 1 i1))), (a2, .inl (G.2.1 0, 3, .inl (upd (fun _ => 0) 1 1))), (a3, .inl (G.2.1 0, 36, .inl (upd (upd (fun _ => 0) 12 (-1)) 14 (-1))))] := hD
      refine lv_iinc (v := 2) (lv' := [(5, .int 2), (4, .int 0), (0, .ref a0), (1, .int 1), (2, .int 1), (3, .int i1)]) hx hb dX7_newDrawer_92 hl (k := 0) rfl (by decide) (by decide) rfl (fun ls hl => ?_)
      refine lv_goto (tgt := 73) hx hb dX7_newDrawer_95 (by decide) ?_
      refine lv_iload hx hb dX7_newDrawer_73 (lv_at hl 0 rfl) ?_
      refine lv_bipush (v := 6) hx hb dX7_newDrawer_75 (by decide) ?_
      refine lv_icmp_ge (tgt := 98) hx hb dX7_newDrawer_77 (by decide) (fun h9 => absurd h9 (by decide)) (fun _ => ?_)
      refine lv_aload_n hx hb dX7_newDrawer_80 rfl (lv_at hl 2 rfl) ?_
      refine va_get (D := G.1) (ci := 6) (v := .ref a3) (C := RX7) (T := TX7) (N := 22) hx hb hts piX7 hown hK hP 0 rfl rfl 21 (by decide) (hts _ pm85) (fun _ h9 => h9) rfl dX7_newDrawer_81 ?_
      refine lv_iload_n hx hb dX7_newDrawer_84 rfl (lv_at hl 3 rfl) ?_
      refine lv_iload hx hb dX7_newDrawer_85 (lv_at hl 0 rfl) ?_
      refine pxCi (va_runS (As := [.int 1, .int 2]) (rest := [.ref a3]) ⟨hx, hb, hml, hown, hts⟩ (k260_X7_filedAt l G H.size) (va_cwS 2 hts (pxGS pm663 pm664 pm71 pm665) rfl rfl rfl (by decide +kernel) ⟨(Nat.le_of_ble_eq_true rfl), (Nat.le_of_ble_eq_true rfl)⟩) (pxS hG hZ hP hD hS hA [] rfl (by decide)) rfl rfl hl.1 rfl (lv_room (Nat.le_of_ble_eq_true rfl)) dX7_newDrawer_87 ⟨(Nat.le_of_ble_eq_true rfl), (Nat.le_of_ble_eq_true rfl)⟩) hP hD hS hA [] [0, 1, 2, 3] rfl rfl (by decide) (by decide) (fun r12 q11 H locs hw hP hD hS => ?_)
      have hw : r12 = 16 := hw
      subst hw
      have hP : va_P G.1 pxCl [(a0, .inr (6, [.ref a4, .ref a5, .ref a6, .int 0, .ref a7, .int 0, .int 0, .int 0, .int 0, .ref a8, .int 0, .ref a9, .int 0, .int 0, .int 0, .int (-1), .ref a10, .ref a11, .int 0, .ref a1, .ref a2, .ref a3])), (a1, .inl (G.2.1 0, 3, .inl (upd (fun _ => 0) 1 i1))), (a2, .inl (G.2.1 0, 3, .inl (upd (fun _ => 0) 1 1))), (a3, .inl (G.2.1 0, 36, .inl (upd (upd (fun _ => 0) 12 (-1)) 14 (-1))))] H := hP
      have hD : va_D A [(a0, .inr (6, [.ref a4, .ref a5, .ref a6, .int 0, .ref a7, .int 0, .int 0, .int 0, .int 0, .ref a8, .int 0, .ref a9, .int 0, .int 0, .int 0, .int (-1), .ref a10, .ref a11, .int 0, .ref a1, .ref a2, .ref a3])), (a1, .inl (G.2.1 0, 3, .inl (upd (fun _ => 0) 1 i1))), (a2, .inl (G.2.1 0, 3, .inl (upd (fun _ => 0) 1 1))), (a3, .inl (G.2.1 0, 36, .inl (upd (upd (fun _ => 0) 12 (-1)) 14 (-1))))] := hD
      refine lv_iconst (v := (-1)) hx hb dX7_newDrawer_90 (by decide) ?_
      refine va_iast hx hb hK hP hD hS 3 0 rfl rfl (show ¬ ((16 : Int32) < 0 ∨ 36 ≤ (16 : Int32).toNatClampNeg) by decide +kernel) dX7_newDrawer_91 (fun H locs hP hD hS => ?_)
      have hP : va_P G.1 pxCl [(a0, .inr (6, [.ref a4, .ref a5, .ref a6, .int 0, .ref a7, .int 0, .int 0, .int 0, .int 0, .ref a8, .int 0, .ref a9, .int 0, .int 0, .int 0, .int (-1), .ref a10, .ref a11, .int 0, .ref a1, .ref a2, .ref a3])), (a1, .inl (G.2.1 0, 3, .inl (upd (fun _ => 0) 1 i1))), (a2, .inl (G.2.1 0, 3, .inl (upd (fun _ => 0) 1 1))), (a3, .inl (G.2.1 0, 36, .inl (upd (upd (upd (fun _ => 0) 12 (-1)) 14 (-1)) 16 (-1))))] H := hP
      have hD : va_D A [(a0, .inr (6, [.ref a4, .ref a5, .ref a6, .int 0, .ref a7, .int 0, .int 0, .int 0, .int 0, .ref a8, .int 0, .ref a9, .int 0, .int 0, .int 0, .int (-1), .ref a10, .ref a11, .int 0, .ref a1, .ref a2, .ref a3])), (a1, .inl (G.2.1 0, 3, .inl (upd (fun _ => 0) 1 i1))), (a2, .inl (G.2.1 0, 3, .inl (upd (fun _ => 0) 1 1))), (a3, .inl (G.2.1 0, 36, .inl (upd (upd (upd (fun _ => 0) 12 (-1)) 14 (-1)) 16 (-1))))] := hD
      refine lv_iinc (v := 3) (lv' := [(5, .int 3), (4, .int 0), (0, .ref a0), (1, .int 1), (2, .int 1), (3, .int i1)]) hx hb dX7_newDrawer_92 hl (k := 0) rfl (by decide) (by decide) rfl (fun ls hl => ?_)
      refine lv_goto (tgt := 73) hx hb dX7_newDrawer_95 (by decide) ?_
      refine lv_iload hx hb dX7_newDrawer_73 (lv_at hl 0 rfl) ?_
      refine lv_bipush (v := 6) hx hb dX7_newDrawer_75 (by decide) ?_
      refine lv_icmp_ge (tgt := 98) hx hb dX7_newDrawer_77 (by decide) (fun h9 => absurd h9 (by decide)) (fun _ => ?_)
      refine lv_aload_n hx hb dX7_newDrawer_80 rfl (lv_at hl 2 rfl) ?_
      refine va_get (D := G.1) (ci := 6) (v := .ref a3) (C := RX7) (T := TX7) (N := 22) hx hb hts piX7 hown hK hP 0 rfl rfl 21 (by decide) (hts _ pm85) (fun _ h9 => h9) rfl dX7_newDrawer_81 ?_
      refine lv_iload_n hx hb dX7_newDrawer_84 rfl (lv_at hl 3 rfl) ?_
      refine lv_iload hx hb dX7_newDrawer_85 (lv_at hl 0 rfl) ?_
      refine pxCi (va_runS (As := [.int 1, .int 3]) (rest := [.ref a3]) ⟨hx, hb, hml, hown, hts⟩ (k261_X7_filedAt l G H.size) (va_cwS 2 hts (pxGS pm663 pm664 pm71 pm665) rfl rfl rfl (by decide +kernel) ⟨(Nat.le_of_ble_eq_true rfl), (Nat.le_of_ble_eq_true rfl)⟩) (pxS hG hZ hP hD hS hA [] rfl (by decide)) rfl rfl hl.1 rfl (lv_room (Nat.le_of_ble_eq_true rfl)) dX7_newDrawer_87 ⟨(Nat.le_of_ble_eq_true rfl), (Nat.le_of_ble_eq_true rfl)⟩) hP hD hS hA [] [0, 1, 2, 3] rfl rfl (by decide) (by decide) (fun r14 q13 H locs hw hP hD hS => ?_)
      have hw : r14 = 18 := hw
      subst hw
      have hP : va_P G.1 pxCl [(a0, .inr (6, [.ref a4, .ref a5, .ref a6, .int 0, .ref a7, .int 0, .int 0, .int 0, .int 0, .ref a8, .int 0, .ref a9, .int 0, .int 0, .int 0, .int (-1), .ref a10, .ref a11, .int 0, .ref a1, .ref a2, .ref a3])), (a1, .inl (G.2.1 0, 3, .inl (upd (fun _ => 0) 1 i1))), (a2, .inl (G.2.1 0, 3, .inl (upd (fun _ => 0) 1 1))), (a3, .inl (G.2.1 0, 36, .inl (upd (upd (upd (fun _ => 0) 12 (-1)) 14 (-1)) 16 (-1))))] H := hP
      have hD : va_D A [(a0, .inr (6, [.ref a4, .ref a5, .ref a6, .int 0, .ref a7, .int 0, .int 0, .int 0, .int 0, .ref a8, .int 0, .ref a9, .int 0, .int 0, .int 0, .int (-1), .ref a10, .ref a11, .int 0, .ref a1, .ref a2, .ref a3])), (a1, .inl (G.2.1 0, 3, .inl (upd (fun _ => 0) 1 i1))), (a2, .inl (G.2.1 0, 3, .inl (upd (fun _ => 0) 1 1))), (a3, .inl (G.2.1 0, 36, .inl (upd (upd (upd (fun _ => 0) 12 (-1)) 14 (-1)) 16 (-1))))] := hD
      refine lv_iconst (v := (-1)) hx hb dX7_newDrawer_90 (by decide) ?_
      refine va_iast hx hb hK hP hD hS 3 0 rfl rfl (show ¬ ((18 : Int32) < 0 ∨ 36 ≤ (18 : Int32).toNatClampNeg) by decide +kernel) dX7_newDrawer_91 (fun H locs hP hD hS => ?_)
      have hP : va_P G.1 pxCl [(a0, .inr (6, [.ref a4, .ref a5, .ref a6, .int 0, .ref a7, .int 0, .int 0, .int 0, .int 0, .ref a8, .int 0, .ref a9, .int 0, .int 0, .int 0, .int (-1), .ref a10, .ref a11, .int 0, .ref a1, .ref a2, .ref a3])), (a1, .inl (G.2.1 0, 3, .inl (upd (fun _ => 0) 1 i1))), (a2, .inl (G.2.1 0, 3, .inl (upd (fun _ => 0) 1 1))), (a3, .inl (G.2.1 0, 36, .inl (upd (upd (upd (upd (fun _ => 0) 12 (-1)) 14 (-1)) 16 (-1)) 18 (-1))))] H := hP
      have hD : va_D A [(a0, .inr (6, [.ref a4, .ref a5, .ref a6, .int 0, .ref a7, .int 0, .int 0, .int 0, .int 0, .ref a8, .int 0, .ref a9, .int 0, .int 0, .int 0, .int (-1), .ref a10, .ref a11, .int 0, .ref a1, .ref a2, .ref a3])), (a1, .inl (G.2.1 0, 3, .inl (upd (fun _ => 0) 1 i1))), (a2, .inl (G.2.1 0, 3, .inl (upd (fun _ => 0) 1 1))), (a3, .inl (G.2.1 0, 36, .inl (upd (upd (upd (upd (fun _ => 0) 12 (-1)) 14 (-1)) 16 (-1)) 18 (-1))))] := hD
      refine lv_iinc (v := 4) (lv' := [(5, .int 4), (4, .int 0), (0, .ref a0), (1, .int 1), (2, .int 1), (3, .int i1)]) hx hb dX7_newDrawer_92 hl (k := 0) rfl (by decide) (by decide) rfl (fun ls hl => ?_)
      refine lv_goto (tgt := 73) hx hb dX7_newDrawer_95 (by decide) ?_
      refine lv_iload hx hb dX7_newDrawer_73 (lv_at hl 0 rfl) ?_
      refine lv_bipush (v := 6) hx hb dX7_newDrawer_75 (by decide) ?_
      refine lv_icmp_ge (tgt := 98) hx hb dX7_newDrawer_77 (by decide) (fun h9 => absurd h9 (by decide)) (fun _ => ?_)
      refine lv_aload_n hx hb dX7_newDrawer_80 rfl (lv_at hl 2 rfl) ?_
      refine va_get (D := G.1) (ci := 6) (v := .ref a3) (C := RX7) (T := TX7) (N := 22) hx hb hts piX7 hown hK hP 0 rfl rfl 21 (by decide) (hts _ pm85) (fun _ h9 => h9) rfl dX7_newDrawer_81 ?_
      refine lv_iload_n hx hb dX7_newDrawer_84 rfl (lv_at hl 3 rfl) ?_
      refine lv_iload hx hb dX7_newDrawer_85 (lv_at hl 0 rfl) ?_
      refine pxCi (va_runS (As := [.int 1, .int 4]) (rest := [.ref a3]) ⟨hx, hb, hml, hown, hts⟩ (k262_X7_filedAt l G H.size) (va_cwS 2 hts (pxGS pm663 pm664 pm71 pm665) rfl rfl rfl (by decide +kernel) ⟨(Nat.le_of_ble_eq_true rfl), (Nat.le_of_ble_eq_true rfl)⟩) (pxS hG hZ hP hD hS hA [] rfl (by decide)) rfl rfl hl.1 rfl (lv_room (Nat.le_of_ble_eq_true rfl)) dX7_newDrawer_87 ⟨(Nat.le_of_ble_eq_true rfl), (Nat.le_of_ble_eq_true rfl)⟩) hP hD hS hA [] [0, 1, 2, 3] rfl rfl (by decide) (by decide) (fun r16 q15 H locs hw hP hD hS => ?_)
      have hw : r16 = 20 := hw
      subst hw
      have hP : va_P G.1 pxCl [(a0, .inr (6, [.ref a4, .ref a5, .ref a6, .int 0, .ref a7, .int 0, .int 0, .int 0, .int 0, .ref a8, .int 0, .ref a9, .int 0, .int 0, .int 0, .int (-1), .ref a10, .ref a11, .int 0, .ref a1, .ref a2, .ref a3])), (a1, .inl (G.2.1 0, 3, .inl (upd (fun _ => 0) 1 i1))), (a2, .inl (G.2.1 0, 3, .inl (upd (fun _ => 0) 1 1))), (a3, .inl (G.2.1 0, 36, .inl (upd (upd (upd (upd (fun _ => 0) 12 (-1)) 14 (-1)) 16 (-1)) 18 (-1))))] H := hP
      have hD : va_D A [(a0, .inr (6, [.ref a4, .ref a5, .ref a6, .int 0, .ref a7, .int 0, .int 0, .int 0, .int 0, .ref a8, .int 0, .ref a9, .int 0, .int 0, .int 0, .int (-1), .ref a10, .ref a11, .int 0, .ref a1, .ref a2, .ref a3])), (a1, .inl (G.2.1 0, 3, .inl (upd (fun _ => 0) 1 i1))), (a2, .inl (G.2.1 0, 3, .inl (upd (fun _ => 0) 1 1))), (a3, .inl (G.2.1 0, 36, .inl (upd (upd (upd (upd (fun _ => 0) 12 (-1)) 14 (-1)) 16 (-1)) 18 (-1))))] := hD
      refine lv_iconst (v := (-1)) hx hb dX7_newDrawer_90 (by decide) ?_
      refine va_iast hx hb hK hP hD hS 3 0 rfl rfl (show ¬ ((20 : Int32) < 0 ∨ 36 ≤ (20 : Int32).toNatClampNeg) by decide +kernel) dX7_newDrawer_91 (fun H locs hP hD hS => ?_)
      have hP : va_P G.1 pxCl [(a0, .inr (6, [.ref a4, .ref a5, .ref a6, .int 0, .ref a7, .int 0, .int 0, .int 0, .int 0, .ref a8, .int 0, .ref a9, .int 0, .int 0, .int 0, .int (-1), .ref a10, .ref a11, .int 0, .ref a1, .ref a2, .ref a3])), (a1, .inl (G.2.1 0, 3, .inl (upd (fun _ => 0) 1 i1))), (a2, .inl (G.2.1 0, 3, .inl (upd (fun _ => 0) 1 1))), (a3, .inl (G.2.1 0, 36, .inl (upd (upd (upd (upd (upd (fun _ => 0) 12 (-1)) 14 (-1)) 16 (-1)) 18 (-1)) 20 (-1))))] H := hP
      have hD : va_D A [(a0, .inr (6, [.ref a4, .ref a5, .ref a6, .int 0, .ref a7, .int 0, .int 0, .int 0, .int 0, .ref a8, .int 0, .ref a9, .int 0, .int 0, .int 0, .int (-1), .ref a10, .ref a11, .int 0, .ref a1, .ref a2, .ref a3])), (a1, .inl (G.2.1 0, 3, .inl (upd (fun _ => 0) 1 i1))), (a2, .inl (G.2.1 0, 3, .inl (upd (fun _ => 0) 1 1))), (a3, .inl (G.2.1 0, 36, .inl (upd (upd (upd (upd (upd (fun _ => 0) 12 (-1)) 14 (-1)) 16 (-1)) 18 (-1)) 20 (-1))))] := hD
      refine lv_iinc (v := 5) (lv' := [(5, .int 5), (4, .int 0), (0, .ref a0), (1, .int 1), (2, .int 1), (3, .int i1)]) hx hb dX7_newDrawer_92 hl (k := 0) rfl (by decide) (by decide) rfl (fun ls hl => ?_)
      refine lv_goto (tgt := 73) hx hb dX7_newDrawer_95 (by decide) ?_
      refine lv_iload hx hb dX7_newDrawer_73 (lv_at hl 0 rfl) ?_
      refine lv_bipush (v := 6) hx hb dX7_newDrawer_75 (by decide) ?_
      refine lv_icmp_ge (tgt := 98) hx hb dX7_newDrawer_77 (by decide) (fun h9 => absurd h9 (by decide)) (fun _ => ?_)
      refine lv_aload_n hx hb dX7_newDrawer_80 rfl (lv_at hl 2 rfl) ?_
      refine va_get (D := G.1) (ci := 6) (v := .ref a3) (C := RX7) (T := TX7) (N := 22) hx hb hts piX7 hown hK hP 0 rfl rfl 21 (by decide) (hts _ pm85) (fun _ h9 => h9) rfl dX7_newDrawer_81 ?_
      refine lv_iload_n hx hb dX7_newDrawer_84 rfl (lv_at hl 3 rfl) ?_
      refine lv_iload hx hb dX7_newDrawer_85 (lv_at hl 0 rfl) ?_
      refine pxCi (va_runS (As := [.int 1, .int 5]) (rest := [.ref a3]) ⟨hx, hb, hml, hown, hts⟩ (k263_X7_filedAt l G H.size) (va_cwS 2 hts (pxGS pm663 pm664 pm71 pm665) rfl rfl rfl (by decide +kernel) ⟨(Nat.le_of_ble_eq_true rfl), (Nat.le_of_ble_eq_true rfl)⟩) (pxS hG hZ hP hD hS hA [] rfl (by decide)) rfl rfl hl.1 rfl (lv_room (Nat.le_of_ble_eq_true rfl)) dX7_newDrawer_87 ⟨(Nat.le_of_ble_eq_true rfl), (Nat.le_of_ble_eq_true rfl)⟩) hP hD hS hA [] [0, 1, 2, 3] rfl rfl (by decide) (by decide) (fun r18 q17 H locs hw hP hD hS => ?_)
      have hw : r18 = 22 := hw
      subst hw
      have hP : va_P G.1 pxCl [(a0, .inr (6, [.ref a4, .ref a5, .ref a6, .int 0, .ref a7, .int 0, .int 0, .int 0, .int 0, .ref a8, .int 0, .ref a9, .int 0, .int 0, .int 0, .int (-1), .ref a10, .ref a11, .int 0, .ref a1, .ref a2, .ref a3])), (a1, .inl (G.2.1 0, 3, .inl (upd (fun _ => 0) 1 i1))), (a2, .inl (G.2.1 0, 3, .inl (upd (fun _ => 0) 1 1))), (a3, .inl (G.2.1 0, 36, .inl (upd (upd (upd (upd (upd (fun _ => 0) 12 (-1)) 14 (-1)) 16 (-1)) 18 (-1)) 20 (-1))))] H := hP
      have hD : va_D A [(a0, .inr (6, [.ref a4, .ref a5, .ref a6, .int 0, .ref a7, .int 0, .int 0, .int 0, .int 0, .ref a8, .int 0, .ref a9, .int 0, .int 0, .int 0, .int (-1), .ref a10, .ref a11, .int 0, .ref a1, .ref a2, .ref a3])), (a1, .inl (G.2.1 0, 3, .inl (upd (fun _ => 0) 1 i1))), (a2, .inl (G.2.1 0, 3, .inl (upd (fun _ => 0) 1 1))), (a3, .inl (G.2.1 0, 36, .inl (upd (upd (upd (upd (upd (fun _ => 0) 12 (-1)) 14 (-1)) 16 (-1)) 18 (-1)) 20 (-1))))] := hD
      refine lv_iconst (v := (-1)) hx hb dX7_newDrawer_90 (by decide) ?_
      refine va_iast hx hb hK hP hD hS 3 0 rfl rfl (show ¬ ((22 : Int32) < 0 ∨ 36 ≤ (22 : Int32).toNatClampNeg) by decide +kernel) dX7_newDrawer_91 (fun H locs hP hD hS => ?_)
      have hP : va_P G.1 pxCl [(a0, .inr (6, [.ref a4, .ref a5, .ref a6, .int 0, .ref a7, .int 0, .int 0, .int 0, .int 0, .ref a8, .int 0, .ref a9, .int 0, .int 0, .int 0, .int (-1), .ref a10, .ref a11, .int 0, .ref a1, .ref a2, .ref a3])), (a1, .inl (G.2.1 0, 3, .inl (upd (fun _ => 0) 1 i1))), (a2, .inl (G.2.1 0, 3, .inl (upd (fun _ => 0) 1 1))), (a3, .inl (G.2.1 0, 36, .inl (upd (upd (upd (upd (upd (upd (fun _ => 0) 12 (-1)) 14 (-1)) 16 (-1)) 18 (-1)) 20 (-1)) 22 (-1))))] H := hP
      have hD : va_D A [(a0, .inr (6, [.ref a4, .ref a5, .ref a6, .int 0, .ref a7, .int 0, .int 0, .int 0, .int 0, .ref a8, .int 0, .ref a9, .int 0, .int 0, .int 0, .int (-1), .ref a10, .ref a11, .int 0, .ref a1, .ref a2, .ref a3])), (a1, .inl (G.2.1 0, 3, .inl (upd (fun _ => 0) 1 i1))), (a2, .inl (G.2.1 0, 3, .inl (upd (fun _ => 0) 1 1))), (a3, .inl (G.2.1 0, 36, .inl (upd (upd (upd (upd (upd (upd (fun _ => 0) 12 (-1)) 14 (-1)) 16 (-1)) 18 (-1)) 20 (-1)) 22 (-1))))] := hD
      refine lv_iinc (v := 6) (lv' := [(5, .int 6), (4, .int 0), (0, .ref a0), (1, .int 1), (2, .int 1), (3, .int i1)]) hx hb dX7_newDrawer_92 hl (k := 0) rfl (by decide) (by decide) rfl (fun ls hl => ?_)
      refine lv_goto (tgt := 73) hx hb dX7_newDrawer_95 (by decide) ?_
      refine lv_iload hx hb dX7_newDrawer_73 (lv_at hl 0 rfl) ?_
      refine lv_bipush (v := 6) hx hb dX7_newDrawer_75 (by decide) ?_
      refine lv_icmp_ge (tgt := 98) hx hb dX7_newDrawer_77 (by decide) (fun _ => ?_) (fun h9 => absurd (by decide) h9)
      refine lv_iload hx hb dX7_newDrawer_98 (lv_at hl 1 rfl) ?_
      have hD : va_D A [(a0, .inr (6, [.ref a4, .ref a5, .ref a6, .int 0, .ref a7, .int 0, .int 0, .int 0, .int 0, .ref a8, .int 0, .ref a9, .int 0, .int 0, .int 0, .int (-1), .ref a10, .ref a11, .int 0, .ref a1, .ref a2, .ref a3]))] := hD.sub [0] (by decide) rfl
      have hP : va_P G.1 pxCl [(a0, .inr (6, [.ref a4, .ref a5, .ref a6, .int 0, .ref a7, .int 0, .int 0, .int 0, .int 0, .ref a8, .int 0, .ref a9, .int 0, .int 0, .int 0, .int (-1), .ref a10, .ref a11, .int 0, .ref a1, .ref a2, .ref a3]))] H := hP.sub [0] rfl
      refine W.widen (k := 0) (n := 0) (Nat.le_of_ble_eq_true rfl) (Nat.le_of_ble_eq_true rfl) ?_
      exact W.iret (v := 0) hx hb hr (fun t ht hW => ⟨⟨0, (fun _ => 0), rfl, rfl, by rw [ht]; exact hP, hD⟩, hS.F ht⟩) hS.2.2 dX7_newDrawer_100
    · skip
      obtain rfl : i0 = 2 := pxEq 2 (by have h9 : (2 : Int32).toInt = 2 := (by decide); omega)
      refine va_iast hx hb hK hP hD hS 1 0 rfl rfl (show ¬ ((2 : Int32) < 0 ∨ 3 ≤ (2 : Int32).toNatClampNeg) by decide +kernel) dX7_newDrawer_62 (fun H locs hP hD hS => ?_)
      have hP : va_P G.1 pxCl [(a0, .inr (6, [.ref a4, .ref a5, .ref a6, .int 0, .ref a7, .int 0, .int 0, .int 0, .int 0, .ref a8, .int 0, .ref a9, .int 0, .int 0, .int 0, .int (-1), .ref a10, .ref a11, .int 0, .ref a1, .ref a2, .ref a3])), (a1, .inl (G.2.1 0, 3, .inl (upd (fun _ => 0) 2 i1))), (a2, .inl (G.2.1 0, 3, .inl (fun _ => 0))), (a3, .inl (G.2.1 0, 36, .inl (fun _ => 0)))] H := hP
      have hD : va_D A [(a0, .inr (6, [.ref a4, .ref a5, .ref a6, .int 0, .ref a7, .int 0, .int 0, .int 0, .int 0, .ref a8, .int 0, .ref a9, .int 0, .int 0, .int 0, .int (-1), .ref a10, .ref a11, .int 0, .ref a1, .ref a2, .ref a3])), (a1, .inl (G.2.1 0, 3, .inl (upd (fun _ => 0) 2 i1))), (a2, .inl (G.2.1 0, 3, .inl (fun _ => 0))), (a3, .inl (G.2.1 0, 36, .inl (fun _ => 0)))] := hD
      refine lv_aload_n hx hb dX7_newDrawer_63 rfl (lv_at hl 1 rfl) ?_
      refine va_get (D := G.1) (ci := 6) (v := .ref a2) (C := RX7) (T := TX7) (N := 22) hx hb hts piX7 hown hK hP 0 rfl rfl 20 (by decide) (hts _ pm84) (fun _ h9 => h9) rfl dX7_newDrawer_64 ?_
      refine lv_iload_n hx hb dX7_newDrawer_67 rfl (lv_at hl 2 rfl) ?_
      refine lv_iload_n hx hb dX7_newDrawer_68 rfl (lv_at hl 3 rfl) ?_
      refine va_iast hx hb hK hP hD hS 2 0 rfl rfl (show ¬ ((2 : Int32) < 0 ∨ 3 ≤ (2 : Int32).toNatClampNeg) by decide +kernel) dX7_newDrawer_69 (fun H locs hP hD hS => ?_)
      have hP : va_P G.1 pxCl [(a0, .inr (6, [.ref a4, .ref a5, .ref a6, .int 0, .ref a7, .int 0, .int 0, .int 0, .int 0, .ref a8, .int 0, .ref a9, .int 0, .int 0, .int 0, .int (-1), .ref a10, .ref a11, .int 0, .ref a1, .ref a2, .ref a3])), (a1, .inl (G.2.1 0, 3, .inl (upd (fun _ => 0) 2 i1))), (a2, .inl (G.2.1 0, 3, .inl (upd (fun _ => 0) 2 1))), (a3, .inl (G.2.1 0, 36, .inl (fun _ => 0)))] H := hP
      have hD : va_D A [(a0, .inr (6, [.ref a4, .ref a5, .ref a6, .int 0, .ref a7, .int 0, .int 0, .int 0, .int 0, .ref a8, .int 0, .ref a9, .int 0, .int 0, .int 0, .int (-1), .ref a10, .ref a11, .int 0, .ref a1, .ref a2, .ref a3])), (a1, .inl (G.2.1 0, 3, .inl (upd (fun _ => 0) 2 i1))), (a2, .inl (G.2.1 0, 3, .inl (upd (fun _ => 0) 2 1))), (a3, .inl (G.2.1 0, 36, .inl (fun _ => 0)))] := hD
      refine lv_iconst (v := 0) hx hb dX7_newDrawer_70 (by decide) ?_
      refine lv_istore (lv' := [(5, .int 0), (4, .int 0), (0, .ref a0), (1, .int 2), (2, .int 1), (3, .int i1)]) hx hb dX7_newDrawer_71 hl (by decide) rfl (fun ls hl => ?_)
      refine lv_iload hx hb dX7_newDrawer_73 (lv_at hl 0 rfl) ?_
      refine lv_bipush (v := 6) hx hb dX7_newDrawer_75 (by decide) ?_
      refine lv_icmp_ge (tgt := 98) hx hb dX7_newDrawer_77 (by decide) (fun h9 => absurd h9 (by decide)) (fun _ => ?_)
      refine lv_aload_n hx hb dX7_newDrawer_80 rfl (lv_at hl 2 rfl) ?_
      refine va_get (D := G.1) (ci := 6) (v := .ref a3) (C := RX7) (T := TX7) (N := 22) hx hb hts piX7 hown hK hP 0 rfl rfl 21 (by decide) (hts _ pm85) (fun _ h9 => h9) rfl dX7_newDrawer_81 ?_
      refine lv_iload_n hx hb dX7_newDrawer_84 rfl (lv_at hl 3 rfl) ?_
      refine lv_iload hx hb dX7_newDrawer_85 (lv_at hl 0 rfl) ?_
      refine pxCi (va_runS (As := [.int 2, .int 0]) (rest := [.ref a3]) ⟨hx, hb, hml, hown, hts⟩ (k264_X7_filedAt l G H.size) (va_cwS 2 hts (pxGS pm663 pm664 pm71 pm665) rfl rfl rfl (by decide +kernel) ⟨(Nat.le_of_ble_eq_true rfl), (Nat.le_of_ble_eq_true rfl)⟩) (pxS hG hZ hP hD hS hA [] rfl (by decide)) rfl rfl hl.1 rfl (lv_room (Nat.le_of_ble_eq_true rfl)) dX7_newDrawer_87 ⟨(Nat.le_of_ble_eq_true rfl), (Nat.le_of_ble_eq_true rfl)⟩) hP hD hS hA [] [0, 1, 2, 3] rfl rfl (by decide) (by decide) (fun r8 q7 H locs hw hP hD hS => ?_)
      have hw : r8 = 24 := hw
      subst hw
      have hP : va_P G.1 pxCl [(a0, .inr (6, [.ref a4, .ref a5, .ref a6, .int 0, .ref a7, .int 0, .int 0, .int 0, .int 0, .ref a8, .int 0, .ref a9, .int 0, .int 0, .int 0, .int (-1), .ref a10, .ref a11, .int 0, .ref a1, .ref a2, .ref a3])), (a1, .inl (G.2.1 0, 3, .inl (upd (fun _ => 0) 2 i1))), (a2, .inl (G.2.1 0, 3, .inl (upd (fun _ => 0) 2 1))), (a3, .inl (G.2.1 0, 36, .inl (fun _ => 0)))] H := hP
      have hD : va_D A [(a0, .inr (6, [.ref a4, .ref a5, .ref a6, .int 0, .ref a7, .int 0, .int 0, .int 0, .int 0, .ref a8, .int 0, .ref a9, .int 0, .int 0, .int 0, .int (-1), .ref a10, .ref a11, .int 0, .ref a1, .ref a2, .ref a3])), (a1, .inl (G.2.1 0, 3, .inl (upd (fun _ => 0) 2 i1))), (a2, .inl (G.2.1 0, 3, .inl (upd (fun _ => 0) 2 1))), (a3, .inl (G.2.1 0, 36, .inl (fun _ => 0)))] := hD
      refine lv_iconst (v := (-1)) hx hb dX7_newDrawer_90 (by decide) ?_
      refine va_iast hx hb hK hP hD hS 3 0 rfl rfl (show ¬ ((24 : Int32) < 0 ∨ 36 ≤ (24 : Int32).toNatClampNeg) by decide +kernel) dX7_newDrawer_91 (fun H locs hP hD hS => ?_)
      have hP : va_P G.1 pxCl [(a0, .inr (6, [.ref a4, .ref a5, .ref a6, .int 0, .ref a7, .int 0, .int 0, .int 0, .int 0, .ref a8, .int 0, .ref a9, .int 0, .int 0, .int 0, .int (-1), .ref a10, .ref a11, .int 0, .ref a1, .ref a2, .ref a3])), (a1, .inl (G.2.1 0, 3, .inl (upd (fun _ => 0) 2 i1))), (a2, .inl (G.2.1 0, 3, .inl (upd (fun _ => 0) 2 1))), (a3, .inl (G.2.1 0, 36, .inl (upd (fun _ => 0) 24 (-1))))] H := hP
      have hD : va_D A [(a0, .inr (6, [.ref a4, .ref a5, .ref a6, .int 0, .ref a7, .int 0, .int 0, .int 0, .int 0, .ref a8, .int 0, .ref a9, .int 0, .int 0, .int 0, .int (-1), .ref a10, .ref a11, .int 0, .ref a1, .ref a2, .ref a3])), (a1, .inl (G.2.1 0, 3, .inl (upd (fun _ => 0) 2 i1))), (a2, .inl (G.2.1 0, 3, .inl (upd (fun _ => 0) 2 1))), (a3, .inl (G.2.1 0, 36, .inl (upd (fun _ => 0) 24 (-1))))] := hD
      refine lv_iinc (v := 1) (lv' := [(5, .int 1), (4, .int 0), (0, .ref a0), (1, .int 2), (2, .int 1), (3, .int i1)]) hx hb dX7_newDrawer_92 hl (k := 0) rfl (by decide) (by decide) rfl (fun ls hl => ?_)
      refine lv_goto (tgt := 73) hx hb dX7_newDrawer_95 (by decide) ?_
      refine lv_iload hx hb dX7_newDrawer_73 (lv_at hl 0 rfl) ?_
      refine lv_bipush (v := 6) hx hb dX7_newDrawer_75 (by decide) ?_
      refine lv_icmp_ge (tgt := 98) hx hb dX7_newDrawer_77 (by decide) (fun h9 => absurd h9 (by decide)) (fun _ => ?_)
      refine lv_aload_n hx hb dX7_newDrawer_80 rfl (lv_at hl 2 rfl) ?_
      refine va_get (D := G.1) (ci := 6) (v := .ref a3) (C := RX7) (T := TX7) (N := 22) hx hb hts piX7 hown hK hP 0 rfl rfl 21 (by decide) (hts _ pm85) (fun _ h9 => h9) rfl dX7_newDrawer_81 ?_
      refine lv_iload_n hx hb dX7_newDrawer_84 rfl (lv_at hl 3 rfl) ?_
      refine lv_iload hx hb dX7_newDrawer_85 (lv_at hl 0 rfl) ?_
      refine pxCi (va_runS (As := [.int 2, .int 1]) (rest := [.ref a3]) ⟨hx, hb, hml, hown, hts⟩ (k265_X7_filedAt l G H.size) (va_cwS 2 hts (pxGS pm663 pm664 pm71 pm665) rfl rfl rfl (by decide +kernel) ⟨(Nat.le_of_ble_eq_true rfl), (Nat.le_of_ble_eq_true rfl)⟩) (pxS hG hZ hP hD hS hA [] rfl (by decide)) rfl rfl hl.1 rfl (lv_room (Nat.le_of_ble_eq_true rfl)) dX7_newDrawer_87 ⟨(Nat.le_of_ble_eq_true rfl), (Nat.le_of_ble_eq_true rfl)⟩) hP hD hS hA [] [0, 1, 2, 3] rfl rfl (by decide) (by decide) (fun r10 q9 H locs hw hP hD hS => ?_)
      have hw : r10 = 26 := hw
      subst hw
      have hP : va_P G.1 pxCl [(a0, .inr (6, [.ref a4, .ref a5, .ref a6, .int 0, .ref a7, .int 0, .int 0, .int 0, .int 0, .ref a8, .int 0, .ref a9, .int 0, .int 0, .int 0, .int (-1), .ref a10, .ref a11, .int 0, .ref a1, .ref a2, .ref a3])), (a1, .inl (G.2.1 0, 3, .inl (upd (fun _ => 0) 2 i1))), (a2, .inl (G.2.1 0, 3, .inl (upd (fun _ => 0) 2 1))), (a3, .inl (G.2.1 0, 36, .inl (upd (fun _ => 0) 24 (-1))))] H := hP
      have hD : va_D A [(a0, .inr (6, [.ref a4, .ref a5, .ref a6, .int 0, .ref a7, .int 0, .int 0, .int 0, .int 0, .ref a8, .int 0, .ref a9, .int 0, .int 0, .int 0, .int (-1), .ref a10, .ref a11, .int 0, .ref a1, .ref a2, .ref a3])), (a1, .inl (G.2.1 0, 3, .inl (upd (fun _ => 0) 2 i1))), (a2, .inl (G.2.1 0, 3, .inl (upd (fun _ => 0) 2 1))), (a3, .inl (G.2.1 0, 36, .inl (upd (fun _ => 0) 24 (-1))))] := hD
      refine lv_iconst (v := (-1)) hx hb dX7_newDrawer_90 (by decide) ?_
      refine va_iast hx hb hK hP hD hS 3 0 rfl rfl (show ¬ ((26 : Int32) < 0 ∨ 36 ≤ (26 : Int32).toNatClampNeg) by decide +kernel) dX7_newDrawer_91 (fun H locs hP hD hS => ?_)
      have hP : va_P G.1 pxCl [(a0, .inr (6, [.ref a4, .ref a5, .ref a6, .int 0, .ref a7, .int 0, .int 0, .int 0, .int 0, .ref a8, .int 0, .ref a9, .int 0, .int 0, .int 0, .int (-1), .ref a10, .ref a11, .int 0, .ref a1, .ref a2, .ref a3])), (a1, .inl (G.2.1 0, 3, .inl (upd (fun _ => 0) 2 i1))), (a2, .inl (G.2.1 0, 3, .inl (upd (fun _ => 0) 2 1))), (a3, .inl (G.2.1 0, 36, .inl (upd (upd (fun _ => 0) 24 (-1)) 26 (-1))))] H := hP
      have hD : va_D A [(a0, .inr (6, [.ref a4, .ref a5, .ref a6, .int 0, .ref a7, .int 0, .int 0, .int 0, .int 0, .ref a8, .int 0, .ref a9, .int 0, .int 0, .int 0, .int (-1), .ref a10, .ref a11, .int 0, .ref a1, .ref a2, .ref a3])), (a1, .inl (G.2.1 0, 3, .inl (upd (fun _ => 0) 2 i1))), (a2, .inl (G.2.1 0, 3, .inl (upd (fun _ => 0) 2 1))), (a3, .inl (G.2.1 0, 36, .inl (upd (upd (fun _ => 0) 24 (-1)) 26 (-1))))] := hD
      refine lv_iinc (v := 2) (lv' := [(5, .int 2), (4, .int 0), (0, .ref a0), (1, .int 2), (2, .int 1), (3, .int i1)]) hx hb dX7_newDrawer_92 hl (k := 0) rfl (by decide) (by decide) rfl (fun ls hl => ?_)
      refine lv_goto (tgt := 73) hx hb dX7_newDrawer_95 (by decide) ?_
      refine lv_iload hx hb dX7_newDrawer_73 (lv_at hl 0 rfl) ?_
      refine lv_bipush (v := 6) hx hb dX7_newDrawer_75 (by decide) ?_
      refine lv_icmp_ge (tgt := 98) hx hb dX7_newDrawer_77 (by decide) (fun h9 => absurd h9 (by decide)) (fun _ => ?_)
      refine lv_aload_n hx hb dX7_newDrawer_80 rfl (lv_at hl 2 rfl) ?_
      refine va_get (D := G.1) (ci := 6) (v := .ref a3) (C := RX7) (T := TX7) (N := 22) hx hb hts piX7 hown hK hP 0 rfl rfl 21 (by decide) (hts _ pm85) (fun _ h9 => h9) rfl dX7_newDrawer_81 ?_
      refine lv_iload_n hx hb dX7_newDrawer_84 rfl (lv_at hl 3 rfl) ?_
      refine lv_iload hx hb dX7_newDrawer_85 (lv_at hl 0 rfl) ?_
      refine pxCi (va_runS (As := [.int 2, .int 2]) (rest := [.ref a3]) ⟨hx, hb, hml, hown, hts⟩ (k266_X7_filedAt l G H.size) (va_cwS 2 hts (pxGS pm663 pm664 pm71 pm665) rfl rfl rfl (by decide +kernel) ⟨(Nat.le_of_ble_eq_true rfl), (Nat.le_of_ble_eq_true rfl)⟩) (pxS hG hZ hP hD hS hA [] rfl (by decide)) rfl rfl hl.1 rfl (lv_room (Nat.le_of_ble_eq_true rfl)) dX7_newDrawer_87 ⟨(Nat.le_of_ble_eq_true rfl), (Nat.le_of_ble_eq_true rfl)⟩) hP hD hS hA [] [0, 1, 2, 3] rfl rfl (by decide) (by decide) (fun r12 q11 H locs hw hP hD hS => ?_)
      have hw : r12 = 28 := hw
      subst hw
      have hP : va_P G.1 pxCl [(a0, .inr (6, [.ref a4, .ref a5, .ref a6, .int 0, .ref a7, .int 0, .int 0, .int 0, .int 0, .ref a8, .int 0, .ref a9, .int 0, .int 0, .int 0, .int (-1), .ref a10, .ref a11, .int 0, .ref a1, .ref a2, .ref a3])), (a1, .inl (G.2.1 0, 3, .inl (upd (fun _ => 0) 2 i1))), (a2, .inl (G.2.1 0, 3, .inl (upd (fun _ => 0) 2 1))), (a3, .inl (G.2.1 0, 36, .inl (upd (upd (fun _ => 0) 24 (-1)) 26 (-1))))] H := hP
      have hD : va_D A [(a0, .inr (6, [.ref a4, .ref a5, .ref a6, .int 0, .ref a7, .int 0, .int 0, .int 0, .int 0, .ref a8, .int 0, .ref a9, .int 0, .int 0, .int 0, .int (-1), .ref a10, .ref a11, .int 0, .ref a1, .ref a2, .ref a3])), (a1, .inl (G.2.1 0, 3, .inl (upd (fun _ => 0) 2 i1))), (a2, .inl (G.2.1 0, 3, .inl (upd (fun _ => 0) 2 1))), (a3, .inl (G.2.1 0, 36, .inl (upd (upd (fun _ => 0) 24 (-1)) 26 (-1))))] := hD
      refine lv_iconst (v := (-1)) hx hb dX7_newDrawer_90 (by decide) ?_
      refine va_iast hx hb hK hP hD hS 3 0 rfl rfl (show ¬ ((28 : Int32) < 0 ∨ 36 ≤ (28 : Int32).toNatClampNeg) by decide +kernel) dX7_newDrawer_91 (fun H locs hP hD hS => ?_)
      have hP : va_P G.1 pxCl [(a0, .inr (6, [.ref a4, .ref a5, .ref a6, .int 0, .ref a7, .int 0, .int 0, .int 0, .int 0, .ref a8, .int 0, .ref a9, .int 0, .int 0, .int 0, .int (-1), .ref a10, .ref a11, .int 0, .ref a1, .ref a2, .ref a3])), (a1, .inl (G.2.1 0, 3, .inl (upd (fun _ => 0) 2 i1))), (a2, .inl (G.2.1 0, 3, .inl (upd (fun _ => 0) 2 1))), (a3, .inl (G.2.1 0, 36, .inl (upd (upd (upd (fun _ => 0) 24 (-1)) 26 (-1)) 28 (-1))))] H := hP
      have hD : va_D A [(a0, .inr (6, [.ref a4, .ref a5, .ref a6, .int 0, .ref a7, .int 0, .int 0, .int 0, .int 0, .ref a8, .int 0, .ref a9, .int 0, .int 0, .int 0, .int (-1), .ref a10, .ref a11, .int 0, .ref a1, .ref a2, .ref a3])), (a1, .inl (G.2.1 0, 3, .inl (upd (fun _ => 0) 2 i1))), (a2, .inl (G.2.1 0, 3, .inl (upd (fun _ => 0) 2 1))), (a3, .inl (G.2.1 0, 36, .inl (upd (upd (upd (fun _ => 0) 24 (-1)) 26 (-1)) 28 (-1))))] := hD
      refine lv_iinc (v := 3) (lv' := [(5, .int 3), (4, .int 0), (0, .ref a0), (1, .int 2), (2, .int 1), (3, .int i1)]) hx hb dX7_newDrawer_92 hl (k := 0) rfl (by decide) (by decide) rfl (fun ls hl => ?_)
      refine lv_goto (tgt := 73) hx hb dX7_newDrawer_95 (by decide) ?_
      refine lv_iload hx hb dX7_newDrawer_73 (lv_at hl 0 rfl) ?_
      refine lv_bipush (v := 6) hx hb dX7_newDrawer_75 (by decide) ?_
      refine lv_icmp_ge (tgt := 98) hx hb dX7_newDrawer_77 (by decide) (fun h9 => absurd h9 (by decide)) (fun _ => ?_)
      refine lv_aload_n hx hb dX7_newDrawer_80 rfl (lv_at hl 2 rfl) ?_
      refine va_get (D := G.1) (ci := 6) (v := .ref a3) (C := RX7) (T := TX7) (N := 22) hx hb hts piX7 hown hK hP 0 rfl rfl 21 (by decide) (hts _ pm85) (fun _ h9 => h9) rfl dX7_newDrawer_81 ?_
      refine lv_iload_n hx hb dX7_newDrawer_84 rfl (lv_at hl 3 rfl) ?_
      refine lv_iload hx hb dX7_newDrawer_85 (lv_at hl 0 rfl) ?_
      refine pxCi (va_runS (As := [.int 2, .int 3]) (rest := [.ref a3]) ⟨hx, hb, hml, hown, hts⟩ (k267_X7_filedAt l G H.size) (va_cwS 2 hts (pxGS pm663 pm664 pm71 pm665) rfl rfl rfl (by decide +kernel) ⟨(Nat.le_of_ble_eq_true rfl), (Nat.le_of_ble_eq_true rfl)⟩) (pxS hG hZ hP hD hS hA [] rfl (by decide)) rfl rfl hl.1 rfl (lv_room (Nat.le_of_ble_eq_true rfl)) dX7_newDrawer_87 ⟨(Nat.le_of_ble_eq_true rfl), (Nat.le_of_ble_eq_true rfl)⟩) hP hD hS hA [] [0, 1, 2, 3] rfl rfl (by decide) (by decide) (fun r14 q13 H locs hw hP hD hS => ?_)
      have hw : r14 = 30 := hw
      subst hw
      have hP : va_P G.1 pxCl [(a0, .inr (6, [.ref a4, .ref a5, .ref a6, .int 0, .ref a7, .int 0, .int 0, .int 0, .int 0, .ref a8, .int 0, .ref a9, .int 0, .int 0, .int 0, .int (-1), .ref a10, .ref a11, .int 0, .ref a1, .ref a2, .ref a3])), (a1, .inl (G.2.1 0, 3, .inl (upd (fun _ => 0) 2 i1))), (a2, .inl (G.2.1 0, 3, .inl (upd (fun _ => 0) 2 1))), (a3, .inl (G.2.1 0, 36, .inl (upd (upd (upd (fun _ => 0) 24 (-1)) 26 (-1)) 28 (-1))))] H := hP
      have hD : va_D A [(a0, .inr (6, [.ref a4, .ref a5, .ref a6, .int 0, .ref a7, .int 0, .int 0, .int 0, .int 0, .ref a8, .int 0, .ref a9, .int 0, .int 0, .int 0, .int (-1), .ref a10, .ref a11, .int 0, .ref a1, .ref a2, .ref a3])), (a1, .inl (G.2.1 0, 3, .inl (upd (fun _ => 0) 2 i1))), (a2, .inl (G.2.1 0, 3, .inl (upd (fun _ => 0) 2 1))), (a3, .inl (G.2.1 0, 36, .inl (upd (upd (upd (fun _ => 0) 24 (-1)) 26 (-1)) 28 (-1))))] := hD
      refine lv_iconst (v := (-1)) hx hb dX7_newDrawer_90 (by decide) ?_
      refine va_iast hx hb hK hP hD hS 3 0 rfl rfl (show ¬ ((30 : Int32) < 0 ∨ 36 ≤ (30 : Int32).toNatClampNeg) by decide +kernel) dX7_newDrawer_91 (fun H locs hP hD hS => ?_)
      have hP : va_P G.1 pxCl [(a0, .inr (6, [.ref a4, .ref a5, .ref a6, .int 0, .ref a7, .int 0, .int 0, .int 0, .int 0, .ref a8, .int 0, .ref a9, .int 0, .int 0, .int 0, .int (-1), .ref a10, .ref a11, .int 0, .ref a1, .ref a2, .ref a3])), (a1, .inl (G.2.1 0, 3, .inl (upd (fun _ => 0) 2 i1))), (a2, .inl (G.2.1 0, 3, .inl (upd (fun _ => 0) 2 1))), (a3, .inl (G.2.1 0, 36, .inl (upd (upd (upd (upd (fun _ => 0) 24 (-1)) 26 (-1)) 28 (-1)) 30 (-1))))] H := hP
      have hD : va_D A [(a0, .inr (6, [.ref a4, .ref a5, .ref a6, .int 0, .ref a7, .int 0, .int 0, .int 0, .int 0, .ref a8, .int 0, .ref a9, .int 0, .int 0, .int 0, .int (-1), .ref a10, .ref a11, .int 0, .ref a1, .ref a2, .ref a3])), (a1, .inl (G.2.1 0, 3, .inl (upd (fun _ => 0) 2 i1))), (a2, .inl (G.2.1 0, 3, .inl (upd (fun _ => 0) 2 1))), (a3, .inl (G.2.1 0, 36, .inl (upd (upd (upd (upd (fun _ => 0) 24 (-1)) 26 (-1)) 28 (-1)) 30 (-1))))] := hD
      refine lv_iinc (v := 4) (lv' := [(5, .int 4), (4, .int 0), (0, .ref a0), (1, .int 2), (2, .int 1), (3, .int i1)]) hx hb dX7_newDrawer_92 hl (k := 0) rfl (by decide) (by decide) rfl (fun ls hl => ?_)
      refine lv_goto (tgt := 73) hx hb dX7_newDrawer_95 (by decide) ?_
      refine lv_iload hx hb dX7_newDrawer_73 (lv_at hl 0 rfl) ?_
      refine lv_bipush (v := 6) hx hb dX7_newDrawer_75 (by decide) ?_
      refine lv_icmp_ge (tgt := 98) hx hb dX7_newDrawer_77 (by decide) (fun h9 => absurd h9 (by decide)) (fun _ => ?_)
      refine lv_aload_n hx hb dX7_newDrawer_80 rfl (lv_at hl 2 rfl) ?_
      refine va_get (D := G.1) (ci := 6) (v := .ref a3) (C := RX7) (T := TX7) (N := 22) hx hb hts piX7 hown hK hP 0 rfl rfl 21 (by decide) (hts _ pm85) (fun _ h9 => h9) rfl dX7_newDrawer_81 ?_
      refine lv_iload_n hx hb dX7_newDrawer_84 rfl (lv_at hl 3 rfl) ?_
      refine lv_iload hx hb dX7_newDrawer_85 (lv_at hl 0 rfl) ?_
      refine pxCi (va_runS (As := [.int 2, .int 4]) (rest := [.ref a3]) ⟨hx, hb, hml, hown, hts⟩ (k268_X7_filedAt l G H.size) (va_cwS 2 hts (pxGS pm663 pm664 pm71 pm665) rfl rfl rfl (by decide +kernel) ⟨(Nat.le_of_ble_eq_true rfl), (Nat.le_of_ble_eq_true rfl)⟩) (pxS hG hZ hP hD hS hA [] rfl (by decide)) rfl rfl hl.1 rfl (lv_room (Nat.le_of_ble_eq_true rfl)) dX7_newDrawer_87 ⟨(Nat.le_of_ble_eq_true rfl), (Nat.le_of_ble_eq_true rfl)⟩) hP hD hS hA [] [0, 1, 2, 3] rfl rfl (by decide) (by decide) (fun r16 q15 H locs hw hP hD hS => ?_)
      have hw : r16 = 32 := hw
      subst hw
      have hP : va_P G.1 pxCl [(a0, .inr (6, [.ref a4, .ref a5, .ref a6, .int 0, .ref a7, .int 0, .int 0, .int 0, .int 0, .ref a8, .int 0, .ref a9, .int 0, .int 0, .int 0, .int (-1), .ref a10, .ref a11, .int 0, .ref a1, .ref a2, .ref a3])), (a1, .inl (G.2.1 0, 3, .inl (upd (fun _ => 0) 2 i1))), (a2, .inl (G.2.1 0, 3, .inl (upd (fun _ => 0) 2 1))), (a3, .inl (G.2.1 0, 36, .inl (upd (upd (upd (upd (fun _ => 0) 24 (-1)) 26 (-1)) 28 (-1)) 30 (-1))))] H := hP
      have hD : va_D A [(a0, .inr (6, [.ref a4, .ref a5, .ref a6, .int 0, .ref a7, .int 0, .int 0, .int 0, .int 0, .ref a8, .int 0, .ref a9, .int 0, .int 0, .int 0, .int (-1), .ref a10, .ref a11, .int 0, .ref a1, .ref a2, .ref a3])), (a1, .inl (G.2.1 0, 3, .inl (upd (fun _ => 0) 2 i1))), (a2, .inl (G.2.1 0, 3, .inl (upd (fun _ => 0) 2 1))), (a3, .inl (G.2.1 0, 36, .inl (upd (upd (upd (upd (fun _ => 0) 24 (-1)) 26 (-1)) 28 (-1)) 30 (-1))))] := hD
      refine lv_iconst (v := (-1)) hx hb dX7_newDrawer_90 (by decide) ?_
      refine va_iast hx hb hK hP hD hS 3 0 rfl rfl (show ¬ ((32 : Int32) < 0 ∨ 36 ≤ (32 : Int32).toNatClampNeg) by decide +kernel) dX7_newDrawer_91 (fun H locs hP hD hS => ?_)
      have hP : va_P G.1 pxCl [(a0, .inr (6, [.ref a4, .ref a5, .ref a6, .int 0, .ref a7, .int 0, .int 0, .int 0, .int 0, .ref a8, .int 0, .ref a9, .int 0, .int 0, .int 0, .int (-1), .ref a10, .ref a11, .int 0, .ref a1, .ref a2, .ref a3])), (a1, .inl (G.2.1 0, 3, .inl (upd (fun _ => 0) 2 i1))), (a2, .inl (G.2.1 0, 3, .inl (upd (fun _ => 0) 2 1))), (a3, .inl (G.2.1 0, 36, .inl (upd (upd (upd (upd (upd (fun _ => 0) 24 (-1)) 26 (-1)) 28 (-1)) 30 (-1)) 32 (-1))))] H := hP
      have hD : va_D A [(a0, .inr (6, [.ref a4, .ref a5, .ref a6, .int 0, .ref a7, .int 0, .int 0, .int 0, .int 0, .ref a8, .int 0, .ref a9, .int 0, .int 0, .int 0, .int (-1), .ref a10, .ref a11, .int 0, .ref a1, .ref a2, .ref a3])), (a1, .inl (G.2.1 0, 3, .inl (upd (fun _ => 0) 2 i1))), (a2, .inl (G.2.1 0, 3, .inl (upd (fun _ => 0) 2 1))), (a3, .inl (G.2.1 0, 36, .inl (upd (upd (upd (upd (upd (fun _ => 0) 24 (-1)) 26 (-1)) 28 (-1)) 30 (-1)) 32 (-1))))] := hD
      refine lv_iinc (v := 5) (lv' := [(5, .int 5), (4, .int 0), (0, .ref a0), (1, .int 2), (2, .int 1), (3, .int i1)]) hx hb dX7_newDrawer_92 hl (k := 0) rfl (by decide) (by decide) rfl (fun ls hl => ?_)
      refine lv_goto (tgt := 73) hx hb dX7_newDrawer_95 (by decide) ?_
      refine lv_iload hx hb dX7_newDrawer_73 (lv_at hl 0 rfl) ?_
      refine lv_bipush (v := 6) hx hb dX7_newDrawer_75 (by decide) ?_
      refine lv_icmp_ge (tgt := 98) hx hb dX7_newDrawer_77 (by decide) (fun h9 => absurd h9 (by decide)) (fun _ => ?_)
      refine lv_aload_n hx hb dX7_newDrawer_80 rfl (lv_at hl 2 rfl) ?_
      refine va_get (D := G.1) (ci := 6) (v := .ref a3) (C := RX7) (T := TX7) (N := 22) hx hb hts piX7 hown hK hP 0 rfl rfl 21 (by decide) (hts _ pm85) (fun _ h9 => h9) rfl dX7_newDrawer_81 ?_
      refine lv_iload_n hx hb dX7_newDrawer_84 rfl (lv_at hl 3 rfl) ?_
      refine lv_iload hx hb dX7_newDrawer_85 (lv_at hl 0 rfl) ?_
      refine pxCi (va_runS (As := [.int 2, .int 5]) (rest := [.ref a3]) ⟨hx, hb, hml, hown, hts⟩ (k269_X7_filedAt l G H.size) (va_cwS 2 hts (pxGS pm663 pm664 pm71 pm665) rfl rfl rfl (by decide +kernel) ⟨(Nat.le_of_ble_eq_true rfl), (Nat.le_of_ble_eq_true rfl)⟩) (pxS hG hZ hP hD hS hA [] rfl (by decide)) rfl rfl hl.1 rfl (lv_room (Nat.le_of_ble_eq_true rfl)) dX7_newDrawer_87 ⟨(Nat.le_of_ble_eq_true rfl), (Nat.le_of_ble_eq_true rfl)⟩) hP hD hS hA [] [0, 1, 2, 3] rfl rfl (by decide) (by decide) (fun r18 q17 H locs hw hP hD hS => ?_)
      have hw : r18 = 34 := hw
      subst hw
      have hP : va_P G.1 pxCl [(a0, .inr (6, [.ref a4, .ref a5, .ref a6, .int 0, .ref a7, .int 0, .int 0, .int 0, .int 0, .ref a8, .int 0, .ref a9, .int 0, .int 0, .int 0, .int (-1), .ref a10, .ref a11, .int 0, .ref a1, .ref a2, .ref a3])), (a1, .inl (G.2.1 0, 3, .inl (upd (fun _ => 0) 2 i1))), (a2, .inl (G.2.1 0, 3, .inl (upd (fun _ => 0) 2 1))), (a3, .inl (G.2.1 0, 36, .inl (upd (upd (upd (upd (upd (fun _ => 0) 24 (-1)) 26 (-1)) 28 (-1)) 30 (-1)) 32 (-1))))] H := hP
      have hD : va_D A [(a0, .inr (6, [.ref a4, .ref a5, .ref a6, .int 0, .ref a7, .int 0, .int 0, .int 0, .int 0, .ref a8, .int 0, .ref a9, .int 0, .int 0, .int 0, .int (-1), .ref a10, .ref a11, .int 0, .ref a1, .ref a2, .ref a3])), (a1, .inl (G.2.1 0, 3, .inl (upd (fun _ => 0) 2 i1))), (a2, .inl (G.2.1 0, 3, .inl (upd (fun _ => 0) 2 1))), (a3, .inl (G.2.1 0, 36, .inl (upd (upd (upd (upd (upd (fun _ => 0) 24 (-1)) 26 (-1)) 28 (-1)) 30 (-1)) 32 (-1))))] := hD
      refine lv_iconst (v := (-1)) hx hb dX7_newDrawer_90 (by decide) ?_
      refine va_iast hx hb hK hP hD hS 3 0 rfl rfl (show ¬ ((34 : Int32) < 0 ∨ 36 ≤ (34 : Int32).toNatClampNeg) by decide +kernel) dX7_newDrawer_91 (fun H locs hP hD hS => ?_)
      have hP : va_P G.1 pxCl [(a0, .inr (6, [.ref a4, .ref a5, .ref a6, .int 0, .ref a7, .int 0, .int 0, .int 0, .int 0, .ref a8, .int 0, .ref a9, .int 0, .int 0, .int 0, .int (-1), .ref a10, .ref a11, .int 0, .ref a1, .ref a2, .ref a3])), (a1, .inl (G.2.1 0, 3, .inl (upd (fun _ => 0) 2 i1))), (a2, .inl (G.2.1 0, 3, .inl (upd (fun _ => 0) 2 1))), (a3, .inl (G.2.1 0, 36, .inl (upd (upd (upd (upd (upd (upd (fun _ => 0) 24 (-1)) 26 (-1)) 28 (-1)) 30 (-1)) 32 (-1)) 34 (-1))))] H := hP
      have hD : va_D A [(a0, .inr (6, [.ref a4, .ref a5, .ref a6, .int 0, .ref a7, .int 0, .int 0, .int 0, .int 0, .ref a8, .int 0, .ref a9, .int 0, .int 0, .int 0, .int (-1), .ref a10, .ref a11, .int 0, .ref a1, .ref a2, .ref a3])), (a1, .inl (G.2.1 0, 3, .inl (upd (fun _ => 0) 2 i1))), (a2, .inl (G.2.1 0, 3, .inl (upd (fun _ => 0) 2 1))), (a3, .inl (G.2.1 0, 36, .inl (upd (upd (upd (upd (upd (upd (fun _ => 0) 24 (-1)) 26 (-1)) 28 (-1)) 30 (-1)) 32 (-1)) 34 (-1))))] := hD
      refine lv_iinc (v := 6) (lv' := [(5, .int 6), (4, .int 0), (0, .ref a0), (1, .int 2), (2, .int 1), (3, .int i1)]) hx hb dX7_newDrawer_92 hl (k := 0) rfl (by decide) (by decide) rfl (fun ls hl => ?_)
      refine lv_goto (tgt := 73) hx hb dX7_newDrawer_95 (by decide) ?_
      refine lv_iload hx hb dX7_newDrawer_73 (lv_at hl 0 rfl) ?_
      refine lv_bipush (v := 6) hx hb dX7_newDrawer_75 (by decide) ?_
      refine lv_icmp_ge (tgt := 98) hx hb dX7_newDrawer_77 (by decide) (fun _ => ?_) (fun h9 => absurd (by decide) h9)
      refine lv_iload hx hb dX7_newDrawer_98 (lv_at hl 1 rfl) ?_
      have hD : va_D A [(a0, .inr (6, [.ref a4, .ref a5, .ref a6, .int 0, .ref a7, .int 0, .int 0, .int 0, .int 0, .ref a8, .int 0, .ref a9, .int 0, .int 0, .int 0, .int (-1), .ref a10, .ref a11, .int 0, .ref a1, .ref a2, .ref a3]))] := hD.sub [0] (by decide) rfl
      have hP : va_P G.1 pxCl [(a0, .inr (6, [.ref a4, .ref a5, .ref a6, .int 0, .ref a7, .int 0, .int 0, .int 0, .int 0, .ref a8, .int 0, .ref a9, .int 0, .int 0, .int 0, .int (-1), .ref a10, .ref a11, .int 0, .ref a1, .ref a2, .ref a3]))] H := hP.sub [0] rfl
      refine W.widen (k := 0) (n := 0) (Nat.le_of_ble_eq_true rfl) (Nat.le_of_ble_eq_true rfl) ?_
      exact W.iret (v := 0) hx hb hr (fun t ht hW => ⟨⟨0, (fun _ => 0), rfl, rfl, by rw [ht]; exact hP, hD⟩, hS.F ht⟩) hS.2.2 dX7_newDrawer_100
set_option maxHeartbeats 4000000 in
set_option maxRecDepth 100000 in
theorem k284_X6_newDrawer (l : Launch) (hl9 : l.stackTraces = false) (G : pxG) (sz : Nat) (a0 a1 a2 a3 a4 a5 : Nat) (i0 i1 : Int32) (h0 : 0 ≤ i0.toInt ∧ i0.toInt ≤ 2) (h1 : 7 ≤ i1.toInt ∧ i1.toInt ≤ 2147483647) : vx_Met l yX6_newDrawer (Cond.code yX6_newDrawer cX6_newDrawer 4 (some .int) :: pxAll) ({ frames := 6, cells := 1, slots := 6, locals := 90 } : Room) (va_Pc [.ref a0, .int i0, .int 1, .int i1] (pxPre G [(a0, .inr (5, [.ref a1, .ref a2, .ref a3, .ref a4, .ref a5, .int 0, .int 0, .int (-1)]))] sz)) pxF (pxXC "java/lang/IllegalArgumentException" (va_A [(a0, .inr (5, [.ref a1, .ref a2, .ref a3, .ref a4, .ref a5, .int 0, .int 0, .int (-1)]))] sz)) 1 6 (va_A [(a0, .inr (5, [.ref a1, .ref a2, .ref a3, .ref a4, .ref a5, .int 0, .int 0, .int (-1)]))] sz) := by
  refine vx_ofW (cc := cX6_newDrawer) (maxL := 4) (ret := (some .int)) (by decide) rfl ?_
  intro p e s m args below meth c s₁ B hml hEx hv
  obtain ⟨rfl, hsz, hG, hZ, hP, hD0⟩ := hv
  have hx := B.exec
  have hb := B.bytes
  have hr := B.returns
  have hts0 := atoms_spec (ws := Cond.code yX6_newDrawer cX6_newDrawer 4 (some .int) :: pxAll) B.pre
  have hts : ∀ w ∈ pxAll, w.before _ s = true := fun w h => hts0 w (List.mem_cons_of_mem _ h)
  have hown : s.vm.findClass RX6 = some m.cls := findClass_of_methodNamed B.named
  have hlocks := B.notSynchronized
  subst hsz
  have hK := hG.1
  have hD := hD0.self (sz := s.heap.size)
  generalize hAe : va_A [(a0, .inr (5, [.ref a1, .ref a2, .ref a3, .ref a4, .ref a5, .int 0, .int 0, .int (-1)]))] s.heap.size = A at hD hZ ⊢
  have hA : ∀ q : Nat, s.heap.size ≤ q → A q := fun q h => by rw [← hAe]; exact Or.inr h
  have hS : va_S A s.heap s.heap [] := va_S.rf
  have hl := lv_entry ([.ref a0, .int i0, .int 1, .int i1]) (n := 4) (Nat.le_of_ble_eq_true rfl)
  rw [lg_entry_eq]
  generalize (lg_sl ([.ref a0, .int i0, .int 1, .int i1]) ++ List.replicate (4 - (lg_sl ([.ref a0, .int i0, .int 1, .int i1])).length) Slot.unset).toArray = ls at hl ⊢
  have hl : lv_has ls 4 [(0, .ref a0), (1, .int i0), (2, .int 1), (3, .int i1)] := hl
  refine lv_aload_n hx hb dX6_newDrawer_0 rfl (lv_at hl 0 rfl) ?_
  refine lv_iload_n hx hb dX6_newDrawer_1 rfl (lv_at hl 1 rfl) ?_
  refine pxCv (va_runV (As := [.int i0]) (rest := []) ⟨hx, hb, hml, hown, hts⟩ (k232_X6_requireDrawer l G s.heap.size a0 i0 ⟨by omega, by omega⟩) (cwV 1 hts (pxGV pm632 pm633 pm634 pm2 pm635) rfl rfl rfl (by decide +kernel) ⟨(Nat.le_of_ble_eq_true rfl), (Nat.le_of_ble_eq_true rfl)⟩) (pxV (ci := 5) (q0 := 0) hG hZ hP hD hS hA [] rfl (by decide) rfl rfl) rfl rfl hl.1 rfl (lv_room (Nat.le_of_ble_eq_true rfl)) dX6_newDrawer_2 ⟨(Nat.le_of_ble_eq_true rfl), (Nat.le_of_ble_eq_true rfl)⟩) hP hD hS hA [] [0] rfl rfl (by decide) (by decide) (fun q1 H locs hP hD hS => ?_)
  have hP : va_P G.1 pxCl [(a0, .inr (5, [.ref a1, .ref a2, .ref a3, .ref a4, .ref a5, .int 0, .int 0, .int (-1)]))] H := hP
  have hD : va_D A [(a0, .inr (5, [.ref a1, .ref a2, .ref a3, .ref a4, .ref a5, .int 0, .int 0, .int (-1)]))] := hD
  refine lv_iload_n hx hb dX6_newDrawer_5 rfl (lv_at hl 2 rfl) ?_
  refine pxCi (va_runS (As := [.int 1]) (rest := []) ⟨hx, hb, hml, hown, hts⟩ (k275_X6_isSort l G H.size) (va_cwS 1 hts (pxGS pm650 pm651 pm2 pm652) rfl rfl rfl (by decide +kernel) ⟨(Nat.le_of_ble_eq_true rfl), (Nat.le_of_ble_eq_true rfl)⟩) (pxS hG hZ hP hD hS hA [] rfl (by decide)) rfl rfl hl.1 rfl (lv_room (Nat.le_of_ble_eq_true rfl)) dX6_newDrawer_6 ⟨(Nat.le_of_ble_eq_true rfl), (Nat.le_of_ble_eq_true rfl)⟩) hP hD hS hA [] [0] rfl rfl (by decide) (by decide) (fun r4 q3 H locs hw hP hD hS => ?_)
  have hw : r4 = 1 := hw
  subst hw
  have hP : va_P G.1 pxCl [(a0, .inr (5, [.ref a1, .ref a2, .ref a3, .ref a4, .ref a5, .int 0, .int 0, .int (-1)]))] H := hP
  have hD : va_D A [(a0, .inr (5, [.ref a1, .ref a2, .ref a3, .ref a4, .ref a5, .int 0, .int 0, .int (-1)]))] := hD
  refine lv_if_eq (tgt := 23) hx hb dX6_newDrawer_9 (by decide) (fun h9 => absurd h9 (by decide)) (fun _ => ?_)
  refine lv_iload_n hx hb dX6_newDrawer_12 rfl (lv_at hl 3 rfl) ?_
  refine lv_iconst (v := 1) hx hb dX6_newDrawer_13 (by decide) ?_
  refine lv_icmp_lt (tgt := 23) hx hb dX6_newDrawer_14 (by decide) (fun h9 => absurd h9 (pxNlt 1 (by decide) (by omega))) (fun _ => ?_)
  refine lv_iload_n hx hb dX6_newDrawer_17 rfl (lv_at hl 3 rfl) ?_
  refine lv_bipush (v := 6) hx hb dX6_newDrawer_18 (by decide) ?_
  refine lv_icmp_le (tgt := 34) hx hb dX6_newDrawer_20 (by decide) (fun h9 => absurd h9 (pxNle 6 (by decide) (by omega))) (fun _ => ?_)
  exact vx_throwSW (own := RX6) (cls := "java/lang/IllegalArgumentException") (names := ["java/lang/RuntimeException", "java/lang/Exception"]) hx hb hl9 hown (by decide +kernel) (by decide +kernel) (hts _ pm591) (hts _ pm592) (hG.2.2.2.2.1 9 _ rfl) (pxThr (own := RX6) (ic := 109) (by simp [pxBadC]) hts hG wsL_law_x3 pxh_x3) pxg_x3 hZ.1 hZ.2 hS (hl.1.trans hml.symm) dX6_newDrawer_23 dX6_newDrawer_26 dX6_newDrawer_27 dX6_newDrawer_30 dX6_newDrawer_33 (fun x hx => (hEx x hx).elim) (Nat.le_of_ble_eq_true rfl) (Nat.le_of_ble_eq_true rfl) (Nat.le_of_ble_eq_true rfl) (Nat.le_of_ble_eq_true rfl) hlocks (pxXe hS) hS.2.2 (Nat.le_of_ble_eq_true rfl) (Nat.le_of_ble_eq_true rfl)
set_option maxHeartbeats 4000000 in
set_option maxRecDepth 100000 in
theorem k284_L_newDrawer (l : Launch) (hl9 : l.stackTraces = false) (G : pxG) (sz : Nat) (a0 a1 a2 a3 a4 a5 a6 : Nat) (i0 i1 : Int32) (h0 : 0 ≤ i0.toInt ∧ i0.toInt ≤ 2) (h1 : 7 ≤ i1.toInt ∧ i1.toInt ≤ 2147483647) : Met l yL_newDrawer (Cond.codeWith yL_newDrawer cL_newDrawer 6 (some .int) [(0, 12, 15, 67), (0, 12, 19, 51)] :: pxAll) ({ frames := 7, cells := 1, slots := 6, locals := 113 } : Room) (va_Pc [.ref a0, .int i0, .int 1, .int i1, .ref a1] (pxPre G [(a0, .inr (5, [.ref a2, .ref a3, .ref a4, .ref a5, .ref a6, .int 0, .int 0, .int (-1)]))] sz)) (pxQi G (fun r => r = 2) (fun q => []) (va_A [(a0, .inr (5, [.ref a2, .ref a3, .ref a4, .ref a5, .ref a6, .int 0, .int 0, .int (-1)]))] sz)) 1 6 (va_A [(a0, .inr (5, [.ref a2, .ref a3, .ref a4, .ref a5, .ref a6, .int 0, .int 0, .int (-1)]))] sz) := by
  refine va_MetW (cc := cL_newDrawer) (maxL := 6) (ret := (some .int)) (hh := [(0, 12, 15, 67), (0, 12, 19, 51)]) (by decide) rfl ?_
  intro p e s m args below meth c s₁ B hml hv
  obtain ⟨rfl, hsz, hG, hZ, hP, hD0⟩ := hv
  have hx := B.exec
  have hb := B.bytes
  have hr := B.returns
  have hts0 := atoms_spec (ws := Cond.codeWith yL_newDrawer cL_newDrawer 6 (some .int) [(0, 12, 15, 67), (0, 12, 19, 51)] :: pxAll) B.pre
  have hts : ∀ w ∈ pxAll, w.before _ s = true := fun w h => hts0 w (List.mem_cons_of_mem _ h)
  have hown : s.vm.findClass RL = some m.cls := findClass_of_methodNamed B.named
  have hlocks := B.notSynchronized
  have hTab := vx_table (x := yL_newDrawer) B (hts0 _ List.mem_cons_self)
  subst hsz
  have hK := hG.1
  have hD := hD0.self (sz := s.heap.size)
  generalize hAe : va_A [(a0, .inr (5, [.ref a2, .ref a3, .ref a4, .ref a5, .ref a6, .int 0, .int 0, .int (-1)]))] s.heap.size = A at hD hZ ⊢
  have hA : ∀ q : Nat, s.heap.size ≤ q → A q := fun q h => by rw [← hAe]; exact Or.inr h
  have hS : va_S A s.heap s.heap [] := va_S.rf
  have hl := lv_entry ([.ref a0, .int i0, .int 1, .int i1, .ref a1]) (n := 6) (Nat.le_of_ble_eq_true rfl)
  rw [lg_entry_eq]
  generalize (lg_sl ([.ref a0, .int i0, .int 1, .int i1, .ref a1]) ++ List.replicate (6 - (lg_sl ([.ref a0, .int i0, .int 1, .int i1, .ref a1])).length) Slot.unset).toArray = ls at hl ⊢
  have hl : lv_has ls 6 [(0, .ref a0), (1, .int i0), (2, .int 1), (3, .int i1), (4, .ref a1)] := hl
  refine lv_aload hx hb dL_newDrawer_0 (lv_at hl 4 rfl) ?_
  refine lv_iconst (v := 0) hx hb dL_newDrawer_2 (by decide) ?_
  refine lv_aload_n hx hb dL_newDrawer_3 rfl (lv_at hl 0 rfl) ?_
  refine lv_iload_n hx hb dL_newDrawer_4 rfl (lv_at hl 1 rfl) ?_
  refine lv_iload_n hx hb dL_newDrawer_5 rfl (lv_at hl 2 rfl) ?_
  refine lv_iload_n hx hb dL_newDrawer_6 rfl (lv_at hl 3 rfl) ?_
  refine pxCx (vx_runV (As := [.int i0, .int 1, .int i1]) (rest := [.int 0, .ref a1]) ⟨hx, hb, hml, hown, hts⟩ (k284_X6_newDrawer l hl9 G s.heap.size a0 a2 a3 a4 a5 a6 i0 i1 ⟨by omega, by omega⟩ ⟨by omega, by omega⟩) (cwV 3 hts (pxGV pm636 pm637 pm638 pm2 pm639) rfl rfl rfl (by decide +kernel) ⟨(Nat.le_of_ble_eq_true rfl), (Nat.le_of_ble_eq_true rfl)⟩) (pxV (ci := 5) (q0 := 0) hG hZ hP hD hS hA [0] rfl (by decide) rfl rfl) rfl rfl hl.1 rfl (lv_room (Nat.le_of_ble_eq_true rfl)) dL_newDrawer_7 ⟨(Nat.le_of_ble_eq_true rfl), (Nat.le_of_ble_eq_true rfl)⟩) hD hS hA [0] rfl (fun ce q9 H locs hS hce hcv hcl => ?_)
  refine vx_catch (own := RL) (name := "java/lang/IllegalArgumentException") (E := "java/lang/IllegalArgumentException") hown [⟨0, 12, 15, 67⟩] ⟨0, 12, 19, 51⟩ [] (by rw [hTab]; rfl) (by intro z hz; rcases List.mem_cons.mp hz with rfl | hz; exact Or.inr ⟨by decide, "java/lang/IndexOutOfBoundsException", hts _ pm437, hG.2.2.2.2.2.1 ("java/lang/IllegalArgumentException", "java/lang/IndexOutOfBoundsException") (by simp [pxNc])⟩; cases hz) (by decide) (by decide) (hts _ pm597) (va_Nw.use rfl (hG.2.2.1 "java/lang/IllegalArgumentException" (by simp [pxBadC]))) hce hcv hcl ?_
  have hP : va_P G.1 pxCl [] H := fun k q h => by simp at h
  have hD : va_D A [] := ⟨fun i j p q h => by simp at h, fun k q h => by simp at h⟩
  refine lv_astore (lv' := [(5, .ref q9), (0, .ref a0), (1, .int i0), (2, .int 1), (3, .int i1), (4, .ref a1)]) hx hb dL_newDrawer_19 hl (by decide) rfl (fun ls hl => ?_)
  refine lv_iconst (v := 2) hx hb dL_newDrawer_21 (by decide) ?_
  refine W.widen (k := 1) (n := 6) (Nat.le_of_ble_eq_true rfl) (Nat.le_of_ble_eq_true rfl) ?_
  exact W.iret (v := 2) hx hb hr (fun t ht hW => ⟨⟨2, (fun _ => 0), rfl, rfl, by rw [ht]; exact hP, hD⟩, hS.F ht⟩) hS.2.2 dL_newDrawer_22
set_option maxHeartbeats 4000000 in
set_option maxRecDepth 100000 in
theorem k286_X7_newDrawer (l : Launch) (G : pxG) (sz : Nat) (a0 a1 a2 a3 a4 a5 a6 a7 a8 a9 a10 a11 : Nat) (i0 i1 : Int32) (h0 : 0 ≤ i0.toInt ∧ i0.toInt ≤ 2) (h1 : 7 ≤ i1.toInt ∧ i1.toInt ≤ 2147483647) : Met l yX7_newDrawer (Cond.code yX7_newDrawer cX7_newDrawer 6 (some .int) :: pxAll) ({ frames := 2, cells := 0, slots := 0, locals := 42 } : Room) (va_Pc [.ref a0, .int i0, .int 1, .int i1] (pxPre G [(a0, .inr (6, [.ref a1, .ref a2, .ref a3, .int 0, .ref a4, .int 0, .int 0, .int 0, .int 0, .ref a5, .int 0, .ref a6, .int 0, .int 0, .int 0, .int (-1), .ref a7, .ref a8, .int 0, .ref a9, .ref a10, .ref a11]))] sz)) (pxQi G (fun r => r = 0) (fun q => [(a0, .inr (6, [.ref a1, .ref a2, .ref a3, .int 0, .ref a4, .int 0, .int 0, .int 2, .int 0, .ref a5, .int 0, .ref a6, .int 0, .int 0, .int 0, .int (-1), .ref a7, .ref a8, .int 0, .ref a9, .ref a10, .ref a11]))]) (va_A [(a0, .inr (6, [.ref a1, .ref a2, .ref a3, .int 0, .ref a4, .int 0, .int 0, .int 0, .int 0, .ref a5, .int 0, .ref a6, .int 0, .int 0, .int 0, .int (-1), .ref a7, .ref a8, .int 0, .ref a9, .ref a10, .ref a11]))] sz)) 0 0 (va_A [(a0, .inr (6, [.ref a1, .ref a2, .ref a3, .int 0, .ref a4, .int 0, .int 0, .int 0, .int 0, .ref a5, .int 0, .ref a6, .int 0, .int 0, .int 0, .int (-1), .ref a7, .ref a8, .int 0, .ref a9, .ref a10, .ref a11]))] sz) := by
  refine Met.ofW (cc := cX7_newDrawer) (maxL := 6) (ret := (some .int)) (by decide) rfl ?_
  intro p e s m args below meth c s₁ B hml hv
  obtain ⟨rfl, hsz, hG, hZ, hP, hD0⟩ := hv
  have hx := B.exec
  have hb := B.bytes
  have hr := B.returns
  have hts0 := atoms_spec (ws := Cond.code yX7_newDrawer cX7_newDrawer 6 (some .int) :: pxAll) B.pre
  have hts : ∀ w ∈ pxAll, w.before _ s = true := fun w h => hts0 w (List.mem_cons_of_mem _ h)
  have hown : s.vm.findClass RX7 = some m.cls := findClass_of_methodNamed B.named
  have hlocks := B.notSynchronized
  subst hsz
  have hK := hG.1
  have hD := hD0.self (sz := s.heap.size)
  generalize hAe : va_A [(a0, .inr (6, [.ref a1, .ref a2, .ref a3, .int 0, .ref a4, .int 0, .int 0, .int 0, .int 0, .ref a5, .int 0, .ref a6, .int 0, .int 0, .int 0, .int (-1), .ref a7, .ref a8, .int 0, .ref a9, .ref a10, .ref a11]))] s.heap.size = A at hD hZ ⊢
  have hA : ∀ q : Nat, s.heap.size ≤ q → A q := fun q h => by rw [← hAe]; exact Or.inr h
  have hS : va_S A s.heap s.heap [] := va_S.rf
  have hl := lv_entry ([.ref a0, .int i0, .int 1, .int i1]) (n := 6) (Nat.le_of_ble_eq_true rfl)
  rw [lg_entry_eq]
  generalize (lg_sl ([.ref a0, .int i0, .int 1, .int i1]) ++ List.replicate (6 - (lg_sl ([.ref a0, .int i0, .int 1, .int i1])).length) Slot.unset).toArray = ls at hl ⊢
  have hl : lv_has ls 6 [(0, .ref a0), (1, .int i0), (2, .int 1), (3, .int i1)] := hl
  refine lv_aload_n hx hb dX7_newDrawer_0 rfl (lv_at hl 0 rfl) ?_
  refine lv_iload_n hx hb dX7_newDrawer_1 rfl (lv_at hl 1 rfl) ?_
  refine pxCi (va_runS (As := [.int i0]) (rest := [.ref a0]) ⟨hx, hb, hml, hown, hts⟩ (k236_X7_isDrawer l G s.heap.size i0 ⟨by omega, by omega⟩) (va_cwS 1 hts (pxGS pm643 pm644 pm71 pm645) rfl rfl rfl (by decide +kernel) ⟨(Nat.le_of_ble_eq_true rfl), (Nat.le_of_ble_eq_true rfl)⟩) (pxS hG hZ hP hD hS hA [] rfl (by decide)) rfl rfl hl.1 rfl (lv_room (Nat.le_of_ble_eq_true rfl)) dX7_newDrawer_2 ⟨(Nat.le_of_ble_eq_true rfl), (Nat.le_of_ble_eq_true rfl)⟩) hP hD hS hA [] [0] rfl rfl (by decide) (by decide) (fun r2 q1 H locs hw hP hD hS => ?_)
  have hw : r2 = 1 := hw
  subst hw
  have hP : va_P G.1 pxCl [(a0, .inr (6, [.ref a1, .ref a2, .ref a3, .int 0, .ref a4, .int 0, .int 0, .int 0, .int 0, .ref a5, .int 0, .ref a6, .int 0, .int 0, .int 0, .int (-1), .ref a7, .ref a8, .int 0, .ref a9, .ref a10, .ref a11]))] H := hP
  have hD : va_D A [(a0, .inr (6, [.ref a1, .ref a2, .ref a3, .int 0, .ref a4, .int 0, .int 0, .int 0, .int 0, .ref a5, .int 0, .ref a6, .int 0, .int 0, .int 0, .int (-1), .ref a7, .ref a8, .int 0, .ref a9, .ref a10, .ref a11]))] := hD
  refine lv_if_ne (tgt := 12) hx hb dX7_newDrawer_5 (by decide) (fun _ => ?_) (fun h9 => absurd h9 (by decide))
  refine lv_iload_n hx hb dX7_newDrawer_12 rfl (lv_at hl 2 rfl) ?_
  refine lv_iconst (v := 0) hx hb dX7_newDrawer_13 (by decide) ?_
  refine lv_iconst (v := 1) hx hb dX7_newDrawer_14 (by decide) ?_
  refine pxCi (va_runS (As := [.int 1, .int 0, .int 1]) (rest := [.ref a0]) ⟨hx, hb, hml, hown, hts⟩ (k278_X7_in l G H.size) (va_cwS 3 hts (pxGS pm143 pm144 pm71 pm145) rfl rfl rfl (by decide +kernel) ⟨(Nat.le_of_ble_eq_true rfl), (Nat.le_of_ble_eq_true rfl)⟩) (pxS hG hZ hP hD hS hA [] rfl (by decide)) rfl rfl hl.1 rfl (lv_room (Nat.le_of_ble_eq_true rfl)) dX7_newDrawer_15 ⟨(Nat.le_of_ble_eq_true rfl), (Nat.le_of_ble_eq_true rfl)⟩) hP hD hS hA [] [0] rfl rfl (by decide) (by decide) (fun r4 q3 H locs hw hP hD hS => ?_)
  have hw : r4 = 1 := hw
  subst hw
  have hP : va_P G.1 pxCl [(a0, .inr (6, [.ref a1, .ref a2, .ref a3, .int 0, .ref a4, .int 0, .int 0, .int 0, .int 0, .ref a5, .int 0, .ref a6, .int 0, .int 0, .int 0, .int (-1), .ref a7, .ref a8, .int 0, .ref a9, .ref a10, .ref a11]))] H := hP
  have hD : va_D A [(a0, .inr (6, [.ref a1, .ref a2, .ref a3, .int 0, .ref a4, .int 0, .int 0, .int 0, .int 0, .ref a5, .int 0, .ref a6, .int 0, .int 0, .int 0, .int (-1), .ref a7, .ref a8, .int 0, .ref a9, .ref a10, .ref a11]))] := hD
  refine lv_if_eq (tgt := 31) hx hb dX7_newDrawer_18 (by decide) (fun h9 => absurd h9 (by decide)) (fun _ => ?_)
  refine lv_iload_n hx hb dX7_newDrawer_21 rfl (lv_at hl 3 rfl) ?_
  refine lv_iconst (v := 1) hx hb dX7_newDrawer_22 (by decide) ?_
  refine lv_bipush (v := 6) hx hb dX7_newDrawer_23 (by decide) ?_
  refine pxCi (va_runS (As := [.int i1, .int 1, .int 6]) (rest := [.ref a0]) ⟨hx, hb, hml, hown, hts⟩ (k273_X7_in l G H.size i1 ⟨by omega, by omega⟩) (va_cwS 3 hts (pxGS pm143 pm144 pm71 pm145) rfl rfl rfl (by decide +kernel) ⟨(Nat.le_of_ble_eq_true rfl), (Nat.le_of_ble_eq_true rfl)⟩) (pxS hG hZ hP hD hS hA [] rfl (by decide)) rfl rfl hl.1 rfl (lv_room (Nat.le_of_ble_eq_true rfl)) dX7_newDrawer_25 ⟨(Nat.le_of_ble_eq_true rfl), (Nat.le_of_ble_eq_true rfl)⟩) hP hD hS hA [] [0] rfl rfl (by decide) (by decide) (fun r6 q5 H locs hw hP hD hS => ?_)
  have hw : r6 = 0 := hw
  subst hw
  have hP : va_P G.1 pxCl [(a0, .inr (6, [.ref a1, .ref a2, .ref a3, .int 0, .ref a4, .int 0, .int 0, .int 0, .int 0, .ref a5, .int 0, .ref a6, .int 0, .int 0, .int 0, .int (-1), .ref a7, .ref a8, .int 0, .ref a9, .ref a10, .ref a11]))] H := hP
  have hD : va_D A [(a0, .inr (6, [.ref a1, .ref a2, .ref a3, .int 0, .ref a4, .int 0, .int 0, .int 0, .int 0, .ref a5, .int 0, .ref a6, .int 0, .int 0, .int 0, .int (-1), .ref a7, .ref a8, .int 0, .ref a9, .ref a10, .ref a11]))] := hD
  refine lv_if_ne (tgt := 35) hx hb dX7_newDrawer_28 (by decide) (fun h9 => absurd h9 (by decide)) (fun _ => ?_)
  refine lv_iconst (v := 2) hx hb dX7_newDrawer_31 (by decide) ?_
  refine lv_goto (tgt := 36) hx hb dX7_newDrawer_32 (by decide) ?_
  refine va_put (D := G.1) (ci := 6) (v := .int 2) (ty := .int) (C := RX7) (T := TX7) (N := 22) hx hb hts piX7 tyX7 tyX7_ok nmX7 hown hK hP hD hS 0 rfl rfl 7 (by decide) (hts _ pm150) (fun _ h9 => h9) rfl (by decide +kernel) rfl rfl (Nat.le_of_ble_eq_true rfl) dX7_newDrawer_36 (fun H locs hP hD hS => ?_)
  have hP : va_P G.1 pxCl [(a0, .inr (6, [.ref a1, .ref a2, .ref a3, .int 0, .ref a4, .int 0, .int 0, .int 2, .int 0, .ref a5, .int 0, .ref a6, .int 0, .int 0, .int 0, .int (-1), .ref a7, .ref a8, .int 0, .ref a9, .ref a10, .ref a11]))] H := hP
  have hD : va_D A [(a0, .inr (6, [.ref a1, .ref a2, .ref a3, .int 0, .ref a4, .int 0, .int 0, .int 2, .int 0, .ref a5, .int 0, .ref a6, .int 0, .int 0, .int 0, .int (-1), .ref a7, .ref a8, .int 0, .ref a9, .ref a10, .ref a11]))] := hD
  refine lv_aload_n hx hb dX7_newDrawer_39 rfl (lv_at hl 0 rfl) ?_
  refine va_get (D := G.1) (ci := 6) (v := .int 2) (C := RX7) (T := TX7) (N := 22) hx hb hts piX7 hown hK hP 0 rfl rfl 7 (by decide) (hts _ pm150) (fun _ h9 => h9) rfl dX7_newDrawer_40 ?_
  refine lv_if_le (tgt := 48) hx hb dX7_newDrawer_43 (by decide) (fun h9 => absurd h9 (by decide)) (fun _ => ?_)
  refine lv_iconst (v := 0) hx hb dX7_newDrawer_46 (by decide) ?_
  refine W.widen (k := 0) (n := 0) (Nat.le_of_ble_eq_true rfl) (Nat.le_of_ble_eq_true rfl) ?_
  exact W.iret (v := 0) hx hb hr (fun t ht hW => ⟨⟨0, (fun _ => 0), rfl, rfl, by rw [ht]; exact hP, hD⟩, hS.F ht⟩) hS.2.2 dX7_newDrawer_47
set_option maxHeartbeats 4000000 in
set_option maxRecDepth 100000 in
theorem k287_X6_isSort (l : Launch) (G : pxG) (sz : Nat) (i0 : Int32) (h0 : 2 ≤ i0.toInt ∧ i0.toInt ≤ 2147483647) : Met l yX6_isSort (Cond.code yX6_isSort cX6_isSort 1 (some .boolean) :: pxAll) ({ frames := 0, cells := 0, slots := 0, locals := 0 } : Room) (va_Pc [.int i0] (pxPre G [] sz)) (pxQi G (fun r => r = 0) (fun q => []) (va_A [] sz)) 0 0 (va_A [] sz) := by
  refine Met.ofW (cc := cX6_isSort) (maxL := 1) (ret := (some .boolean)) (by decide) rfl ?_
  intro p e s m args below meth c s₁ B hml hv
  obtain ⟨rfl, hsz, hG, hZ, hP, hD0⟩ := hv
  have hx := B.exec
  have hb := B.bytes
  have hr := B.returns
  have hts0 := atoms_spec (ws := Cond.code yX6_isSort cX6_isSort 1 (some .boolean) :: pxAll) B.pre
  have hts : ∀ w ∈ pxAll, w.before _ s = true := fun w h => hts0 w (List.mem_cons_of_mem _ h)
  have hown : s.vm.findClass RX6 = some m.cls := findClass_of_methodNamed B.named
  have hlocks := B.notSynchronized
  subst hsz
  have hK := hG.1
  have hD := hD0.self (sz := s.heap.size)
  generalize hAe : va_A [] s.heap.size = A at hD hZ ⊢
  have hA : ∀ q : Nat, s.heap.size ≤ q → A q := fun q h => by rw [← hAe]; exact Or.inr h
  have hS : va_S A s.heap s.heap [] := va_S.rf
  have hl := lv_entry ([.int i0]) (n := 1) (Nat.le_of_ble_eq_true rfl)
  rw [lg_entry_eq]
  generalize (lg_sl ([.int i0]) ++ List.replicate (1 - (lg_sl ([.int i0])).length) Slot.unset).toArray = ls at hl ⊢
  have hl : lv_has ls 1 [(0, .int i0)] := hl
  refine lv_iload_n hx hb dX6_isSort_0 rfl (lv_at hl 0 rfl) ?_
  refine lv_if_eq (tgt := 9) hx hb dX6_isSort_1 (by decide) (fun h9 => absurd h9 (pxNe 0 (by decide) (by omega))) (fun _ => ?_)
  refine lv_iload_n hx hb dX6_isSort_4 rfl (lv_at hl 0 rfl) ?_
  refine lv_iconst (v := 1) hx hb dX6_isSort_5 (by decide) ?_
  refine lv_icmp_ne (tgt := 13) hx hb dX6_isSort_6 (by decide) (fun _ => ?_) (fun h9 => absurd h9 (pxNe 1 (by decide) (by omega)))
  refine lv_iconst (v := 0) hx hb dX6_isSort_13 (by decide) ?_
  refine W.widen (k := 0) (n := 0) (Nat.le_of_ble_eq_true rfl) (Nat.le_of_ble_eq_true rfl) ?_
  exact W.zret (ty := .boolean) (v := 0) hx hb hr rfl (fun t ht hW => ⟨⟨0, (fun _ => 0), rfl, rfl, by rw [ht]; exact hP, hD⟩, hS.F ht⟩) hS.2.2 dX6_isSort_14
set_option maxHeartbeats 4000000 in
set_option maxRecDepth 100000 in
theorem k287_X6_newDrawer (l : Launch) (hl9 : l.stackTraces = false) (G : pxG) (sz : Nat) (a0 a1 a2 a3 a4 a5 : Nat) (i0 i1 i2 : Int32) (h0 : 0 ≤ i0.toInt ∧ i0.toInt ≤ 2) (h1 : 2 ≤ i1.toInt ∧ i1.toInt ≤ 2147483647) : vx_Met l yX6_newDrawer (Cond.code yX6_newDrawer cX6_newDrawer 4 (some .int) :: pxAll) ({ frames := 6, cells := 1, slots := 6, locals := 90 } : Room) (va_Pc [.ref a0, .int i0, .int i1, .int i2] (pxPre G [(a0, .inr (5, [.ref a1, .ref a2, .ref a3, .ref a4, .ref a5, .int 0, .int 0, .int (-1)]))] sz)) pxF (pxXC "java/lang/IllegalArgumentException" (va_A [(a0, .inr (5, [.ref a1, .ref a2, .ref a3, .ref a4, .ref a5, .int 0, .int 0, .int (-1)]))] sz)) 1 6 (va_A [(a0, .inr (5, [.ref a1, .ref a2, .ref a3, .ref a4, .ref a5, .int 0, .int 0, .int (-1)]))] sz) := by
  refine vx_ofW (cc := cX6_newDrawer) (maxL := 4) (ret := (some .int)) (by decide) rfl ?_
  intro p e s m args below meth c s₁ B hml hEx hv
  obtain ⟨rfl, hsz, hG, hZ, hP, hD0⟩ := hv
  have hx := B.exec
  have hb := B.bytes
  have hr := B.returns
  have hts0 := atoms_spec (ws := Cond.code yX6_newDrawer cX6_newDrawer 4 (some .int) :: pxAll) B.pre
  have hts : ∀ w ∈ pxAll, w.before _ s = true := fun w h => hts0 w (List.mem_cons_of_mem _ h)
  have hown : s.vm.findClass RX6 = some m.cls := findClass_of_methodNamed B.named
  have hlocks := B.notSynchronized
  subst hsz
  have hK := hG.1
  have hD := hD0.self (sz := s.heap.size)
  generalize hAe : va_A [(a0, .inr (5, [.ref a1, .ref a2, .ref a3, .ref a4, .ref a5, .int 0, .int 0, .int (-1)]))] s.heap.size = A at hD hZ ⊢
  have hA : ∀ q : Nat, s.heap.size ≤ q → A q := fun q h => by rw [← hAe]; exact Or.inr h
  have hS : va_S A s.heap s.heap [] := va_S.rf
  have hl := lv_entry ([.ref a0, .int i0, .int i1, .int i2]) (n := 4) (Nat.le_of_ble_eq_true rfl)
  rw [lg_entry_eq]
  generalize (lg_sl ([.ref a0, .int i0, .int i1, .int i2]) ++ List.replicate (4 - (lg_sl ([.ref a0, .int i0, .int i1, .int i2])).length) Slot.unset).toArray = ls at hl ⊢
  have hl : lv_has ls 4 [(0, .ref a0), (1, .int i0), (2, .int i1), (3, .int i2)] := hl
  refine lv_aload_n hx hb dX6_newDrawer_0 rfl (lv_at hl 0 rfl) ?_
  refine lv_iload_n hx hb dX6_newDrawer_1 rfl (lv_at hl 1 rfl) ?_
  refine pxCv (va_runV (As := [.int i0]) (rest := []) ⟨hx, hb, hml, hown, hts⟩ (k232_X6_requireDrawer l G s.heap.size a0 i0 ⟨by omega, by omega⟩) (cwV 1 hts (pxGV pm632 pm633 pm634 pm2 pm635) rfl rfl rfl (by decide +kernel) ⟨(Nat.le_of_ble_eq_true rfl), (Nat.le_of_ble_eq_true rfl)⟩) (pxV (ci := 5) (q0 := 0) hG hZ hP hD hS hA [] rfl (by decide) rfl rfl) rfl rfl hl.1 rfl (lv_room (Nat.le_of_ble_eq_true rfl)) dX6_newDrawer_2 ⟨(Nat.le_of_ble_eq_true rfl), (Nat.le_of_ble_eq_true rfl)⟩) hP hD hS hA [] [0] rfl rfl (by decide) (by decide) (fun q1 H locs hP hD hS => ?_)
  have hP : va_P G.1 pxCl [(a0, .inr (5, [.ref a1, .ref a2, .ref a3, .ref a4, .ref a5, .int 0, .int 0, .int (-1)]))] H := hP
  have hD : va_D A [(a0, .inr (5, [.ref a1, .ref a2, .ref a3, .ref a4, .ref a5, .int 0, .int 0, .int (-1)]))] := hD
  refine lv_iload_n hx hb dX6_newDrawer_5 rfl (lv_at hl 2 rfl) ?_
  refine pxCi (va_runS (As := [.int i1]) (rest := []) ⟨hx, hb, hml, hown, hts⟩ (k287_X6_isSort l G H.size i1 ⟨by omega, by omega⟩) (va_cwS 1 hts (pxGS pm650 pm651 pm2 pm652) rfl rfl rfl (by decide +kernel) ⟨(Nat.le_of_ble_eq_true rfl), (Nat.le_of_ble_eq_true rfl)⟩) (pxS hG hZ hP hD hS hA [] rfl (by decide)) rfl rfl hl.1 rfl (lv_room (Nat.le_of_ble_eq_true rfl)) dX6_newDrawer_6 ⟨(Nat.le_of_ble_eq_true rfl), (Nat.le_of_ble_eq_true rfl)⟩) hP hD hS hA [] [0] rfl rfl (by decide) (by decide) (fun r4 q3 H locs hw hP hD hS => ?_)
  have hw : r4 = 0 := hw
  subst hw
  have hP : va_P G.1 pxCl [(a0, .inr (5, [.ref a1, .ref a2, .ref a3, .ref a4, .ref a5, .int 0, .int 0, .int (-1)]))] H := hP
  have hD : va_D A [(a0, .inr (5, [.ref a1, .ref a2, .ref a3, .ref a4, .ref a5, .int 0, .int 0, .int (-1)]))] := hD
  refine lv_if_eq (tgt := 23) hx hb dX6_newDrawer_9 (by decide) (fun _ => ?_) (fun h9 => absurd (by decide) h9)
  exact vx_throwSW (own := RX6) (cls := "java/lang/IllegalArgumentException") (names := ["java/lang/RuntimeException", "java/lang/Exception"]) hx hb hl9 hown (by decide +kernel) (by decide +kernel) (hts _ pm591) (hts _ pm592) (hG.2.2.2.2.1 9 _ rfl) (pxThr (own := RX6) (ic := 109) (by simp [pxBadC]) hts hG wsL_law_x3 pxh_x3) pxg_x3 hZ.1 hZ.2 hS (hl.1.trans hml.symm) dX6_newDrawer_23 dX6_newDrawer_26 dX6_newDrawer_27 dX6_newDrawer_30 dX6_newDrawer_33 (fun x hx => (hEx x hx).elim) (Nat.le_of_ble_eq_true rfl) (Nat.le_of_ble_eq_true rfl) (Nat.le_of_ble_eq_true rfl) (Nat.le_of_ble_eq_true rfl) hlocks (pxXe hS) hS.2.2 (Nat.le_of_ble_eq_true rfl) (Nat.le_of_ble_eq_true rfl)
set_option maxHeartbeats 4000000 in
set_option maxRecDepth 100000 in
theorem k287_L_newDrawer (l : Launch) (hl9 : l.stackTraces = false) (G : pxG) (sz : Nat) (a0 a1 a2 a3 a4 a5 a6 : Nat) (i0 i1 i2 : Int32) (h0 : 0 ≤ i0.toInt ∧ i0.toInt ≤ 2) (h1 : 2 ≤ i1.toInt ∧ i1.toInt ≤ 2147483647) : Met l yL_newDrawer (Cond.codeWith yL_newDrawer cL_newDrawer 6 (some .int) [(0, 12, 15, 67), (0, 12, 19, 51)] :: pxAll) ({ frames := 7, cells := 1, slots := 6, locals := 113 } : Room) (va_Pc [.ref a0, .int i0, .int i1, .int i2, .ref a1] (pxPre G [(a0, .inr (5, [.ref a2, .ref a3, .ref a4, .ref a5, .ref a6, .int 0, .int 0, .int (-1)]))] sz)) (pxQi G (fun r => r = 2) (fun q => []) (va_A [(a0, .inr (5, [.ref a2, .ref a3, .ref a4, .ref a5, .ref a6, .int 0, .int 0, .int (-1)]))] sz)) 1 6 (va_A [(a0, .inr (5, [.ref a2, .ref a3, .ref a4, .ref a5, .ref a6, .int 0, .int 0, .int (-1)]))] sz) := by
  refine va_MetW (cc := cL_newDrawer) (maxL := 6) (ret := (some .int)) (hh := [(0, 12, 15, 67), (0, 12, 19, 51)]) (by decide) rfl ?_
  intro p e s m args below meth c s₁ B hml hv
  obtain ⟨rfl, hsz, hG, hZ, hP, hD0⟩ := hv
  have hx := B.exec
  have hb := B.bytes
  have hr := B.returns
  have hts0 := atoms_spec (ws := Cond.codeWith yL_newDrawer cL_newDrawer 6 (some .int) [(0, 12, 15, 67), (0, 12, 19, 51)] :: pxAll) B.pre
  have hts : ∀ w ∈ pxAll, w.before _ s = true := fun w h => hts0 w (List.mem_cons_of_mem _ h)
  have hown : s.vm.findClass RL = some m.cls := findClass_of_methodNamed B.named
  have hlocks := B.notSynchronized
  have hTab := vx_table (x := yL_newDrawer) B (hts0 _ List.mem_cons_self)
  subst hsz
  have hK := hG.1
  have hD := hD0.self (sz := s.heap.size)
  generalize hAe : va_A [(a0, .inr (5, [.ref a2, .ref a3, .ref a4, .ref a5, .ref a6, .int 0, .int 0, .int (-1)]))] s.heap.size = A at hD hZ ⊢
  have hA : ∀ q : Nat, s.heap.size ≤ q → A q := fun q h => by rw [← hAe]; exact Or.inr h
  have hS : va_S A s.heap s.heap [] := va_S.rf
  have hl := lv_entry ([.ref a0, .int i0, .int i1, .int i2, .ref a1]) (n := 6) (Nat.le_of_ble_eq_true rfl)
  rw [lg_entry_eq]
  generalize (lg_sl ([.ref a0, .int i0, .int i1, .int i2, .ref a1]) ++ List.replicate (6 - (lg_sl ([.ref a0, .int i0, .int i1, .int i2, .ref a1])).length) Slot.unset).toArray = ls at hl ⊢
  have hl : lv_has ls 6 [(0, .ref a0), (1, .int i0), (2, .int i1), (3, .int i2), (4, .ref a1)] := hl
  refine lv_aload hx hb dL_newDrawer_0 (lv_at hl 4 rfl) ?_
  refine lv_iconst (v := 0) hx hb dL_newDrawer_2 (by decide) ?_
  refine lv_aload_n hx hb dL_newDrawer_3 rfl (lv_at hl 0 rfl) ?_
  refine lv_iload_n hx hb dL_newDrawer_4 rfl (lv_at hl 1 rfl) ?_
  refine lv_iload_n hx hb dL_newDrawer_5 rfl (lv_at hl 2 rfl) ?_
  refine lv_iload_n hx hb dL_newDrawer_6 rfl (lv_at hl 3 rfl) ?_
  refine pxCx (vx_runV (As := [.int i0, .int i1, .int i2]) (rest := [.int 0, .ref a1]) ⟨hx, hb, hml, hown, hts⟩ (k287_X6_newDrawer l hl9 G s.heap.size a0 a2 a3 a4 a5 a6 i0 i1 i2 ⟨by omega, by omega⟩ ⟨by omega, by omega⟩) (cwV 3 hts (pxGV pm636 pm637 pm638 pm2 pm639) rfl rfl rfl (by decide +kernel) ⟨(Nat.le_of_ble_eq_true rfl), (Nat.le_of_ble_eq_true rfl)⟩) (pxV (ci := 5) (q0 := 0) hG hZ hP hD hS hA [0] rfl (by decide) rfl rfl) rfl rfl hl.1 rfl (lv_room (Nat.le_of_ble_eq_true rfl)) dL_newDrawer_7 ⟨(Nat.le_of_ble_eq_true rfl), (Nat.le_of_ble_eq_true rfl)⟩) hD hS hA [0] rfl (fun ce q9 H locs hS hce hcv hcl => ?_)
  refine vx_catch (own := RL) (name := "java/lang/IllegalArgumentException") (E := "java/lang/IllegalArgumentException") hown [⟨0, 12, 15, 67⟩] ⟨0, 12, 19, 51⟩ [] (by rw [hTab]; rfl) (by intro z hz; rcases List.mem_cons.mp hz with rfl | hz; exact Or.inr ⟨by decide, "java/lang/IndexOutOfBoundsException", hts _ pm437, hG.2.2.2.2.2.1 ("java/lang/IllegalArgumentException", "java/lang/IndexOutOfBoundsException") (by simp [pxNc])⟩; cases hz) (by decide) (by decide) (hts _ pm597) (va_Nw.use rfl (hG.2.2.1 "java/lang/IllegalArgumentException" (by simp [pxBadC]))) hce hcv hcl ?_
  have hP : va_P G.1 pxCl [] H := fun k q h => by simp at h
  have hD : va_D A [] := ⟨fun i j p q h => by simp at h, fun k q h => by simp at h⟩
  refine lv_astore (lv' := [(5, .ref q9), (0, .ref a0), (1, .int i0), (2, .int i1), (3, .int i2), (4, .ref a1)]) hx hb dL_newDrawer_19 hl (by decide) rfl (fun ls hl => ?_)
  refine lv_iconst (v := 2) hx hb dL_newDrawer_21 (by decide) ?_
  refine W.widen (k := 1) (n := 6) (Nat.le_of_ble_eq_true rfl) (Nat.le_of_ble_eq_true rfl) ?_
  exact W.iret (v := 2) hx hb hr (fun t ht hW => ⟨⟨2, (fun _ => 0), rfl, rfl, by rw [ht]; exact hP, hD⟩, hS.F ht⟩) hS.2.2 dL_newDrawer_22
set_option maxHeartbeats 4000000 in
set_option maxRecDepth 100000 in
theorem k290_X7_in (l : Launch) (G : pxG) (sz : Nat) (i0 : Int32) (h0 : 2 ≤ i0.toInt ∧ i0.toInt ≤ 2147483647) : Met l yX7_in (Cond.code yX7_in cX7_in 3 (some .boolean) :: pxAll) ({ frames := 0, cells := 0, slots := 0, locals := 0 } : Room) (va_Pc [.int i0, .int 0, .int 1] (pxPre G [] sz)) (pxQi G (fun r => r = 0) (fun q => []) (va_A [] sz)) 0 0 (va_A [] sz) := by
  refine Met.ofW (cc := cX7_in) (maxL := 3) (ret := (some .boolean)) (by decide) rfl ?_
  intro p e s m args below meth c s₁ B hml hv
  obtain ⟨rfl, hsz, hG, hZ, hP, hD0⟩ := hv
  have hx := B.exec
  have hb := B.bytes
  have hr := B.returns
  have hts0 := atoms_spec (ws := Cond.code yX7_in cX7_in 3 (some .boolean) :: pxAll) B.pre
  have hts : ∀ w ∈ pxAll, w.before _ s = true := fun w h => hts0 w (List.mem_cons_of_mem _ h)
  have hown : s.vm.findClass RX7 = some m.cls := findClass_of_methodNamed B.named
  have hlocks := B.notSynchronized
  subst hsz
  have hK := hG.1
  have hD := hD0.self (sz := s.heap.size)
  generalize hAe : va_A [] s.heap.size = A at hD hZ ⊢
  have hA : ∀ q : Nat, s.heap.size ≤ q → A q := fun q h => by rw [← hAe]; exact Or.inr h
  have hS : va_S A s.heap s.heap [] := va_S.rf
  have hl := lv_entry ([.int i0, .int 0, .int 1]) (n := 3) (Nat.le_of_ble_eq_true rfl)
  rw [lg_entry_eq]
  generalize (lg_sl ([.int i0, .int 0, .int 1]) ++ List.replicate (3 - (lg_sl ([.int i0, .int 0, .int 1])).length) Slot.unset).toArray = ls at hl ⊢
  have hl : lv_has ls 3 [(0, .int i0), (1, .int 0), (2, .int 1)] := hl
  refine lv_iload_n hx hb dX7_in_0 rfl (lv_at hl 0 rfl) ?_
  refine lv_iload_n hx hb dX7_in_1 rfl (lv_at hl 1 rfl) ?_
  refine lv_icmp_lt (tgt := 14) hx hb dX7_in_2 (by decide) (fun h9 => absurd h9 (pxNlt 0 (by decide) (by omega))) (fun _ => ?_)
  refine lv_iload_n hx hb dX7_in_5 rfl (lv_at hl 0 rfl) ?_
  refine lv_iload_n hx hb dX7_in_6 rfl (lv_at hl 2 rfl) ?_
  refine lv_icmp_gt (tgt := 14) hx hb dX7_in_7 (by decide) (fun _ => ?_) (fun h9 => absurd (pxLt2 1 (by decide) (by omega)) h9)
  refine lv_iconst (v := 0) hx hb dX7_in_14 (by decide) ?_
  refine W.widen (k := 0) (n := 0) (Nat.le_of_ble_eq_true rfl) (Nat.le_of_ble_eq_true rfl) ?_
  exact W.zret (ty := .boolean) (v := 0) hx hb hr rfl (fun t ht hW => ⟨⟨0, (fun _ => 0), rfl, rfl, by rw [ht]; exact hP, hD⟩, hS.F ht⟩) hS.2.2 dX7_in_15
set_option maxHeartbeats 4000000 in
set_option maxRecDepth 100000 in
theorem k290_X7_newDrawer (l : Launch) (G : pxG) (sz : Nat) (a0 a1 a2 a3 a4 a5 a6 a7 a8 a9 a10 a11 : Nat) (i0 i1 i2 : Int32) (h0 : 0 ≤ i0.toInt ∧ i0.toInt ≤ 2) (h1 : 2 ≤ i1.toInt ∧ i1.toInt ≤ 2147483647) : Met l yX7_newDrawer (Cond.code yX7_newDrawer cX7_newDrawer 6 (some .int) :: pxAll) ({ frames := 2, cells := 0, slots := 0, locals := 42 } : Room) (va_Pc [.ref a0, .int i0, .int i1, .int i2] (pxPre G [(a0, .inr (6, [.ref a1, .ref a2, .ref a3, .int 0, .ref a4, .int 0, .int 0, .int 0, .int 0, .ref a5, .int 0, .ref a6, .int 0, .int 0, .int 0, .int (-1), .ref a7, .ref a8, .int 0, .ref a9, .ref a10, .ref a11]))] sz)) (pxQi G (fun r => r = 0) (fun q => [(a0, .inr (6, [.ref a1, .ref a2, .ref a3, .int 0, .ref a4, .int 0, .int 0, .int 2, .int 0, .ref a5, .int 0, .ref a6, .int 0, .int 0, .int 0, .int (-1), .ref a7, .ref a8, .int 0, .ref a9, .ref a10, .ref a11]))]) (va_A [(a0, .inr (6, [.ref a1, .ref a2, .ref a3, .int 0, .ref a4, .int 0, .int 0, .int 0, .int 0, .ref a5, .int 0, .ref a6, .int 0, .int 0, .int 0, .int (-1), .ref a7, .ref a8, .int 0, .ref a9, .ref a10, .ref a11]))] sz)) 0 0 (va_A [(a0, .inr (6, [.ref a1, .ref a2, .ref a3, .int 0, .ref a4, .int 0, .int 0, .int 0, .int 0, .ref a5, .int 0, .ref a6, .int 0, .int 0, .int 0, .int (-1), .ref a7, .ref a8, .int 0, .ref a9, .ref a10, .ref a11]))] sz) := by
  refine Met.ofW (cc := cX7_newDrawer) (maxL := 6) (ret := (some .int)) (by decide) rfl ?_
  intro p e s m args below meth c s₁ B hml hv
  obtain ⟨rfl, hsz, hG, hZ, hP, hD0⟩ := hv
  have hx := B.exec
  have hb := B.bytes
  have hr := B.returns
  have hts0 := atoms_spec (ws := Cond.code yX7_newDrawer cX7_newDrawer 6 (some .int) :: pxAll) B.pre
  have hts : ∀ w ∈ pxAll, w.before _ s = true := fun w h => hts0 w (List.mem_cons_of_mem _ h)
  have hown : s.vm.findClass RX7 = some m.cls := findClass_of_methodNamed B.named
  have hlocks := B.notSynchronized
  subst hsz
  have hK := hG.1
  have hD := hD0.self (sz := s.heap.size)
  generalize hAe : va_A [(a0, .inr (6, [.ref a1, .ref a2, .ref a3, .int 0, .ref a4, .int 0, .int 0, .int 0, .int 0, .ref a5, .int 0, .ref a6, .int 0, .int 0, .int 0, .int (-1), .ref a7, .ref a8, .int 0, .ref a9, .ref a10, .ref a11]))] s.heap.size = A at hD hZ ⊢
  have hA : ∀ q : Nat, s.heap.size ≤ q → A q := fun q h => by rw [← hAe]; exact Or.inr h
  have hS : va_S A s.heap s.heap [] := va_S.rf
  have hl := lv_entry ([.ref a0, .int i0, .int i1, .int i2]) (n := 6) (Nat.le_of_ble_eq_true rfl)
  rw [lg_entry_eq]
  generalize (lg_sl ([.ref a0, .int i0, .int i1, .int i2]) ++ List.replicate (6 - (lg_sl ([.ref a0, .int i0, .int i1, .int i2])).length) Slot.unset).toArray = ls at hl ⊢
  have hl : lv_has ls 6 [(0, .ref a0), (1, .int i0), (2, .int i1), (3, .int i2)] := hl
  refine lv_aload_n hx hb dX7_newDrawer_0 rfl (lv_at hl 0 rfl) ?_
  refine lv_iload_n hx hb dX7_newDrawer_1 rfl (lv_at hl 1 rfl) ?_
  refine pxCi (va_runS (As := [.int i0]) (rest := [.ref a0]) ⟨hx, hb, hml, hown, hts⟩ (k236_X7_isDrawer l G s.heap.size i0 ⟨by omega, by omega⟩) (va_cwS 1 hts (pxGS pm643 pm644 pm71 pm645) rfl rfl rfl (by decide +kernel) ⟨(Nat.le_of_ble_eq_true rfl), (Nat.le_of_ble_eq_true rfl)⟩) (pxS hG hZ hP hD hS hA [] rfl (by decide)) rfl rfl hl.1 rfl (lv_room (Nat.le_of_ble_eq_true rfl)) dX7_newDrawer_2 ⟨(Nat.le_of_ble_eq_true rfl), (Nat.le_of_ble_eq_true rfl)⟩) hP hD hS hA [] [0] rfl rfl (by decide) (by decide) (fun r2 q1 H locs hw hP hD hS => ?_)
  have hw : r2 = 1 := hw
  subst hw
  have hP : va_P G.1 pxCl [(a0, .inr (6, [.ref a1, .ref a2, .ref a3, .int 0, .ref a4, .int 0, .int 0, .int 0, .int 0, .ref a5, .int 0, .ref a6, .int 0, .int 0, .int 0, .int (-1), .ref a7, .ref a8, .int 0, .ref a9, .ref a10, .ref a11]))] H := hP
  have hD : va_D A [(a0, .inr (6, [.ref a1, .ref a2, .ref a3, .int 0, .ref a4, .int 0, .int 0, .int 0, .int 0, .ref a5, .int 0, .ref a6, .int 0, .int 0, .int 0, .int (-1), .ref a7, .ref a8, .int 0, .ref a9, .ref a10, .ref a11]))] := hD
  refine lv_if_ne (tgt := 12) hx hb dX7_newDrawer_5 (by decide) (fun _ => ?_) (fun h9 => absurd h9 (by decide))
  refine lv_iload_n hx hb dX7_newDrawer_12 rfl (lv_at hl 2 rfl) ?_
  refine lv_iconst (v := 0) hx hb dX7_newDrawer_13 (by decide) ?_
  refine lv_iconst (v := 1) hx hb dX7_newDrawer_14 (by decide) ?_
  refine pxCi (va_runS (As := [.int i1, .int 0, .int 1]) (rest := [.ref a0]) ⟨hx, hb, hml, hown, hts⟩ (k290_X7_in l G H.size i1 ⟨by omega, by omega⟩) (va_cwS 3 hts (pxGS pm143 pm144 pm71 pm145) rfl rfl rfl (by decide +kernel) ⟨(Nat.le_of_ble_eq_true rfl), (Nat.le_of_ble_eq_true rfl)⟩) (pxS hG hZ hP hD hS hA [] rfl (by decide)) rfl rfl hl.1 rfl (lv_room (Nat.le_of_ble_eq_true rfl)) dX7_newDrawer_15 ⟨(Nat.le_of_ble_eq_true rfl), (Nat.le_of_ble_eq_true rfl)⟩) hP hD hS hA [] [0] rfl rfl (by decide) (by decide) (fun r4 q3 H locs hw hP hD hS => ?_)
  have hw : r4 = 0 := hw
  subst hw
  have hP : va_P G.1 pxCl [(a0, .inr (6, [.ref a1, .ref a2, .ref a3, .int 0, .ref a4, .int 0, .int 0, .int 0, .int 0, .ref a5, .int 0, .ref a6, .int 0, .int 0, .int 0, .int (-1), .ref a7, .ref a8, .int 0, .ref a9, .ref a10, .ref a11]))] H := hP
  have hD : va_D A [(a0, .inr (6, [.ref a1, .ref a2, .ref a3, .int 0, .ref a4, .int 0, .int 0, .int 0, .int 0, .ref a5, .int 0, .ref a6, .int 0, .int 0, .int 0, .int (-1), .ref a7, .ref a8, .int 0, .ref a9, .ref a10, .ref a11]))] := hD
  refine lv_if_eq (tgt := 31) hx hb dX7_newDrawer_18 (by decide) (fun _ => ?_) (fun h9 => absurd (by decide) h9)
  refine lv_iconst (v := 2) hx hb dX7_newDrawer_31 (by decide) ?_
  refine lv_goto (tgt := 36) hx hb dX7_newDrawer_32 (by decide) ?_
  refine va_put (D := G.1) (ci := 6) (v := .int 2) (ty := .int) (C := RX7) (T := TX7) (N := 22) hx hb hts piX7 tyX7 tyX7_ok nmX7 hown hK hP hD hS 0 rfl rfl 7 (by decide) (hts _ pm150) (fun _ h9 => h9) rfl (by decide +kernel) rfl rfl (Nat.le_of_ble_eq_true rfl) dX7_newDrawer_36 (fun H locs hP hD hS => ?_)
  have hP : va_P G.1 pxCl [(a0, .inr (6, [.ref a1, .ref a2, .ref a3, .int 0, .ref a4, .int 0, .int 0, .int 2, .int 0, .ref a5, .int 0, .ref a6, .int 0, .int 0, .int 0, .int (-1), .ref a7, .ref a8, .int 0, .ref a9, .ref a10, .ref a11]))] H := hP
  have hD : va_D A [(a0, .inr (6, [.ref a1, .ref a2, .ref a3, .int 0, .ref a4, .int 0, .int 0, .int 2, .int 0, .ref a5, .int 0, .ref a6, .int 0, .int 0, .int 0, .int (-1), .ref a7, .ref a8, .int 0, .ref a9, .ref a10, .ref a11]))] := hD
  refine lv_aload_n hx hb dX7_newDrawer_39 rfl (lv_at hl 0 rfl) ?_
  refine va_get (D := G.1) (ci := 6) (v := .int 2) (C := RX7) (T := TX7) (N := 22) hx hb hts piX7 hown hK hP 0 rfl rfl 7 (by decide) (hts _ pm150) (fun _ h9 => h9) rfl dX7_newDrawer_40 ?_
  refine lv_if_le (tgt := 48) hx hb dX7_newDrawer_43 (by decide) (fun h9 => absurd h9 (by decide)) (fun _ => ?_)
  refine lv_iconst (v := 0) hx hb dX7_newDrawer_46 (by decide) ?_
  refine W.widen (k := 0) (n := 0) (Nat.le_of_ble_eq_true rfl) (Nat.le_of_ble_eq_true rfl) ?_
  exact W.iret (v := 0) hx hb hr (fun t ht hW => ⟨⟨0, (fun _ => 0), rfl, rfl, by rw [ht]; exact hP, hD⟩, hS.F ht⟩) hS.2.2 dX7_newDrawer_47
set_option maxHeartbeats 4000000 in
set_option maxRecDepth 100000 in
theorem k292_X6_requireDrawer (l : Launch) (hl9 : l.stackTraces = false) (G : pxG) (sz : Nat) (a0 : Nat) (i0 : Int32) (h0 : 3 ≤ i0.toInt ∧ i0.toInt ≤ 2147483647) : vx_Met l yX6_requireDrawer (Cond.code yX6_requireDrawer cX6_requireDrawer 2 none :: pxAll) ({ frames := 6, cells := 1, slots := 6, locals := 90 } : Room) (va_Pc [.ref a0, .int i0] (pxPre G [] sz)) pxF (pxXC "java/lang/IndexOutOfBoundsException" (va_A [] sz)) 1 6 (va_A [] sz) := by
  refine vx_ofW (cc := cX6_requireDrawer) (maxL := 2) (ret := none) (by decide) rfl ?_
  intro p e s m args below meth c s₁ B hml hEx hv
  obtain ⟨rfl, hsz, hG, hZ, hP, hD0⟩ := hv
  have hx := B.exec
  have hb := B.bytes
  have hr := B.returns
  have hts0 := atoms_spec (ws := Cond.code yX6_requireDrawer cX6_requireDrawer 2 none :: pxAll) B.pre
  have hts : ∀ w ∈ pxAll, w.before _ s = true := fun w h => hts0 w (List.mem_cons_of_mem _ h)
  have hown : s.vm.findClass RX6 = some m.cls := findClass_of_methodNamed B.named
  have hlocks := B.notSynchronized
  subst hsz
  have hK := hG.1
  have hD := hD0.self (sz := s.heap.size)
  generalize hAe : va_A [] s.heap.size = A at hD hZ ⊢
  have hA : ∀ q : Nat, s.heap.size ≤ q → A q := fun q h => by rw [← hAe]; exact Or.inr h
  have hS : va_S A s.heap s.heap [] := va_S.rf
  have hl := lv_entry ([.ref a0, .int i0]) (n := 2) (Nat.le_of_ble_eq_true rfl)
  rw [lg_entry_eq]
  generalize (lg_sl ([.ref a0, .int i0]) ++ List.replicate (2 - (lg_sl ([.ref a0, .int i0])).length) Slot.unset).toArray = ls at hl ⊢
  have hl : lv_has ls 2 [(0, .ref a0), (1, .int i0)] := hl
  refine lv_iload_n hx hb dX6_requireDrawer_0 rfl (lv_at hl 1 rfl) ?_
  refine lv_if_lt (tgt := 9) hx hb dX6_requireDrawer_1 (by decide) (fun h9 => absurd h9 (pxNlt 0 (by decide) (by omega))) (fun _ => ?_)
  refine lv_iload_n hx hb dX6_requireDrawer_4 rfl (lv_at hl 1 rfl) ?_
  refine lv_iconst (v := 3) hx hb dX6_requireDrawer_5 (by decide) ?_
  refine lv_icmp_lt (tgt := 20) hx hb dX6_requireDrawer_6 (by decide) (fun h9 => absurd h9 (pxNlt 3 (by decide) (by omega))) (fun _ => ?_)
  exact vx_throwSW (own := RX6) (cls := "java/lang/IndexOutOfBoundsException") (names := ["java/lang/RuntimeException", "java/lang/Exception"]) hx hb hl9 hown (by decide +kernel) (by decide +kernel) (hts _ pm427) (hts _ pm428) (hG.2.2.2.2.1 8 _ rfl) (pxThr (own := RX6) (ic := 280) (by simp [pxBadC]) hts hG wsL_law_x6 pxh_x6) pxg_x6 hZ.1 hZ.2 hS (hl.1.trans hml.symm) dX6_requireDrawer_9 dX6_requireDrawer_12 dX6_requireDrawer_13 dX6_requireDrawer_16 dX6_requireDrawer_19 (fun x hx => (hEx x hx).elim) (Nat.le_of_ble_eq_true rfl) (Nat.le_of_ble_eq_true rfl) (Nat.le_of_ble_eq_true rfl) (Nat.le_of_ble_eq_true rfl) hlocks (pxXe hS) hS.2.2 (Nat.le_of_ble_eq_true rfl) (Nat.le_of_ble_eq_true rfl)
set_option maxHeartbeats 4000000 in
set_option maxRecDepth 100000 in
theorem k292_X6_newDrawer (l : Launch) (hl9 : l.stackTraces = false) (G : pxG) (sz : Nat) (a0 a1 a2 a3 a4 a5 : Nat) (i0 i1 i2 : Int32) (h0 : 3 ≤ i0.toInt ∧ i0.toInt ≤ 2147483647) : vx_Met l yX6_newDrawer (Cond.code yX6_newDrawer cX6_newDrawer 4 (some .int) :: pxAll) ({ frames := 7, cells := 1, slots := 6, locals := 111 } : Room) (va_Pc [.ref a0, .int i0, .int i1, .int i2] (pxPre G [(a0, .inr (5, [.ref a1, .ref a2, .ref a3, .ref a4, .ref a5, .int 0, .int 0, .int (-1)]))] sz)) pxF (pxXC "java/lang/IndexOutOfBoundsException" (va_A [(a0, .inr (5, [.ref a1, .ref a2, .ref a3, .ref a4, .ref a5, .int 0, .int 0, .int (-1)]))] sz)) 1 6 (va_A [(a0, .inr (5, [.ref a1, .ref a2, .ref a3, .ref a4, .ref a5, .int 0, .int 0, .int (-1)]))] sz) := by
  refine vx_ofW (cc := cX6_newDrawer) (maxL := 4) (ret := (some .int)) (by decide) rfl ?_
  intro p e s m args below meth c s₁ B hml hEx hv
  obtain ⟨rfl, hsz, hG, hZ, hP, hD0⟩ := hv
  have hx := B.exec
  have hb := B.bytes
  have hr := B.returns
  have hts0 := atoms_spec (ws := Cond.code yX6_newDrawer cX6_newDrawer 4 (some .int) :: pxAll) B.pre
  have hts : ∀ w ∈ pxAll, w.before _ s = true := fun w h => hts0 w (List.mem_cons_of_mem _ h)
  have hown : s.vm.findClass RX6 = some m.cls := findClass_of_methodNamed B.named
  have hlocks := B.notSynchronized
  subst hsz
  have hK := hG.1
  have hD := hD0.self (sz := s.heap.size)
  generalize hAe : va_A [(a0, .inr (5, [.ref a1, .ref a2, .ref a3, .ref a4, .ref a5, .int 0, .int 0, .int (-1)]))] s.heap.size = A at hD hZ ⊢
  have hA : ∀ q : Nat, s.heap.size ≤ q → A q := fun q h => by rw [← hAe]; exact Or.inr h
  have hS : va_S A s.heap s.heap [] := va_S.rf
  have hl := lv_entry ([.ref a0, .int i0, .int i1, .int i2]) (n := 4) (Nat.le_of_ble_eq_true rfl)
  rw [lg_entry_eq]
  generalize (lg_sl ([.ref a0, .int i0, .int i1, .int i2]) ++ List.replicate (4 - (lg_sl ([.ref a0, .int i0, .int i1, .int i2])).length) Slot.unset).toArray = ls at hl ⊢
  have hl : lv_has ls 4 [(0, .ref a0), (1, .int i0), (2, .int i1), (3, .int i2)] := hl
  refine lv_aload_n hx hb dX6_newDrawer_0 rfl (lv_at hl 0 rfl) ?_
  refine lv_iload_n hx hb dX6_newDrawer_1 rfl (lv_at hl 1 rfl) ?_
  refine pxCx (vx_runV (As := [.int i0]) (rest := []) ⟨hx, hb, hml, hown, hts⟩ (k292_X6_requireDrawer l hl9 G s.heap.size a0 i0 ⟨by omega, by omega⟩) (cwV 1 hts (pxGV pm632 pm633 pm634 pm2 pm635) rfl rfl rfl (by decide +kernel) ⟨(Nat.le_of_ble_eq_true rfl), (Nat.le_of_ble_eq_true rfl)⟩) (pxV (ci := 5) (q0 := 0) hG hZ hP hD hS hA [] rfl (by decide) rfl rfl) rfl rfl hl.1 rfl (lv_room (Nat.le_of_ble_eq_true rfl)) dX6_newDrawer_2 ⟨(Nat.le_of_ble_eq_true rfl), (Nat.le_of_ble_eq_true rfl)⟩) hD hS hA [] rfl (fun ce q9 H locs hS hce hcv hcl => ?_)
  exact vx_out (fun x hx => (hEx x hx).elim) hlocks hce hcv hcl (fun t ht _ => ⟨rfl, hS.F ht⟩) hS.2.2 (Nat.le_of_ble_eq_true rfl) (Nat.le_of_ble_eq_true rfl)
set_option maxHeartbeats 4000000 in
set_option maxRecDepth 100000 in
theorem k292_L_newDrawer (l : Launch) (hl9 : l.stackTraces = false) (G : pxG) (sz : Nat) (a0 a1 a2 a3 a4 a5 a6 : Nat) (i0 i1 i2 : Int32) (h0 : 3 ≤ i0.toInt ∧ i0.toInt ≤ 2147483647) : Met l yL_newDrawer (Cond.codeWith yL_newDrawer cL_newDrawer 6 (some .int) [(0, 12, 15, 67), (0, 12, 19, 51)] :: pxAll) ({ frames := 8, cells := 1, slots := 6, locals := 134 } : Room) (va_Pc [.ref a0, .int i0, .int i1, .int i2, .ref a1] (pxPre G [(a0, .inr (5, [.ref a2, .ref a3, .ref a4, .ref a5, .ref a6, .int 0, .int 0, .int (-1)]))] sz)) (pxQi G (fun r => r = 1) (fun q => []) (va_A [(a0, .inr (5, [.ref a2, .ref a3, .ref a4, .ref a5, .ref a6, .int 0, .int 0, .int (-1)]))] sz)) 1 6 (va_A [(a0, .inr (5, [.ref a2, .ref a3, .ref a4, .ref a5, .ref a6, .int 0, .int 0, .int (-1)]))] sz) := by
  refine va_MetW (cc := cL_newDrawer) (maxL := 6) (ret := (some .int)) (hh := [(0, 12, 15, 67), (0, 12, 19, 51)]) (by decide) rfl ?_
  intro p e s m args below meth c s₁ B hml hv
  obtain ⟨rfl, hsz, hG, hZ, hP, hD0⟩ := hv
  have hx := B.exec
  have hb := B.bytes
  have hr := B.returns
  have hts0 := atoms_spec (ws := Cond.codeWith yL_newDrawer cL_newDrawer 6 (some .int) [(0, 12, 15, 67), (0, 12, 19, 51)] :: pxAll) B.pre
  have hts : ∀ w ∈ pxAll, w.before _ s = true := fun w h => hts0 w (List.mem_cons_of_mem _ h)
  have hown : s.vm.findClass RL = some m.cls := findClass_of_methodNamed B.named
  have hlocks := B.notSynchronized
  have hTab := vx_table (x := yL_newDrawer) B (hts0 _ List.mem_cons_self)
  subst hsz
  have hK := hG.1
  have hD := hD0.self (sz := s.heap.size)
  generalize hAe : va_A [(a0, .inr (5, [.ref a2, .ref a3, .ref a4, .ref a5, .ref a6, .int 0, .int 0, .int (-1)]))] s.heap.size = A at hD hZ ⊢
  have hA : ∀ q : Nat, s.heap.size ≤ q → A q := fun q h => by rw [← hAe]; exact Or.inr h
  have hS : va_S A s.heap s.heap [] := va_S.rf
  have hl := lv_entry ([.ref a0, .int i0, .int i1, .int i2, .ref a1]) (n := 6) (Nat.le_of_ble_eq_true rfl)
  rw [lg_entry_eq]
  generalize (lg_sl ([.ref a0, .int i0, .int i1, .int i2, .ref a1]) ++ List.replicate (6 - (lg_sl ([.ref a0, .int i0, .int i1, .int i2, .ref a1])).length) Slot.unset).toArray = ls at hl ⊢
  have hl : lv_has ls 6 [(0, .ref a0), (1, .int i0), (2, .int i1), (3, .int i2), (4, .ref a1)] := hl
  refine lv_aload hx hb dL_newDrawer_0 (lv_at hl 4 rfl) ?_
  refine lv_iconst (v := 0) hx hb dL_newDrawer_2 (by decide) ?_
  refine lv_aload_n hx hb dL_newDrawer_3 rfl (lv_at hl 0 rfl) ?_
  refine lv_iload_n hx hb dL_newDrawer_4 rfl (lv_at hl 1 rfl) ?_
  refine lv_iload_n hx hb dL_newDrawer_5 rfl (lv_at hl 2 rfl) ?_
  refine lv_iload_n hx hb dL_newDrawer_6 rfl (lv_at hl 3 rfl) ?_
  refine pxCx (vx_runV (As := [.int i0, .int i1, .int i2]) (rest := [.int 0, .ref a1]) ⟨hx, hb, hml, hown, hts⟩ (k292_X6_newDrawer l hl9 G s.heap.size a0 a2 a3 a4 a5 a6 i0 i1 i2 ⟨by omega, by omega⟩) (cwV 3 hts (pxGV pm636 pm637 pm638 pm2 pm639) rfl rfl rfl (by decide +kernel) ⟨(Nat.le_of_ble_eq_true rfl), (Nat.le_of_ble_eq_true rfl)⟩) (pxV (ci := 5) (q0 := 0) hG hZ hP hD hS hA [0] rfl (by decide) rfl rfl) rfl rfl hl.1 rfl (lv_room (Nat.le_of_ble_eq_true rfl)) dL_newDrawer_7 ⟨(Nat.le_of_ble_eq_true rfl), (Nat.le_of_ble_eq_true rfl)⟩) hD hS hA [0] rfl (fun ce q9 H locs hS hce hcv hcl => ?_)
  refine vx_catch (own := RL) (name := "java/lang/IndexOutOfBoundsException") (E := "java/lang/IndexOutOfBoundsException") hown [] ⟨0, 12, 15, 67⟩ [⟨0, 12, 19, 51⟩] (by rw [hTab]; rfl) (fun z hz => nomatch hz) (by decide) (by decide) (hts _ pm437) (va_Nw.use rfl (hG.2.2.1 "java/lang/IndexOutOfBoundsException" (by simp [pxBadC]))) hce hcv hcl ?_
  have hP : va_P G.1 pxCl [] H := fun k q h => by simp at h
  have hD : va_D A [] := ⟨fun i j p q h => by simp at h, fun k q h => by simp at h⟩
  refine lv_astore (lv' := [(5, .ref q9), (0, .ref a0), (1, .int i0), (2, .int i1), (3, .int i2), (4, .ref a1)]) hx hb dL_newDrawer_15 hl (by decide) rfl (fun ls hl => ?_)
  refine lv_iconst (v := 1) hx hb dL_newDrawer_17 (by decide) ?_
  refine W.widen (k := 1) (n := 6) (Nat.le_of_ble_eq_true rfl) (Nat.le_of_ble_eq_true rfl) ?_
  exact W.iret (v := 1) hx hb hr (fun t ht hW => ⟨⟨1, (fun _ => 0), rfl, rfl, by rw [ht]; exact hP, hD⟩, hS.F ht⟩) hS.2.2 dL_newDrawer_18
set_option maxHeartbeats 4000000 in
set_option maxRecDepth 100000 in
theorem k295_X7_in (l : Launch) (G : pxG) (sz : Nat) (i0 : Int32) (h0 : 3 ≤ i0.toInt ∧ i0.toInt ≤ 2147483647) : Met l yX7_in (Cond.code yX7_in cX7_in 3 (some .boolean) :: pxAll) ({ frames := 0, cells := 0, slots := 0, locals := 0 } : Room) (va_Pc [.int i0, .int 0, .int 2] (pxPre G [] sz)) (pxQi G (fun r => r = 0) (fun q => []) (va_A [] sz)) 0 0 (va_A [] sz) := by
  refine Met.ofW (cc := cX7_in) (maxL := 3) (ret := (some .boolean)) (by decide) rfl ?_
  intro p e s m args below meth c s₁ B hml hv
  obtain ⟨rfl, hsz, hG, hZ, hP, hD0⟩ := hv
  have hx := B.exec
  have hb := B.bytes
  have hr := B.returns
  have hts0 := atoms_spec (ws := Cond.code yX7_in cX7_in 3 (some .boolean) :: pxAll) B.pre
  have hts : ∀ w ∈ pxAll, w.before _ s = true := fun w h => hts0 w (List.mem_cons_of_mem _ h)
  have hown : s.vm.findClass RX7 = some m.cls := findClass_of_methodNamed B.named
  have hlocks := B.notSynchronized
  subst hsz
  have hK := hG.1
  have hD := hD0.self (sz := s.heap.size)
  generalize hAe : va_A [] s.heap.size = A at hD hZ ⊢
  have hA : ∀ q : Nat, s.heap.size ≤ q → A q := fun q h => by rw [← hAe]; exact Or.inr h
  have hS : va_S A s.heap s.heap [] := va_S.rf
  have hl := lv_entry ([.int i0, .int 0, .int 2]) (n := 3) (Nat.le_of_ble_eq_true rfl)
  rw [lg_entry_eq]
  generalize (lg_sl ([.int i0, .int 0, .int 2]) ++ List.replicate (3 - (lg_sl ([.int i0, .int 0, .int 2])).length) Slot.unset).toArray = ls at hl ⊢
  have hl : lv_has ls 3 [(0, .int i0), (1, .int 0), (2, .int 2)] := hl
  refine lv_iload_n hx hb dX7_in_0 rfl (lv_at hl 0 rfl) ?_
  refine lv_iload_n hx hb dX7_in_1 rfl (lv_at hl 1 rfl) ?_
  refine lv_icmp_lt (tgt := 14) hx hb dX7_in_2 (by decide) (fun h9 => absurd h9 (pxNlt 0 (by decide) (by omega))) (fun _ => ?_)
  refine lv_iload_n hx hb dX7_in_5 rfl (lv_at hl 0 rfl) ?_
  refine lv_iload_n hx hb dX7_in_6 rfl (lv_at hl 2 rfl) ?_
  refine lv_icmp_gt (tgt := 14) hx hb dX7_in_7 (by decide) (fun _ => ?_) (fun h9 => absurd (pxLt2 2 (by decide) (by omega)) h9)
  refine lv_iconst (v := 0) hx hb dX7_in_14 (by decide) ?_
  refine W.widen (k := 0) (n := 0) (Nat.le_of_ble_eq_true rfl) (Nat.le_of_ble_eq_true rfl) ?_
  exact W.zret (ty := .boolean) (v := 0) hx hb hr rfl (fun t ht hW => ⟨⟨0, (fun _ => 0), rfl, rfl, by rw [ht]; exact hP, hD⟩, hS.F ht⟩) hS.2.2 dX7_in_15
set_option maxHeartbeats 4000000 in
set_option maxRecDepth 100000 in
theorem k295_X7_isDrawer (l : Launch) (G : pxG) (sz : Nat) (i0 : Int32) (h0 : 3 ≤ i0.toInt ∧ i0.toInt ≤ 2147483647) : Met l yX7_isDrawer (Cond.code yX7_isDrawer cX7_isDrawer 1 (some .boolean) :: pxAll) ({ frames := 1, cells := 0, slots := 0, locals := 22 } : Room) (va_Pc [.int i0] (pxPre G [] sz)) (pxQi G (fun r => r = 0) (fun q => []) (va_A [] sz)) 0 0 (va_A [] sz) := by
  refine Met.ofW (cc := cX7_isDrawer) (maxL := 1) (ret := (some .boolean)) (by decide) rfl ?_
  intro p e s m args below meth c s₁ B hml hv
  obtain ⟨rfl, hsz, hG, hZ, hP, hD0⟩ := hv
  have hx := B.exec
  have hb := B.bytes
  have hr := B.returns
  have hts0 := atoms_spec (ws := Cond.code yX7_isDrawer cX7_isDrawer 1 (some .boolean) :: pxAll) B.pre
  have hts : ∀ w ∈ pxAll, w.before _ s = true := fun w h => hts0 w (List.mem_cons_of_mem _ h)
  have hown : s.vm.findClass RX7 = some m.cls := findClass_of_methodNamed B.named
  have hlocks := B.notSynchronized
  subst hsz
  have hK := hG.1
  have hD := hD0.self (sz := s.heap.size)
  generalize hAe : va_A [] s.heap.size = A at hD hZ ⊢
  have hA : ∀ q : Nat, s.heap.size ≤ q → A q := fun q h => by rw [← hAe]; exact Or.inr h
  have hS : va_S A s.heap s.heap [] := va_S.rf
  have hl := lv_entry ([.int i0]) (n := 1) (Nat.le_of_ble_eq_true rfl)
  rw [lg_entry_eq]
  generalize (lg_sl ([.int i0]) ++ List.replicate (1 - (lg_sl ([.int i0])).length) Slot.unset).toArray = ls at hl ⊢
  have hl : lv_has ls 1 [(0, .int i0)] := hl
  refine lv_iload_n hx hb dX7_isDrawer_0 rfl (lv_at hl 0 rfl) ?_
  refine lv_iconst (v := 0) hx hb dX7_isDrawer_1 (by decide) ?_
  refine lv_iconst (v := 2) hx hb dX7_isDrawer_2 (by decide) ?_
  refine pxCi (va_runS (As := [.int i0, .int 0, .int 2]) (rest := []) ⟨hx, hb, hml, hown, hts⟩ (k295_X7_in l G s.heap.size i0 ⟨by omega, by omega⟩) (va_cwS 3 hts (pxGS pm143 pm144 pm71 pm145) rfl rfl rfl (by decide +kernel) ⟨(Nat.le_of_ble_eq_true rfl), (Nat.le_of_ble_eq_true rfl)⟩) (pxS hG hZ hP hD hS hA [] rfl (by decide)) rfl rfl hl.1 rfl (lv_room (Nat.le_of_ble_eq_true rfl)) dX7_isDrawer_3 ⟨(Nat.le_of_ble_eq_true rfl), (Nat.le_of_ble_eq_true rfl)⟩) hP hD hS hA [] [] rfl rfl (by decide) (by decide) (fun r2 q1 H locs hw hP hD hS => ?_)
  have hw : r2 = 0 := hw
  subst hw
  have hP : va_P G.1 pxCl [] H := hP
  have hD : va_D A [] := hD
  refine W.widen (k := 0) (n := 0) (Nat.le_of_ble_eq_true rfl) (Nat.le_of_ble_eq_true rfl) ?_
  exact W.zret (ty := .boolean) (v := 0) hx hb hr rfl (fun t ht hW => ⟨⟨0, (fun _ => 0), rfl, rfl, by rw [ht]; exact hP, hD⟩, hS.F ht⟩) hS.2.2 dX7_isDrawer_6
set_option maxHeartbeats 4000000 in
set_option maxRecDepth 100000 in
theorem k295_X7_newDrawer (l : Launch) (G : pxG) (sz : Nat) (a0 a1 a2 a3 a4 a5 a6 a7 a8 a9 a10 a11 : Nat) (i0 i1 i2 : Int32) (h0 : 3 ≤ i0.toInt ∧ i0.toInt ≤ 2147483647) : Met l yX7_newDrawer (Cond.code yX7_newDrawer cX7_newDrawer 6 (some .int) :: pxAll) ({ frames := 2, cells := 0, slots := 0, locals := 42 } : Room) (va_Pc [.ref a0, .int i0, .int i1, .int i2] (pxPre G [(a0, .inr (6, [.ref a1, .ref a2, .ref a3, .int 0, .ref a4, .int 0, .int 0, .int 0, .int 0, .ref a5, .int 0, .ref a6, .int 0, .int 0, .int 0, .int (-1), .ref a7, .ref a8, .int 0, .ref a9, .ref a10, .ref a11]))] sz)) (pxQi G (fun r => r = 0) (fun q => [(a0, .inr (6, [.ref a1, .ref a2, .ref a3, .int 0, .ref a4, .int 0, .int 0, .int 1, .int 0, .ref a5, .int 0, .ref a6, .int 0, .int 0, .int 0, .int (-1), .ref a7, .ref a8, .int 0, .ref a9, .ref a10, .ref a11]))]) (va_A [(a0, .inr (6, [.ref a1, .ref a2, .ref a3, .int 0, .ref a4, .int 0, .int 0, .int 0, .int 0, .ref a5, .int 0, .ref a6, .int 0, .int 0, .int 0, .int (-1), .ref a7, .ref a8, .int 0, .ref a9, .ref a10, .ref a11]))] sz)) 0 0 (va_A [(a0, .inr (6, [.ref a1, .ref a2, .ref a3, .int 0, .ref a4, .int 0, .int 0, .int 0, .int 0, .ref a5, .int 0, .ref a6, .int 0, .int 0, .int 0, .int (-1), .ref a7, .ref a8, .int 0, .ref a9, .ref a10, .ref a11]))] sz) := by
  refine Met.ofW (cc := cX7_newDrawer) (maxL := 6) (ret := (some .int)) (by decide) rfl ?_
  intro p e s m args below meth c s₁ B hml hv
  obtain ⟨rfl, hsz, hG, hZ, hP, hD0⟩ := hv
  have hx := B.exec
  have hb := B.bytes
  have hr := B.returns
  have hts0 := atoms_spec (ws := Cond.code yX7_newDrawer cX7_newDrawer 6 (some .int) :: pxAll) B.pre
  have hts : ∀ w ∈ pxAll, w.before _ s = true := fun w h => hts0 w (List.mem_cons_of_mem _ h)
  have hown : s.vm.findClass RX7 = some m.cls := findClass_of_methodNamed B.named
  have hlocks := B.notSynchronized
  subst hsz
  have hK := hG.1
  have hD := hD0.self (sz := s.heap.size)
  generalize hAe : va_A [(a0, .inr (6, [.ref a1, .ref a2, .ref a3, .int 0, .ref a4, .int 0, .int 0, .int 0, .int 0, .ref a5, .int 0, .ref a6, .int 0, .int 0, .int 0, .int (-1), .ref a7, .ref a8, .int 0, .ref a9, .ref a10, .ref a11]))] s.heap.size = A at hD hZ ⊢
  have hA : ∀ q : Nat, s.heap.size ≤ q → A q := fun q h => by rw [← hAe]; exact Or.inr h
  have hS : va_S A s.heap s.heap [] := va_S.rf
  have hl := lv_entry ([.ref a0, .int i0, .int i1, .int i2]) (n := 6) (Nat.le_of_ble_eq_true rfl)
  rw [lg_entry_eq]
  generalize (lg_sl ([.ref a0, .int i0, .int i1, .int i2]) ++ List.replicate (6 - (lg_sl ([.ref a0, .int i0, .int i1, .int i2])).length) Slot.unset).toArray = ls at hl ⊢
  have hl : lv_has ls 6 [(0, .ref a0), (1, .int i0), (2, .int i1), (3, .int i2)] := hl
  refine lv_aload_n hx hb dX7_newDrawer_0 rfl (lv_at hl 0 rfl) ?_
  refine lv_iload_n hx hb dX7_newDrawer_1 rfl (lv_at hl 1 rfl) ?_
  refine pxCi (va_runS (As := [.int i0]) (rest := [.ref a0]) ⟨hx, hb, hml, hown, hts⟩ (k295_X7_isDrawer l G s.heap.size i0 ⟨by omega, by omega⟩) (va_cwS 1 hts (pxGS pm643 pm644 pm71 pm645) rfl rfl rfl (by decide +kernel) ⟨(Nat.le_of_ble_eq_true rfl), (Nat.le_of_ble_eq_true rfl)⟩) (pxS hG hZ hP hD hS hA [] rfl (by decide)) rfl rfl hl.1 rfl (lv_room (Nat.le_of_ble_eq_true rfl)) dX7_newDrawer_2 ⟨(Nat.le_of_ble_eq_true rfl), (Nat.le_of_ble_eq_true rfl)⟩) hP hD hS hA [] [0] rfl rfl (by decide) (by decide) (fun r2 q1 H locs hw hP hD hS => ?_)
  have hw : r2 = 0 := hw
  subst hw
  have hP : va_P G.1 pxCl [(a0, .inr (6, [.ref a1, .ref a2, .ref a3, .int 0, .ref a4, .int 0, .int 0, .int 0, .int 0, .ref a5, .int 0, .ref a6, .int 0, .int 0, .int 0, .int (-1), .ref a7, .ref a8, .int 0, .ref a9, .ref a10, .ref a11]))] H := hP
  have hD : va_D A [(a0, .inr (6, [.ref a1, .ref a2, .ref a3, .int 0, .ref a4, .int 0, .int 0, .int 0, .int 0, .ref a5, .int 0, .ref a6, .int 0, .int 0, .int 0, .int (-1), .ref a7, .ref a8, .int 0, .ref a9, .ref a10, .ref a11]))] := hD
  refine lv_if_ne (tgt := 12) hx hb dX7_newDrawer_5 (by decide) (fun h9 => absurd h9 (by decide)) (fun _ => ?_)
  refine lv_iconst (v := 1) hx hb dX7_newDrawer_8 (by decide) ?_
  refine lv_goto (tgt := 36) hx hb dX7_newDrawer_9 (by decide) ?_
  refine va_put (D := G.1) (ci := 6) (v := .int 1) (ty := .int) (C := RX7) (T := TX7) (N := 22) hx hb hts piX7 tyX7 tyX7_ok nmX7 hown hK hP hD hS 0 rfl rfl 7 (by decide) (hts _ pm150) (fun _ h9 => h9) rfl (by decide +kernel) rfl rfl (Nat.le_of_ble_eq_true rfl) dX7_newDrawer_36 (fun H locs hP hD hS => ?_)
  have hP : va_P G.1 pxCl [(a0, .inr (6, [.ref a1, .ref a2, .ref a3, .int 0, .ref a4, .int 0, .int 0, .int 1, .int 0, .ref a5, .int 0, .ref a6, .int 0, .int 0, .int 0, .int (-1), .ref a7, .ref a8, .int 0, .ref a9, .ref a10, .ref a11]))] H := hP
  have hD : va_D A [(a0, .inr (6, [.ref a1, .ref a2, .ref a3, .int 0, .ref a4, .int 0, .int 0, .int 1, .int 0, .ref a5, .int 0, .ref a6, .int 0, .int 0, .int 0, .int (-1), .ref a7, .ref a8, .int 0, .ref a9, .ref a10, .ref a11]))] := hD
  refine lv_aload_n hx hb dX7_newDrawer_39 rfl (lv_at hl 0 rfl) ?_
  refine va_get (D := G.1) (ci := 6) (v := .int 1) (C := RX7) (T := TX7) (N := 22) hx hb hts piX7 hown hK hP 0 rfl rfl 7 (by decide) (hts _ pm150) (fun _ h9 => h9) rfl dX7_newDrawer_40 ?_
  refine lv_if_le (tgt := 48) hx hb dX7_newDrawer_43 (by decide) (fun h9 => absurd h9 (by decide)) (fun _ => ?_)
  refine lv_iconst (v := 0) hx hb dX7_newDrawer_46 (by decide) ?_
  refine W.widen (k := 0) (n := 0) (Nat.le_of_ble_eq_true rfl) (Nat.le_of_ble_eq_true rfl) ?_
  exact W.iret (v := 0) hx hb hr (fun t ht hW => ⟨⟨0, (fun _ => 0), rfl, rfl, by rw [ht]; exact hP, hD⟩, hS.F ht⟩) hS.2.2 dX7_newDrawer_47
set_option maxHeartbeats 4000000 in
set_option maxRecDepth 100000 in
theorem lc29 {p : Program} {l : Launch} {e : Env} {s : State} {m : MethodId} {below : List Frame} {meth : Method} {c : Code} {b : Nat} {xs : Nat → Int32} (hl9 : l.stackTraces = false) (G : pxG) (C0 : lw_At p s m meth c b 5 xs) (hG : pxOk G s) (hZ : pxZ (fun q : Nat => s.heap.size ≤ q) s s.heap) (a1 a2 a43 a86 a127 a131 a132 a133 a134 a135 a136 a137 a138 a139 a140 a149 a150 a151 a152 a153 a154 a155 a156 a157 a158 a159 a160 a161 a162 : Nat) (H : Heap) (locs : List Loc) (hP : va_P G.1 pxCl [(a1, .inr (5, [.ref a2, .ref a43, .ref a86, .ref a127, .ref a131, .int 0, .int 0, .int (-1)])), (a131, .inl (G.2.1 6, 3, .inr (.inr (.inr (.inr (va_up (va_up (va_up (fun _ => none) 0 (some a132)) 1 (some a135)) 2 (some a138))))))), (a132, .inr (0, [.ref a133, .ref a134, .int 0, .int 0])), (a133, .inl (G.2.1 0, 6, .inl (fun _ => 0))), (a135, .inr (0, [.ref a136, .ref a137, .int 0, .int 0])), (a136, .inl (G.2.1 0, 6, .inl (fun _ => 0))), (a138, .inr (0, [.ref a139, .ref a140, .int 0, .int 0])), (a139, .inl (G.2.1 0, 6, .inl (fun _ => 0))), (a149, .inr (6, [.ref a150, .ref a151, .ref a152, .int 0, .ref a153, .int 0, .int 0, .int 0, .int 0, .ref a154, .int 0, .ref a155, .int 0, .int 0, .int 0, .int (-1), .ref a156, .ref a157, .int 0, .ref a158, .ref a159, .ref a160])), (a158, .inl (G.2.1 0, 3, .inl (fun _ => 0))), (a159, .inl (G.2.1 0, 3, .inl (fun _ => 0))), (a160, .inl (G.2.1 0, 36, .inl (fun _ => 0))), (a161, .inl (G.2.1 1, 1, .inr (.inl (fun _ => 0))))] H) (hD : va_D (fun q : Nat => s.heap.size ≤ q) [(a1, .inr (5, [.ref a2, .ref a43, .ref a86, .ref a127, .ref a131, .int 0, .int 0, .int (-1)])), (a131, .inl (G.2.1 6, 3, .inr (.inr (.inr (.inr (va_up (va_up (va_up (fun _ => none) 0 (some a132)) 1 (some a135)) 2 (some a138))))))), (a132, .inr (0, [.ref a133, .ref a134, .int 0, .int 0])), (a133, .inl (G.2.1 0, 6, .inl (fun _ => 0))), (a135, .inr (0, [.ref a136, .ref a137, .int 0, .int 0])), (a136, .inl (G.2.1 0, 6, .inl (fun _ => 0))), (a138, .inr (0, [.ref a139, .ref a140, .int 0, .int 0])), (a139, .inl (G.2.1 0, 6, .inl (fun _ => 0))), (a149, .inr (6, [.ref a150, .ref a151, .ref a152, .int 0, .ref a153, .int 0, .int 0, .int 0, .int 0, .ref a154, .int 0, .ref a155, .int 0, .int 0, .int 0, .int (-1), .ref a156, .ref a157, .int 0, .ref a158, .ref a159, .ref a160])), (a158, .inl (G.2.1 0, 3, .inl (fun _ => 0))), (a159, .inl (G.2.1 0, 3, .inl (fun _ => 0))), (a160, .inl (G.2.1 0, 36, .inl (fun _ => 0))), (a161, .inl (G.2.1 1, 1, .inr (.inl (fun _ => 0))))]) (hS : va_S (fun q : Nat => s.heap.size ≤ q) s.heap H locs) (ls : Array Slot) (hl : lv_has ls 9 [(5, .int 0), (4, .ref a162), (3, .ref a161), (2, .ref a149), (1, .ref a1), (0, .ref b)]) : W p l e room_1 s m #[Value.ref b] below meth c H locs 482 60053 (lw_Z below #[Value.ref b] s) (F0 m 2165 ls []) := by
  obtain ⟨hx, hb, hr, hml, hown, hts0, hX, hbl, hlocks, hgv⟩ := id C0
  have hts : ∀ w ∈ pxAll, w.before #[Value.ref b] s = true := fun w h => hts0 w (List.mem_filter.mp h).1
  have hA : ∀ q : Nat, s.heap.size ≤ q → (fun q : Nat => s.heap.size ≤ q) q := fun _ h => h
  have hbA : ¬ (fun q : Nat => s.heap.size ≤ q) b := Nat.not_le.mpr hbl
  have hK := hG.1
  obtain ⟨p1, hp1⟩ : ∃ z : Int32, xs 1 = z := ⟨_, rfl⟩
  have r1 := pxRng p1
  obtain ⟨p2, hp2⟩ : ∃ z : Int32, xs 2 = z := ⟨_, rfl⟩
  have r2 := pxRng p2
  obtain ⟨p3, hp3⟩ : ∃ z : Int32, xs 3 = z := ⟨_, rfl⟩
  have r3 := pxRng p3
  refine lv_aload_n hx hb dL_law_2165 rfl (lv_at hl 4 rfl) ?_
  refine lv_aload_n hx hb dL_law_2166 rfl (lv_at hl 5 rfl) ?_
  refine lv_iload hx hb dL_law_2167 (lv_at hl 0 rfl) ?_
  refine lv_iconst (v := 1) hx hb dL_law_2169 (by decide) ?_
  refine lv_iadd hx hb dL_law_2170 ?_
  refine pxTop (w := .int 1) (congrArg Value.int (by decide)) ?_
  refine va_sld hx hb hX hbl hbA hS (show ¬ ((1 : Int32) < 0 ∨ 5 ≤ (1 : Int32).toNatClampNeg) by decide +kernel) dL_law_2171 ?_
  refine pxTop (w := .int p1) (congrArg Value.int hp1) ?_
  refine lv_aload_n hx hb dL_law_2172 rfl (lv_at hl 5 rfl) ?_
  refine lv_iload hx hb dL_law_2173 (lv_at hl 0 rfl) ?_
  refine lv_iconst (v := 2) hx hb dL_law_2175 (by decide) ?_
  refine lv_iadd hx hb dL_law_2176 ?_
  refine pxTop (w := .int 2) (congrArg Value.int (by decide)) ?_
  refine va_sld hx hb hX hbl hbA hS (show ¬ ((2 : Int32) < 0 ∨ 5 ≤ (2 : Int32).toNatClampNeg) by decide +kernel) dL_law_2177 ?_
  refine pxTop (w := .int p2) (congrArg Value.int hp2) ?_
  refine lv_aload_n hx hb dL_law_2178 rfl (lv_at hl 5 rfl) ?_
  refine lv_iload hx hb dL_law_2179 (lv_at hl 0 rfl) ?_
  refine lv_iconst (v := 3) hx hb dL_law_2181 (by decide) ?_
  refine lv_iadd hx hb dL_law_2182 ?_
  refine pxTop (w := .int 3) (congrArg Value.int (by decide)) ?_
  refine va_sld hx hb hX hbl hbA hS (show ¬ ((3 : Int32) < 0 ∨ 5 ≤ (3 : Int32).toNatClampNeg) by decide +kernel) dL_law_2183 ?_
  refine pxTop (w := .int p3) (congrArg Value.int hp3) ?_
  refine lv_aload_n hx hb dL_law_2184 rfl (lv_at hl 2 rfl) ?_
  rcases Int.lt_or_le p1.toInt 0 with f1 | f1
  · skip
    refine pxCi (vx_runSW (As := [.ref a1, .int p1, .int p2, .int p3, .ref a161]) (rest := []) ⟨hx, hb, hml, hown, hts⟩ (k226_L_newDrawer l hl9 G H.size a1 a161 a2 a43 a86 a127 a131 p1 p2 p3 ⟨by omega, by omega⟩) (vx_cwSW 5 hts (pxGS pm640 pm641 pm136 pm642) rfl rfl rfl (by decide +kernel) ⟨(Nat.le_of_ble_eq_true rfl), (Nat.le_of_ble_eq_true rfl)⟩) (pxS hG hZ hP hD hS hA [0] rfl (by decide)) rfl rfl hl.1 rfl (lv_room (Nat.le_of_ble_eq_true rfl)) dL_law_2185 ⟨(Nat.le_of_ble_eq_true rfl), (Nat.le_of_ble_eq_true rfl)⟩) hP hD hS hA [0] [1, 2, 3, 4, 5, 6, 7, 8, 9, 10, 11, 12] rfl rfl (by decide) (by decide) (fun r2 q1 H locs hw hP hD hS => ?_)
    have hw : r2 = 1 := hw
    subst hw
    have hP : va_P G.1 pxCl [(a131, .inl (G.2.1 6, 3, .inr (.inr (.inr (.inr (va_up (va_up (va_up (fun _ => none) 0 (some a132)) 1 (some a135)) 2 (some a138))))))), (a132, .inr (0, [.ref a133, .ref a134, .int 0, .int 0])), (a133, .inl (G.2.1 0, 6, .inl (fun _ => 0))), (a135, .inr (0, [.ref a136, .ref a137, .int 0, .int 0])), (a136, .inl (G.2.1 0, 6, .inl (fun _ => 0))), (a138, .inr (0, [.ref a139, .ref a140, .int 0, .int 0])), (a139, .inl (G.2.1 0, 6, .inl (fun _ => 0))), (a149, .inr (6, [.ref a150, .ref a151, .ref a152, .int 0, .ref a153, .int 0, .int 0, .int 0, .int 0, .ref a154, .int 0, .ref a155, .int 0, .int 0, .int 0, .int (-1), .ref a156, .ref a157, .int 0, .ref a158, .ref a159, .ref a160])), (a158, .inl (G.2.1 0, 3, .inl (fun _ => 0))), (a159, .inl (G.2.1 0, 3, .inl (fun _ => 0))), (a160, .inl (G.2.1 0, 36, .inl (fun _ => 0))), (a161, .inl (G.2.1 1, 1, .inr (.inl (fun _ => 0))))] H := hP
    have hD : va_D (fun q : Nat => s.heap.size ≤ q) [(a131, .inl (G.2.1 6, 3, .inr (.inr (.inr (.inr (va_up (va_up (va_up (fun _ => none) 0 (some a132)) 1 (some a135)) 2 (some a138))))))), (a132, .inr (0, [.ref a133, .ref a134, .int 0, .int 0])), (a133, .inl (G.2.1 0, 6, .inl (fun _ => 0))), (a135, .inr (0, [.ref a136, .ref a137, .int 0, .int 0])), (a136, .inl (G.2.1 0, 6, .inl (fun _ => 0))), (a138, .inr (0, [.ref a139, .ref a140, .int 0, .int 0])), (a139, .inl (G.2.1 0, 6, .inl (fun _ => 0))), (a149, .inr (6, [.ref a150, .ref a151, .ref a152, .int 0, .ref a153, .int 0, .int 0, .int 0, .int 0, .ref a154, .int 0, .ref a155, .int 0, .int 0, .int 0, .int (-1), .ref a156, .ref a157, .int 0, .ref a158, .ref a159, .ref a160])), (a158, .inl (G.2.1 0, 3, .inl (fun _ => 0))), (a159, .inl (G.2.1 0, 3, .inl (fun _ => 0))), (a160, .inl (G.2.1 0, 36, .inl (fun _ => 0))), (a161, .inl (G.2.1 1, 1, .inr (.inl (fun _ => 0))))] := hD
    refine W.widen (k := 483) (n := 60059) (Nat.le_of_ble_eq_true rfl) (Nat.le_of_ble_eq_true rfl) ?_
    refine lv_istore (lv' := [(6, .int 1), (5, .int 0), (4, .ref a162), (3, .ref a161), (2, .ref a149), (1, .ref a1), (0, .ref b)]) hx hb dL_law_2188 hl (by decide) rfl (fun ls hl => ?_)
    refine lv_aload_n hx hb dL_law_2190 rfl (lv_at hl 4 rfl) ?_
    refine lv_aload_n hx hb dL_law_2191 rfl (lv_at hl 6 rfl) ?_
    refine lv_iload hx hb dL_law_2192 (lv_at hl 1 rfl) ?_
    refine lv_iconst (v := 1) hx hb dL_law_2194 (by decide) ?_
    refine lv_iadd hx hb dL_law_2195 ?_
    refine pxTop (w := .int 1) (congrArg Value.int (by decide)) ?_
    refine va_sld hx hb hX hbl hbA hS (show ¬ ((1 : Int32) < 0 ∨ 5 ≤ (1 : Int32).toNatClampNeg) by decide +kernel) dL_law_2196 ?_
    refine pxTop (w := .int p1) (congrArg Value.int hp1) ?_
    refine lv_aload_n hx hb dL_law_2197 rfl (lv_at hl 6 rfl) ?_
    refine lv_iload hx hb dL_law_2198 (lv_at hl 1 rfl) ?_
    refine lv_iconst (v := 2) hx hb dL_law_2200 (by decide) ?_
    refine lv_iadd hx hb dL_law_2201 ?_
    refine pxTop (w := .int 2) (congrArg Value.int (by decide)) ?_
    refine va_sld hx hb hX hbl hbA hS (show ¬ ((2 : Int32) < 0 ∨ 5 ≤ (2 : Int32).toNatClampNeg) by decide +kernel) dL_law_2202 ?_
    refine pxTop (w := .int p2) (congrArg Value.int hp2) ?_
    refine lv_aload_n hx hb dL_law_2203 rfl (lv_at hl 6 rfl) ?_
    refine lv_iload hx hb dL_law_2204 (lv_at hl 1 rfl) ?_
    refine lv_iconst (v := 3) hx hb dL_law_2206 (by decide) ?_
    refine lv_iadd hx hb dL_law_2207 ?_
    refine pxTop (w := .int 3) (congrArg Value.int (by decide)) ?_
    refine va_sld hx hb hX hbl hbA hS (show ¬ ((3 : Int32) < 0 ∨ 5 ≤ (3 : Int32).toNatClampNeg) by decide +kernel) dL_law_2208 ?_
    refine pxTop (w := .int p3) (congrArg Value.int hp3) ?_
    refine pxCi (va_runV (As := [.int p1, .int p2, .int p3]) (rest := []) ⟨hx, hb, hml, hown, hts⟩ (k229_X7_newDrawer l G H.size a149 a150 a151 a152 a153 a154 a155 a156 a157 a158 a159 a160 p1 p2 p3 ⟨by omega, by omega⟩) (cwV 3 hts (pxGV pm646 pm647 pm648 pm71 pm649) rfl rfl rfl (by decide +kernel) ⟨(Nat.le_of_ble_eq_true rfl), (Nat.le_of_ble_eq_true rfl)⟩) (pxV (ci := 6) (q0 := 7) hG hZ hP hD hS hA [7] rfl (by decide) rfl rfl) rfl rfl hl.1 rfl (lv_room (Nat.le_of_ble_eq_true rfl)) dL_law_2209 ⟨(Nat.le_of_ble_eq_true rfl), (Nat.le_of_ble_eq_true rfl)⟩) hP hD hS hA [7] [0, 1, 2, 3, 4, 5, 6, 8, 9, 10, 11] rfl rfl (by decide) (by decide) (fun r4 q3 H locs hw hP hD hS => ?_)
    have hw : r4 = 0 := hw
    subst hw
    have hP : va_P G.1 pxCl [(a131, .inl (G.2.1 6, 3, .inr (.inr (.inr (.inr (va_up (va_up (va_up (fun _ => none) 0 (some a132)) 1 (some a135)) 2 (some a138))))))), (a132, .inr (0, [.ref a133, .ref a134, .int 0, .int 0])), (a133, .inl (G.2.1 0, 6, .inl (fun _ => 0))), (a135, .inr (0, [.ref a136, .ref a137, .int 0, .int 0])), (a136, .inl (G.2.1 0, 6, .inl (fun _ => 0))), (a138, .inr (0, [.ref a139, .ref a140, .int 0, .int 0])), (a139, .inl (G.2.1 0, 6, .inl (fun _ => 0))), (a158, .inl (G.2.1 0, 3, .inl (fun _ => 0))), (a159, .inl (G.2.1 0, 3, .inl (fun _ => 0))), (a160, .inl (G.2.1 0, 36, .inl (fun _ => 0))), (a161, .inl (G.2.1 1, 1, .inr (.inl (fun _ => 0)))), (a149, .inr (6, [.ref a150, .ref a151, .ref a152, .int 0, .ref a153, .int 0, .int 0, .int 1, .int 0, .ref a154, .int 0, .ref a155, .int 0, .int 0, .int 0, .int (-1), .ref a156, .ref a157, .int 0, .ref a158, .ref a159, .ref a160]))] H := hP
    have hD : va_D (fun q : Nat => s.heap.size ≤ q) [(a131, .inl (G.2.1 6, 3, .inr (.inr (.inr (.inr (va_up (va_up (va_up (fun _ => none) 0 (some a132)) 1 (some a135)) 2 (some a138))))))), (a132, .inr (0, [.ref a133, .ref a134, .int 0, .int 0])), (a133, .inl (G.2.1 0, 6, .inl (fun _ => 0))), (a135, .inr (0, [.ref a136, .ref a137, .int 0, .int 0])), (a136, .inl (G.2.1 0, 6, .inl (fun _ => 0))), (a138, .inr (0, [.ref a139, .ref a140, .int 0, .int 0])), (a139, .inl (G.2.1 0, 6, .inl (fun _ => 0))), (a158, .inl (G.2.1 0, 3, .inl (fun _ => 0))), (a159, .inl (G.2.1 0, 3, .inl (fun _ => 0))), (a160, .inl (G.2.1 0, 36, .inl (fun _ => 0))), (a161, .inl (G.2.1 1, 1, .inr (.inl (fun _ => 0)))), (a149, .inr (6, [.ref a150, .ref a151, .ref a152, .int 0, .ref a153, .int 0, .int 0, .int 1, .int 0, .ref a154, .int 0, .ref a155, .int 0, .int 0, .int 0, .int (-1), .ref a156, .ref a157, .int 0, .ref a158, .ref a159, .ref a160]))] := hD
    refine lv_istore (lv' := [(7, .int 0), (6, .int 1), (5, .int 0), (4, .ref a162), (3, .ref a161), (2, .ref a149), (1, .ref a1), (0, .ref b)]) hx hb dL_law_2212 hl (by decide) rfl (fun ls hl => ?_)
    refine lv_aload_n hx hb dL_law_2214 rfl (lv_at hl 5 rfl) ?_
    refine pxCi (va_runV (As := []) (rest := []) ⟨hx, hb, hml, hown, hts⟩ (k158_X7_thrown l G H.size a149 a150 a151 a152 a153 a154 a155 a156 a157 a158 a159 a160) (cwV 0 hts (pxGV pm160 pm161 pm162 pm71 pm163) rfl rfl rfl (by decide +kernel) ⟨(Nat.le_of_ble_eq_true rfl), (Nat.le_of_ble_eq_true rfl)⟩) (pxV (ci := 6) (q0 := 11) hG hZ hP hD hS hA [11] rfl (by decide) rfl rfl) rfl rfl hl.1 rfl (lv_room (Nat.le_of_ble_eq_true rfl)) dL_law_2215 ⟨(Nat.le_of_ble_eq_true rfl), (Nat.le_of_ble_eq_true rfl)⟩) hP hD hS hA [11] [0, 1, 2, 3, 4, 5, 6, 7, 8, 9, 10] rfl rfl (by decide) (by decide) (fun r6 q5 H locs hw hP hD hS => ?_)
    have hw : r6 = 1 := hw
    subst hw
    have hP : va_P G.1 pxCl [(a131, .inl (G.2.1 6, 3, .inr (.inr (.inr (.inr (va_up (va_up (va_up (fun _ => none) 0 (some a132)) 1 (some a135)) 2 (some a138))))))), (a132, .inr (0, [.ref a133, .ref a134, .int 0, .int 0])), (a133, .inl (G.2.1 0, 6, .inl (fun _ => 0))), (a135, .inr (0, [.ref a136, .ref a137, .int 0, .int 0])), (a136, .inl (G.2.1 0, 6, .inl (fun _ => 0))), (a138, .inr (0, [.ref a139, .ref a140, .int 0, .int 0])), (a139, .inl (G.2.1 0, 6, .inl (fun _ => 0))), (a158, .inl (G.2.1 0, 3, .inl (fun _ => 0))), (a159, .inl (G.2.1 0, 3, .inl (fun _ => 0))), (a160, .inl (G.2.1 0, 36, .inl (fun _ => 0))), (a161, .inl (G.2.1 1, 1, .inr (.inl (fun _ => 0)))), (a149, .inr (6, [.ref a150, .ref a151, .ref a152, .int 0, .ref a153, .int 0, .int 0, .int 1, .int 0, .ref a154, .int 0, .ref a155, .int 0, .int 0, .int 0, .int (-1), .ref a156, .ref a157, .int 0, .ref a158, .ref a159, .ref a160]))] H := hP
    have hD : va_D (fun q : Nat => s.heap.size ≤ q) [(a131, .inl (G.2.1 6, 3, .inr (.inr (.inr (.inr (va_up (va_up (va_up (fun _ => none) 0 (some a132)) 1 (some a135)) 2 (some a138))))))), (a132, .inr (0, [.ref a133, .ref a134, .int 0, .int 0])), (a133, .inl (G.2.1 0, 6, .inl (fun _ => 0))), (a135, .inr (0, [.ref a136, .ref a137, .int 0, .int 0])), (a136, .inl (G.2.1 0, 6, .inl (fun _ => 0))), (a138, .inr (0, [.ref a139, .ref a140, .int 0, .int 0])), (a139, .inl (G.2.1 0, 6, .inl (fun _ => 0))), (a158, .inl (G.2.1 0, 3, .inl (fun _ => 0))), (a159, .inl (G.2.1 0, 3, .inl (fun _ => 0))), (a160, .inl (G.2.1 0, 36, .inl (fun _ => 0))), (a161, .inl (G.2.1 1, 1, .inr (.inl (fun _ => 0)))), (a149, .inr (6, [.ref a150, .ref a151, .ref a152, .int 0, .ref a153, .int 0, .int 0, .int 1, .int 0, .ref a154, .int 0, .ref a155, .int 0, .int 0, .int 0, .int (-1), .ref a156, .ref a157, .int 0, .ref a158, .ref a159, .ref a160]))] := hD
    refine lv_iload hx hb dL_law_2218 (lv_at hl 1 rfl) ?_
    refine lv_icmp_eq (tgt := 2225) hx hb dL_law_2220 (by decide) (fun _ => ?_) (fun h9 => absurd (by decide) h9)
    refine lv_iload hx hb dL_law_2225 (lv_at hl 1 rfl) ?_
    refine lv_if_ne (tgt := 2242) hx hb dL_law_2227 (by decide) (fun _ => ?_) (fun h9 => absurd h9 (by decide))
    refine lv_goto (tgt := 2658) hx hb dL_law_2242 (by decide) ?_
    refine W.widen (k := 2000) (n := 200000) (Nat.le_of_ble_eq_true rfl) (Nat.le_of_ble_eq_true rfl) ?_
    exact law_tail hl9 G C0 hG hZ H locs hS ls (lv_sub hl [2, 7] rfl)
  · skip
    rcases Int.lt_or_le p1.toInt 3 with f2 | f2
    · skip
      rcases Int.lt_or_le p2.toInt 0 with f3 | f3
      · skip
        refine pxCi (vx_runSW (As := [.ref a1, .int p1, .int p2, .int p3, .ref a161]) (rest := []) ⟨hx, hb, hml, hown, hts⟩ (k232_L_newDrawer l hl9 G H.size a1 a161 a2 a43 a86 a127 a131 p1 p2 p3 ⟨by omega, by omega⟩ ⟨by omega, by omega⟩) (vx_cwSW 5 hts (pxGS pm640 pm641 pm136 pm642) rfl rfl rfl (by decide +kernel) ⟨(Nat.le_of_ble_eq_true rfl), (Nat.le_of_ble_eq_true rfl)⟩) (pxS hG hZ hP hD hS hA [0] rfl (by decide)) rfl rfl hl.1 rfl (lv_room (Nat.le_of_ble_eq_true rfl)) dL_law_2185 ⟨(Nat.le_of_ble_eq_true rfl), (Nat.le_of_ble_eq_true rfl)⟩) hP hD hS hA [0] [1, 2, 3, 4, 5, 6, 7, 8, 9, 10, 11, 12] rfl rfl (by decide) (by decide) (fun r2 q1 H locs hw hP hD hS => ?_)
        have hw : r2 = 2 := hw
        subst hw
        have hP : va_P G.1 pxCl [(a131, .inl (G.2.1 6, 3, .inr (.inr (.inr (.inr (va_up (va_up (va_up (fun _ => none) 0 (some a132)) 1 (some a135)) 2 (some a138))))))), (a132, .inr (0, [.ref a133, .ref a134, .int 0, .int 0])), (a133, .inl (G.2.1 0, 6, .inl (fun _ => 0))), (a135, .inr (0, [.ref a136, .ref a137, .int 0, .int 0])), (a136, .inl (G.2.1 0, 6, .inl (fun _ => 0))), (a138, .inr (0, [.ref a139, .ref a140, .int 0, .int 0])), (a139, .inl (G.2.1 0, 6, .inl (fun _ => 0))), (a149, .inr (6, [.ref a150, .ref a151, .ref a152, .int 0, .ref a153, .int 0, .int 0, .int 0, .int 0, .ref a154, .int 0, .ref a155, .int 0, .int 0, .int 0, .int (-1), .ref a156, .ref a157, .int 0, .ref a158, .ref a159, .ref a160])), (a158, .inl (G.2.1 0, 3, .inl (fun _ => 0))), (a159, .inl (G.2.1 0, 3, .inl (fun _ => 0))), (a160, .inl (G.2.1 0, 36, .inl (fun _ => 0))), (a161, .inl (G.2.1 1, 1, .inr (.inl (fun _ => 0))))] H := hP
        have hD : va_D (fun q : Nat => s.heap.size ≤ q) [(a131, .inl (G.2.1 6, 3, .inr (.inr (.inr (.inr (va_up (va_up (va_up (fun _ => none) 0 (some a132)) 1 (some a135)) 2 (some a138))))))), (a132, .inr (0, [.ref a133, .ref a134, .int 0, .int 0])), (a133, .inl (G.2.1 0, 6, .inl (fun _ => 0))), (a135, .inr (0, [.ref a136, .ref a137, .int 0, .int 0])), (a136, .inl (G.2.1 0, 6, .inl (fun _ => 0))), (a138, .inr (0, [.ref a139, .ref a140, .int 0, .int 0])), (a139, .inl (G.2.1 0, 6, .inl (fun _ => 0))), (a149, .inr (6, [.ref a150, .ref a151, .ref a152, .int 0, .ref a153, .int 0, .int 0, .int 0, .int 0, .ref a154, .int 0, .ref a155, .int 0, .int 0, .int 0, .int (-1), .ref a156, .ref a157, .int 0, .ref a158, .ref a159, .ref a160])), (a158, .inl (G.2.1 0, 3, .inl (fun _ => 0))), (a159, .inl (G.2.1 0, 3, .inl (fun _ => 0))), (a160, .inl (G.2.1 0, 36, .inl (fun _ => 0))), (a161, .inl (G.2.1 1, 1, .inr (.inl (fun _ => 0))))] := hD
        refine W.widen (k := 483) (n := 60059) (Nat.le_of_ble_eq_true rfl) (Nat.le_of_ble_eq_true rfl) ?_
        refine lv_istore (lv' := [(6, .int 2), (5, .int 0), (4, .ref a162), (3, .ref a161), (2, .ref a149), (1, .ref a1), (0, .ref b)]) hx hb dL_law_2188 hl (by decide) rfl (fun ls hl => ?_)
        refine lv_aload_n hx hb dL_law_2190 rfl (lv_at hl 4 rfl) ?_
        refine lv_aload_n hx hb dL_law_2191 rfl (lv_at hl 6 rfl) ?_
        refine lv_iload hx hb dL_law_2192 (lv_at hl 1 rfl) ?_
        refine lv_iconst (v := 1) hx hb dL_law_2194 (by decide) ?_
        refine lv_iadd hx hb dL_law_2195 ?_
        refine pxTop (w := .int 1) (congrArg Value.int (by decide)) ?_
        refine va_sld hx hb hX hbl hbA hS (show ¬ ((1 : Int32) < 0 ∨ 5 ≤ (1 : Int32).toNatClampNeg) by decide +kernel) dL_law_2196 ?_
        refine pxTop (w := .int p1) (congrArg Value.int hp1) ?_
        refine lv_aload_n hx hb dL_law_2197 rfl (lv_at hl 6 rfl) ?_
        refine lv_iload hx hb dL_law_2198 (lv_at hl 1 rfl) ?_
        refine lv_iconst (v := 2) hx hb dL_law_2200 (by decide) ?_
        refine lv_iadd hx hb dL_law_2201 ?_
        refine pxTop (w := .int 2) (congrArg Value.int (by decide)) ?_
        refine va_sld hx hb hX hbl hbA hS (show ¬ ((2 : Int32) < 0 ∨ 5 ≤ (2 : Int32).toNatClampNeg) by decide +kernel) dL_law_2202 ?_
        refine pxTop (w := .int p2) (congrArg Value.int hp2) ?_
        refine lv_aload_n hx hb dL_law_2203 rfl (lv_at hl 6 rfl) ?_
        refine lv_iload hx hb dL_law_2204 (lv_at hl 1 rfl) ?_
        refine lv_iconst (v := 3) hx hb dL_law_2206 (by decide) ?_
        refine lv_iadd hx hb dL_law_2207 ?_
        refine pxTop (w := .int 3) (congrArg Value.int (by decide)) ?_
        refine va_sld hx hb hX hbl hbA hS (show ¬ ((3 : Int32) < 0 ∨ 5 ≤ (3 : Int32).toNatClampNeg) by decide +kernel) dL_law_2208 ?_
        refine pxTop (w := .int p3) (congrArg Value.int hp3) ?_
        refine pxCi (va_runV (As := [.int p1, .int p2, .int p3]) (rest := []) ⟨hx, hb, hml, hown, hts⟩ (k236_X7_newDrawer l G H.size a149 a150 a151 a152 a153 a154 a155 a156 a157 a158 a159 a160 p1 p2 p3 ⟨by omega, by omega⟩ ⟨by omega, by omega⟩) (cwV 3 hts (pxGV pm646 pm647 pm648 pm71 pm649) rfl rfl rfl (by decide +kernel) ⟨(Nat.le_of_ble_eq_true rfl), (Nat.le_of_ble_eq_true rfl)⟩) (pxV (ci := 6) (q0 := 7) hG hZ hP hD hS hA [7] rfl (by decide) rfl rfl) rfl rfl hl.1 rfl (lv_room (Nat.le_of_ble_eq_true rfl)) dL_law_2209 ⟨(Nat.le_of_ble_eq_true rfl), (Nat.le_of_ble_eq_true rfl)⟩) hP hD hS hA [7] [0, 1, 2, 3, 4, 5, 6, 8, 9, 10, 11] rfl rfl (by decide) (by decide) (fun r4 q3 H locs hw hP hD hS => ?_)
        have hw : r4 = 0 := hw
        subst hw
        have hP : va_P G.1 pxCl [(a131, .inl (G.2.1 6, 3, .inr (.inr (.inr (.inr (va_up (va_up (va_up (fun _ => none) 0 (some a132)) 1 (some a135)) 2 (some a138))))))), (a132, .inr (0, [.ref a133, .ref a134, .int 0, .int 0])), (a133, .inl (G.2.1 0, 6, .inl (fun _ => 0))), (a135, .inr (0, [.ref a136, .ref a137, .int 0, .int 0])), (a136, .inl (G.2.1 0, 6, .inl (fun _ => 0))), (a138, .inr (0, [.ref a139, .ref a140, .int 0, .int 0])), (a139, .inl (G.2.1 0, 6, .inl (fun _ => 0))), (a158, .inl (G.2.1 0, 3, .inl (fun _ => 0))), (a159, .inl (G.2.1 0, 3, .inl (fun _ => 0))), (a160, .inl (G.2.1 0, 36, .inl (fun _ => 0))), (a161, .inl (G.2.1 1, 1, .inr (.inl (fun _ => 0)))), (a149, .inr (6, [.ref a150, .ref a151, .ref a152, .int 0, .ref a153, .int 0, .int 0, .int 2, .int 0, .ref a154, .int 0, .ref a155, .int 0, .int 0, .int 0, .int (-1), .ref a156, .ref a157, .int 0, .ref a158, .ref a159, .ref a160]))] H := hP
        have hD : va_D (fun q : Nat => s.heap.size ≤ q) [(a131, .inl (G.2.1 6, 3, .inr (.inr (.inr (.inr (va_up (va_up (va_up (fun _ => none) 0 (some a132)) 1 (some a135)) 2 (some a138))))))), (a132, .inr (0, [.ref a133, .ref a134, .int 0, .int 0])), (a133, .inl (G.2.1 0, 6, .inl (fun _ => 0))), (a135, .inr (0, [.ref a136, .ref a137, .int 0, .int 0])), (a136, .inl (G.2.1 0, 6, .inl (fun _ => 0))), (a138, .inr (0, [.ref a139, .ref a140, .int 0, .int 0])), (a139, .inl (G.2.1 0, 6, .inl (fun _ => 0))), (a158, .inl (G.2.1 0, 3, .inl (fun _ => 0))), (a159, .inl (G.2.1 0, 3, .inl (fun _ => 0))), (a160, .inl (G.2.1 0, 36, .inl (fun _ => 0))), (a161, .inl (G.2.1 1, 1, .inr (.inl (fun _ => 0)))), (a149, .inr (6, [.ref a150, .ref a151, .ref a152, .int 0, .ref a153, .int 0, .int 0, .int 2, .int 0, .ref a154, .int 0, .ref a155, .int 0, .int 0, .int 0, .int (-1), .ref a156, .ref a157, .int 0, .ref a158, .ref a159, .ref a160]))] := hD
        refine lv_istore (lv' := [(7, .int 0), (6, .int 2), (5, .int 0), (4, .ref a162), (3, .ref a161), (2, .ref a149), (1, .ref a1), (0, .ref b)]) hx hb dL_law_2212 hl (by decide) rfl (fun ls hl => ?_)
        refine lv_aload_n hx hb dL_law_2214 rfl (lv_at hl 5 rfl) ?_
        refine pxCi (va_runV (As := []) (rest := []) ⟨hx, hb, hml, hown, hts⟩ (k240_X7_thrown l G H.size a149 a150 a151 a152 a153 a154 a155 a156 a157 a158 a159 a160) (cwV 0 hts (pxGV pm160 pm161 pm162 pm71 pm163) rfl rfl rfl (by decide +kernel) ⟨(Nat.le_of_ble_eq_true rfl), (Nat.le_of_ble_eq_true rfl)⟩) (pxV (ci := 6) (q0 := 11) hG hZ hP hD hS hA [11] rfl (by decide) rfl rfl) rfl rfl hl.1 rfl (lv_room (Nat.le_of_ble_eq_true rfl)) dL_law_2215 ⟨(Nat.le_of_ble_eq_true rfl), (Nat.le_of_ble_eq_true rfl)⟩) hP hD hS hA [11] [0, 1, 2, 3, 4, 5, 6, 7, 8, 9, 10] rfl rfl (by decide) (by decide) (fun r6 q5 H locs hw hP hD hS => ?_)
        have hw : r6 = 2 := hw
        subst hw
        have hP : va_P G.1 pxCl [(a131, .inl (G.2.1 6, 3, .inr (.inr (.inr (.inr (va_up (va_up (va_up (fun _ => none) 0 (some a132)) 1 (some a135)) 2 (some a138))))))), (a132, .inr (0, [.ref a133, .ref a134, .int 0, .int 0])), (a133, .inl (G.2.1 0, 6, .inl (fun _ => 0))), (a135, .inr (0, [.ref a136, .ref a137, .int 0, .int 0])), (a136, .inl (G.2.1 0, 6, .inl (fun _ => 0))), (a138, .inr (0, [.ref a139, .ref a140, .int 0, .int 0])), (a139, .inl (G.2.1 0, 6, .inl (fun _ => 0))), (a158, .inl (G.2.1 0, 3, .inl (fun _ => 0))), (a159, .inl (G.2.1 0, 3, .inl (fun _ => 0))), (a160, .inl (G.2.1 0, 36, .inl (fun _ => 0))), (a161, .inl (G.2.1 1, 1, .inr (.inl (fun _ => 0)))), (a149, .inr (6, [.ref a150, .ref a151, .ref a152, .int 0, .ref a153, .int 0, .int 0, .int 2, .int 0, .ref a154, .int 0, .ref a155, .int 0, .int 0, .int 0, .int (-1), .ref a156, .ref a157, .int 0, .ref a158, .ref a159, .ref a160]))] H := hP
        have hD : va_D (fun q : Nat => s.heap.size ≤ q) [(a131, .inl (G.2.1 6, 3, .inr (.inr (.inr (.inr (va_up (va_up (va_up (fun _ => none) 0 (some a132)) 1 (some a135)) 2 (some a138))))))), (a132, .inr (0, [.ref a133, .ref a134, .int 0, .int 0])), (a133, .inl (G.2.1 0, 6, .inl (fun _ => 0))), (a135, .inr (0, [.ref a136, .ref a137, .int 0, .int 0])), (a136, .inl (G.2.1 0, 6, .inl (fun _ => 0))), (a138, .inr (0, [.ref a139, .ref a140, .int 0, .int 0])), (a139, .inl (G.2.1 0, 6, .inl (fun _ => 0))), (a158, .inl (G.2.1 0, 3, .inl (fun _ => 0))), (a159, .inl (G.2.1 0, 3, .inl (fun _ => 0))), (a160, .inl (G.2.1 0, 36, .inl (fun _ => 0))), (a161, .inl (G.2.1 1, 1, .inr (.inl (fun _ => 0)))), (a149, .inr (6, [.ref a150, .ref a151, .ref a152, .int 0, .ref a153, .int 0, .int 0, .int 2, .int 0, .ref a154, .int 0, .ref a155, .int 0, .int 0, .int 0, .int (-1), .ref a156, .ref a157, .int 0, .ref a158, .ref a159, .ref a160]))] := hD
        refine lv_iload hx hb dL_law_2218 (lv_at hl 1 rfl) ?_
        refine lv_icmp_eq (tgt := 2225) hx hb dL_law_2220 (by decide) (fun _ => ?_) (fun h9 => absurd (by decide) h9)
        refine lv_iload hx hb dL_law_2225 (lv_at hl 1 rfl) ?_
        refine lv_if_ne (tgt := 2242) hx hb dL_law_2227 (by decide) (fun _ => ?_) (fun h9 => absurd h9 (by decide))
        refine lv_goto (tgt := 2658) hx hb dL_law_2242 (by decide) ?_
        refine W.widen (k := 2000) (n := 200000) (Nat.le_of_ble_eq_true rfl) (Nat.le_of_ble_eq_true rfl) ?_
        exact law_tail hl9 G C0 hG hZ H locs hS ls (lv_sub hl [2, 7] rfl)
      · skip
        rcases Int.lt_or_le p2.toInt 1 with f4 | f4
        · skip
          obtain rfl : p2 = 0 := pxEq 0 (by have h9 : (0 : Int32).toInt = 0 := (by decide); omega)
          rcases Int.lt_or_le p3.toInt 1 with f5 | f5
          · skip
            refine pxCi (vx_runSW (As := [.ref a1, .int p1, .int 0, .int p3, .ref a161]) (rest := []) ⟨hx, hb, hml, hown, hts⟩ (k241_L_newDrawer l hl9 G H.size a1 a161 a2 a43 a86 a127 a131 p1 p3 ⟨by omega, by omega⟩ ⟨by omega, by omega⟩) (vx_cwSW 5 hts (pxGS pm640 pm641 pm136 pm642) rfl rfl rfl (by decide +kernel) ⟨(Nat.le_of_ble_eq_true rfl), (Nat.le_of_ble_eq_true rfl)⟩) (pxS hG hZ hP hD hS hA [0] rfl (by decide)) rfl rfl hl.1 rfl (lv_room (Nat.le_of_ble_eq_true rfl)) dL_law_2185 ⟨(Nat.le_of_ble_eq_true rfl), (Nat.le_of_ble_eq_true rfl)⟩) hP hD hS hA [0] [1, 2, 3, 4, 5, 6, 7, 8, 9, 10, 11, 12] rfl rfl (by decide) (by decide) (fun r2 q1 H locs hw hP hD hS => ?_)
            have hw : r2 = 2 := hw
            subst hw
            have hP : va_P G.1 pxCl [(a131, .inl (G.2.1 6, 3, .inr (.inr (.inr (.inr (va_up (va_up (va_up (fun _ => none) 0 (some a132)) 1 (some a135)) 2 (some a138))))))), (a132, .inr (0, [.ref a133, .ref a134, .int 0, .int 0])), (a133, .inl (G.2.1 0, 6, .inl (fun _ => 0))), (a135, .inr (0, [.ref a136, .ref a137, .int 0, .int 0])), (a136, .inl (G.2.1 0, 6, .inl (fun _ => 0))), (a138, .inr (0, [.ref a139, .ref a140, .int 0, .int 0])), (a139, .inl (G.2.1 0, 6, .inl (fun _ => 0))), (a149, .inr (6, [.ref a150, .ref a151, .ref a152, .int 0, .ref a153, .int 0, .int 0, .int 0, .int 0, .ref a154, .int 0, .ref a155, .int 0, .int 0, .int 0, .int (-1), .ref a156, .ref a157, .int 0, .ref a158, .ref a159, .ref a160])), (a158, .inl (G.2.1 0, 3, .inl (fun _ => 0))), (a159, .inl (G.2.1 0, 3, .inl (fun _ => 0))), (a160, .inl (G.2.1 0, 36, .inl (fun _ => 0))), (a161, .inl (G.2.1 1, 1, .inr (.inl (fun _ => 0))))] H := hP
            have hD : va_D (fun q : Nat => s.heap.size ≤ q) [(a131, .inl (G.2.1 6, 3, .inr (.inr (.inr (.inr (va_up (va_up (va_up (fun _ => none) 0 (some a132)) 1 (some a135)) 2 (some a138))))))), (a132, .inr (0, [.ref a133, .ref a134, .int 0, .int 0])), (a133, .inl (G.2.1 0, 6, .inl (fun _ => 0))), (a135, .inr (0, [.ref a136, .ref a137, .int 0, .int 0])), (a136, .inl (G.2.1 0, 6, .inl (fun _ => 0))), (a138, .inr (0, [.ref a139, .ref a140, .int 0, .int 0])), (a139, .inl (G.2.1 0, 6, .inl (fun _ => 0))), (a149, .inr (6, [.ref a150, .ref a151, .ref a152, .int 0, .ref a153, .int 0, .int 0, .int 0, .int 0, .ref a154, .int 0, .ref a155, .int 0, .int 0, .int 0, .int (-1), .ref a156, .ref a157, .int 0, .ref a158, .ref a159, .ref a160])), (a158, .inl (G.2.1 0, 3, .inl (fun _ => 0))), (a159, .inl (G.2.1 0, 3, .inl (fun _ => 0))), (a160, .inl (G.2.1 0, 36, .inl (fun _ => 0))), (a161, .inl (G.2.1 1, 1, .inr (.inl (fun _ => 0))))] := hD
            refine W.widen (k := 483) (n := 60059) (Nat.le_of_ble_eq_true rfl) (Nat.le_of_ble_eq_true rfl) ?_
            refine lv_istore (lv' := [(6, .int 2), (5, .int 0), (4, .ref a162), (3, .ref a161), (2, .ref a149), (1, .ref a1), (0, .ref b)]) hx hb dL_law_2188 hl (by decide) rfl (fun ls hl => ?_)
            refine lv_aload_n hx hb dL_law_2190 rfl (lv_at hl 4 rfl) ?_
            refine lv_aload_n hx hb dL_law_2191 rfl (lv_at hl 6 rfl) ?_
            refine lv_iload hx hb dL_law_2192 (lv_at hl 1 rfl) ?_
            refine lv_iconst (v := 1) hx hb dL_law_2194 (by decide) ?_
            refine lv_iadd hx hb dL_law_2195 ?_
            refine pxTop (w := .int 1) (congrArg Value.int (by decide)) ?_
            refine va_sld hx hb hX hbl hbA hS (show ¬ ((1 : Int32) < 0 ∨ 5 ≤ (1 : Int32).toNatClampNeg) by decide +kernel) dL_law_2196 ?_
            refine pxTop (w := .int p1) (congrArg Value.int hp1) ?_
            refine lv_aload_n hx hb dL_law_2197 rfl (lv_at hl 6 rfl) ?_
            refine lv_iload hx hb dL_law_2198 (lv_at hl 1 rfl) ?_
            refine lv_iconst (v := 2) hx hb dL_law_2200 (by decide) ?_
            refine lv_iadd hx hb dL_law_2201 ?_
            refine pxTop (w := .int 2) (congrArg Value.int (by decide)) ?_
            refine va_sld hx hb hX hbl hbA hS (show ¬ ((2 : Int32) < 0 ∨ 5 ≤ (2 : Int32).toNatClampNeg) by decide +kernel) dL_law_2202 ?_
            refine pxTop (w := .int 0) (congrArg Value.int hp2) ?_
            refine lv_aload_n hx hb dL_law_2203 rfl (lv_at hl 6 rfl) ?_
            refine lv_iload hx hb dL_law_2204 (lv_at hl 1 rfl) ?_
            refine lv_iconst (v := 3) hx hb dL_law_2206 (by decide) ?_
            refine lv_iadd hx hb dL_law_2207 ?_
            refine pxTop (w := .int 3) (congrArg Value.int (by decide)) ?_
            refine va_sld hx hb hX hbl hbA hS (show ¬ ((3 : Int32) < 0 ∨ 5 ≤ (3 : Int32).toNatClampNeg) by decide +kernel) dL_law_2208 ?_
            refine pxTop (w := .int p3) (congrArg Value.int hp3) ?_
            refine pxCi (va_runV (As := [.int p1, .int 0, .int p3]) (rest := []) ⟨hx, hb, hml, hown, hts⟩ (k244_X7_newDrawer l G H.size a149 a150 a151 a152 a153 a154 a155 a156 a157 a158 a159 a160 p1 p3 ⟨by omega, by omega⟩ ⟨by omega, by omega⟩) (cwV 3 hts (pxGV pm646 pm647 pm648 pm71 pm649) rfl rfl rfl (by decide +kernel) ⟨(Nat.le_of_ble_eq_true rfl), (Nat.le_of_ble_eq_true rfl)⟩) (pxV (ci := 6) (q0 := 7) hG hZ hP hD hS hA [7] rfl (by decide) rfl rfl) rfl rfl hl.1 rfl (lv_room (Nat.le_of_ble_eq_true rfl)) dL_law_2209 ⟨(Nat.le_of_ble_eq_true rfl), (Nat.le_of_ble_eq_true rfl)⟩) hP hD hS hA [7] [0, 1, 2, 3, 4, 5, 6, 8, 9, 10, 11] rfl rfl (by decide) (by decide) (fun r4 q3 H locs hw hP hD hS => ?_)
            have hw : r4 = 0 := hw
            subst hw
            have hP : va_P G.1 pxCl [(a131, .inl (G.2.1 6, 3, .inr (.inr (.inr (.inr (va_up (va_up (va_up (fun _ => none) 0 (some a132)) 1 (some a135)) 2 (some a138))))))), (a132, .inr (0, [.ref a133, .ref a134, .int 0, .int 0])), (a133, .inl (G.2.1 0, 6, .inl (fun _ => 0))), (a135, .inr (0, [.ref a136, .ref a137, .int 0, .int 0])), (a136, .inl (G.2.1 0, 6, .inl (fun _ => 0))), (a138, .inr (0, [.ref a139, .ref a140, .int 0, .int 0])), (a139, .inl (G.2.1 0, 6, .inl (fun _ => 0))), (a158, .inl (G.2.1 0, 3, .inl (fun _ => 0))), (a159, .inl (G.2.1 0, 3, .inl (fun _ => 0))), (a160, .inl (G.2.1 0, 36, .inl (fun _ => 0))), (a161, .inl (G.2.1 1, 1, .inr (.inl (fun _ => 0)))), (a149, .inr (6, [.ref a150, .ref a151, .ref a152, .int 0, .ref a153, .int 0, .int 0, .int 2, .int 0, .ref a154, .int 0, .ref a155, .int 0, .int 0, .int 0, .int (-1), .ref a156, .ref a157, .int 0, .ref a158, .ref a159, .ref a160]))] H := hP
            have hD : va_D (fun q : Nat => s.heap.size ≤ q) [(a131, .inl (G.2.1 6, 3, .inr (.inr (.inr (.inr (va_up (va_up (va_up (fun _ => none) 0 (some a132)) 1 (some a135)) 2 (some a138))))))), (a132, .inr (0, [.ref a133, .ref a134, .int 0, .int 0])), (a133, .inl (G.2.1 0, 6, .inl (fun _ => 0))), (a135, .inr (0, [.ref a136, .ref a137, .int 0, .int 0])), (a136, .inl (G.2.1 0, 6, .inl (fun _ => 0))), (a138, .inr (0, [.ref a139, .ref a140, .int 0, .int 0])), (a139, .inl (G.2.1 0, 6, .inl (fun _ => 0))), (a158, .inl (G.2.1 0, 3, .inl (fun _ => 0))), (a159, .inl (G.2.1 0, 3, .inl (fun _ => 0))), (a160, .inl (G.2.1 0, 36, .inl (fun _ => 0))), (a161, .inl (G.2.1 1, 1, .inr (.inl (fun _ => 0)))), (a149, .inr (6, [.ref a150, .ref a151, .ref a152, .int 0, .ref a153, .int 0, .int 0, .int 2, .int 0, .ref a154, .int 0, .ref a155, .int 0, .int 0, .int 0, .int (-1), .ref a156, .ref a157, .int 0, .ref a158, .ref a159, .ref a160]))] := hD
            refine lv_istore (lv' := [(7, .int 0), (6, .int 2), (5, .int 0), (4, .ref a162), (3, .ref a161), (2, .ref a149), (1, .ref a1), (0, .ref b)]) hx hb dL_law_2212 hl (by decide) rfl (fun ls hl => ?_)
            refine lv_aload_n hx hb dL_law_2214 rfl (lv_at hl 5 rfl) ?_
            refine pxCi (va_runV (As := []) (rest := []) ⟨hx, hb, hml, hown, hts⟩ (k240_X7_thrown l G H.size a149 a150 a151 a152 a153 a154 a155 a156 a157 a158 a159 a160) (cwV 0 hts (pxGV pm160 pm161 pm162 pm71 pm163) rfl rfl rfl (by decide +kernel) ⟨(Nat.le_of_ble_eq_true rfl), (Nat.le_of_ble_eq_true rfl)⟩) (pxV (ci := 6) (q0 := 11) hG hZ hP hD hS hA [11] rfl (by decide) rfl rfl) rfl rfl hl.1 rfl (lv_room (Nat.le_of_ble_eq_true rfl)) dL_law_2215 ⟨(Nat.le_of_ble_eq_true rfl), (Nat.le_of_ble_eq_true rfl)⟩) hP hD hS hA [11] [0, 1, 2, 3, 4, 5, 6, 7, 8, 9, 10] rfl rfl (by decide) (by decide) (fun r6 q5 H locs hw hP hD hS => ?_)
            have hw : r6 = 2 := hw
            subst hw
            have hP : va_P G.1 pxCl [(a131, .inl (G.2.1 6, 3, .inr (.inr (.inr (.inr (va_up (va_up (va_up (fun _ => none) 0 (some a132)) 1 (some a135)) 2 (some a138))))))), (a132, .inr (0, [.ref a133, .ref a134, .int 0, .int 0])), (a133, .inl (G.2.1 0, 6, .inl (fun _ => 0))), (a135, .inr (0, [.ref a136, .ref a137, .int 0, .int 0])), (a136, .inl (G.2.1 0, 6, .inl (fun _ => 0))), (a138, .inr (0, [.ref a139, .ref a140, .int 0, .int 0])), (a139, .inl (G.2.1 0, 6, .inl (fun _ => 0))), (a158, .inl (G.2.1 0, 3, .inl (fun _ => 0))), (a159, .inl (G.2.1 0, 3, .inl (fun _ => 0))), (a160, .inl (G.2.1 0, 36, .inl (fun _ => 0))), (a161, .inl (G.2.1 1, 1, .inr (.inl (fun _ => 0)))), (a149, .inr (6, [.ref a150, .ref a151, .ref a152, .int 0, .ref a153, .int 0, .int 0, .int 2, .int 0, .ref a154, .int 0, .ref a155, .int 0, .int 0, .int 0, .int (-1), .ref a156, .ref a157, .int 0, .ref a158, .ref a159, .ref a160]))] H := hP
            have hD : va_D (fun q : Nat => s.heap.size ≤ q) [(a131, .inl (G.2.1 6, 3, .inr (.inr (.inr (.inr (va_up (va_up (va_up (fun _ => none) 0 (some a132)) 1 (some a135)) 2 (some a138))))))), (a132, .inr (0, [.ref a133, .ref a134, .int 0, .int 0])), (a133, .inl (G.2.1 0, 6, .inl (fun _ => 0))), (a135, .inr (0, [.ref a136, .ref a137, .int 0, .int 0])), (a136, .inl (G.2.1 0, 6, .inl (fun _ => 0))), (a138, .inr (0, [.ref a139, .ref a140, .int 0, .int 0])), (a139, .inl (G.2.1 0, 6, .inl (fun _ => 0))), (a158, .inl (G.2.1 0, 3, .inl (fun _ => 0))), (a159, .inl (G.2.1 0, 3, .inl (fun _ => 0))), (a160, .inl (G.2.1 0, 36, .inl (fun _ => 0))), (a161, .inl (G.2.1 1, 1, .inr (.inl (fun _ => 0)))), (a149, .inr (6, [.ref a150, .ref a151, .ref a152, .int 0, .ref a153, .int 0, .int 0, .int 2, .int 0, .ref a154, .int 0, .ref a155, .int 0, .int 0, .int 0, .int (-1), .ref a156, .ref a157, .int 0, .ref a158, .ref a159, .ref a160]))] := hD
            refine lv_iload hx hb dL_law_2218 (lv_at hl 1 rfl) ?_
            refine lv_icmp_eq (tgt := 2225) hx hb dL_law_2220 (by decide) (fun _ => ?_) (fun h9 => absurd (by decide) h9)
            refine lv_iload hx hb dL_law_2225 (lv_at hl 1 rfl) ?_
            refine lv_if_ne (tgt := 2242) hx hb dL_law_2227 (by decide) (fun _ => ?_) (fun h9 => absurd h9 (by decide))
            refine lv_goto (tgt := 2658) hx hb dL_law_2242 (by decide) ?_
            refine W.widen (k := 2000) (n := 200000) (Nat.le_of_ble_eq_true rfl) (Nat.le_of_ble_eq_true rfl) ?_
            exact law_tail hl9 G C0 hG hZ H locs hS ls (lv_sub hl [2, 7] rfl)
          · skip
            rcases Int.lt_or_le p3.toInt 7 with f6 | f6
            · skip
              refine pxCi (vx_runSW (As := [.ref a1, .int p1, .int 0, .int p3, .ref a161]) (rest := []) ⟨hx, hb, hml, hown, hts⟩ (k247_L_newDrawer l G H.size a1 a131 a132 a133 a135 a136 a138 a139 a161 a2 a43 a86 a127 a134 a137 a140 p1 p3 ⟨by omega, by omega⟩ ⟨by omega, by omega⟩) (vx_cwSW 5 hts (pxGS pm640 pm641 pm136 pm642) rfl rfl rfl (by decide +kernel) ⟨(Nat.le_of_ble_eq_true rfl), (Nat.le_of_ble_eq_true rfl)⟩) (pxS hG hZ hP hD hS hA [0, 1, 2, 3, 4, 5, 6, 7, 12] rfl (by decide)) rfl rfl hl.1 rfl (lv_room (Nat.le_of_ble_eq_true rfl)) dL_law_2185 ⟨(Nat.le_of_ble_eq_true rfl), (Nat.le_of_ble_eq_true rfl)⟩) hP hD hS hA [0, 1, 2, 3, 4, 5, 6, 7, 12] [8, 9, 10, 11] rfl rfl (by decide) (by decide) (fun r2 q1 H locs hw hP hD hS => ?_)
              have hw : r2 = 0 := hw
              subst hw
              have hP : va_P G.1 pxCl [(a149, .inr (6, [.ref a150, .ref a151, .ref a152, .int 0, .ref a153, .int 0, .int 0, .int 0, .int 0, .ref a154, .int 0, .ref a155, .int 0, .int 0, .int 0, .int (-1), .ref a156, .ref a157, .int 0, .ref a158, .ref a159, .ref a160])), (a158, .inl (G.2.1 0, 3, .inl (fun _ => 0))), (a159, .inl (G.2.1 0, 3, .inl (fun _ => 0))), (a160, .inl (G.2.1 0, 36, .inl (fun _ => 0))), (a161, .inl (G.2.1 1, 1, .inr (.inl (vp_updL (fun _ => 0) 0 0))))] H := hP
              have hD : va_D (fun q : Nat => s.heap.size ≤ q) [(a149, .inr (6, [.ref a150, .ref a151, .ref a152, .int 0, .ref a153, .int 0, .int 0, .int 0, .int 0, .ref a154, .int 0, .ref a155, .int 0, .int 0, .int 0, .int (-1), .ref a156, .ref a157, .int 0, .ref a158, .ref a159, .ref a160])), (a158, .inl (G.2.1 0, 3, .inl (fun _ => 0))), (a159, .inl (G.2.1 0, 3, .inl (fun _ => 0))), (a160, .inl (G.2.1 0, 36, .inl (fun _ => 0))), (a161, .inl (G.2.1 1, 1, .inr (.inl (vp_updL (fun _ => 0) 0 0))))] := hD
              refine lv_istore (lv' := [(6, .int 0), (5, .int 0), (4, .ref a162), (3, .ref a161), (2, .ref a149), (1, .ref a1), (0, .ref b)]) hx hb dL_law_2188 hl (by decide) rfl (fun ls hl => ?_)
              refine lv_aload_n hx hb dL_law_2190 rfl (lv_at hl 4 rfl) ?_
              refine lv_aload_n hx hb dL_law_2191 rfl (lv_at hl 6 rfl) ?_
              refine lv_iload hx hb dL_law_2192 (lv_at hl 1 rfl) ?_
              refine lv_iconst (v := 1) hx hb dL_law_2194 (by decide) ?_
              refine lv_iadd hx hb dL_law_2195 ?_
              refine pxTop (w := .int 1) (congrArg Value.int (by decide)) ?_
              refine va_sld hx hb hX hbl hbA hS (show ¬ ((1 : Int32) < 0 ∨ 5 ≤ (1 : Int32).toNatClampNeg) by decide +kernel) dL_law_2196 ?_
              refine pxTop (w := .int p1) (congrArg Value.int hp1) ?_
              refine lv_aload_n hx hb dL_law_2197 rfl (lv_at hl 6 rfl) ?_
              refine lv_iload hx hb dL_law_2198 (lv_at hl 1 rfl) ?_
              refine lv_iconst (v := 2) hx hb dL_law_2200 (by decide) ?_
              refine lv_iadd hx hb dL_law_2201 ?_
              refine pxTop (w := .int 2) (congrArg Value.int (by decide)) ?_
              refine va_sld hx hb hX hbl hbA hS (show ¬ ((2 : Int32) < 0 ∨ 5 ≤ (2 : Int32).toNatClampNeg) by decide +kernel) dL_law_2202 ?_
              refine pxTop (w := .int 0) (congrArg Value.int hp2) ?_
              refine lv_aload_n hx hb dL_law_2203 rfl (lv_at hl 6 rfl) ?_
              refine lv_iload hx hb dL_law_2204 (lv_at hl 1 rfl) ?_
              refine lv_iconst (v := 3) hx hb dL_law_2206 (by decide) ?_
              refine lv_iadd hx hb dL_law_2207 ?_
              refine pxTop (w := .int 3) (congrArg Value.int (by decide)) ?_
              refine va_sld hx hb hX hbl hbA hS (show ¬ ((3 : Int32) < 0 ∨ 5 ≤ (3 : Int32).toNatClampNeg) by decide +kernel) dL_law_2208 ?_
              refine pxTop (w := .int p3) (congrArg Value.int hp3) ?_
              refine pxCi (va_runV (As := [.int p1, .int 0, .int p3]) (rest := []) ⟨hx, hb, hml, hown, hts⟩ (k251_X7_newDrawer l G H.size a149 a158 a159 a160 a150 a151 a152 a153 a154 a155 a156 a157 p1 p3 ⟨by omega, by omega⟩ ⟨by omega, by omega⟩) (cwV 3 hts (pxGV pm646 pm647 pm648 pm71 pm649) rfl rfl rfl (by decide +kernel) ⟨(Nat.le_of_ble_eq_true rfl), (Nat.le_of_ble_eq_true rfl)⟩) (pxV (ci := 6) (q0 := 0) hG hZ hP hD hS hA [0, 1, 2, 3] rfl (by decide) rfl rfl) rfl rfl hl.1 rfl (lv_room (Nat.le_of_ble_eq_true rfl)) dL_law_2209 ⟨(Nat.le_of_ble_eq_true rfl), (Nat.le_of_ble_eq_true rfl)⟩) hP hD hS hA [0, 1, 2, 3] [4] rfl rfl (by decide) (by decide) (fun r4 q3 H locs hw hP hD hS => ?_)
              have hw : r4 = 0 := hw
              subst hw
              have hP : va_P G.1 pxCl [(a161, .inl (G.2.1 1, 1, .inr (.inl (vp_updL (fun _ => 0) 0 0)))), (a149, .inr (6, [.ref a150, .ref a151, .ref a152, .int 0, .ref a153, .int 0, .int 0, .int 0, .int 0, .ref a154, .int 0, .ref a155, .int 0, .int 0, .int 0, .int (-1), .ref a156, .ref a157, .int 0, .ref a158, .ref a159, .ref a160]))] H := hP
              have hD : va_D (fun q : Nat => s.heap.size ≤ q) [(a161, .inl (G.2.1 1, 1, .inr (.inl (vp_updL (fun _ => 0) 0 0)))), (a149, .inr (6, [.ref a150, .ref a151, .ref a152, .int 0, .ref a153, .int 0, .int 0, .int 0, .int 0, .ref a154, .int 0, .ref a155, .int 0, .int 0, .int 0, .int (-1), .ref a156, .ref a157, .int 0, .ref a158, .ref a159, .ref a160]))] := hD
              refine lv_istore (lv' := [(7, .int 0), (6, .int 0), (5, .int 0), (4, .ref a162), (3, .ref a161), (2, .ref a149), (1, .ref a1), (0, .ref b)]) hx hb dL_law_2212 hl (by decide) rfl (fun ls hl => ?_)
              refine lv_aload_n hx hb dL_law_2214 rfl (lv_at hl 5 rfl) ?_
              refine pxCi (va_runV (As := []) (rest := []) ⟨hx, hb, hml, hown, hts⟩ (k207_X7_thrown l G H.size a149 a150 a151 a152 a153 a154 a155 a156 a157 a158 a159 a160) (cwV 0 hts (pxGV pm160 pm161 pm162 pm71 pm163) rfl rfl rfl (by decide +kernel) ⟨(Nat.le_of_ble_eq_true rfl), (Nat.le_of_ble_eq_true rfl)⟩) (pxV (ci := 6) (q0 := 1) hG hZ hP hD hS hA [1] rfl (by decide) rfl rfl) rfl rfl hl.1 rfl (lv_room (Nat.le_of_ble_eq_true rfl)) dL_law_2215 ⟨(Nat.le_of_ble_eq_true rfl), (Nat.le_of_ble_eq_true rfl)⟩) hP hD hS hA [1] [0] rfl rfl (by decide) (by decide) (fun r6 q5 H locs hw hP hD hS => ?_)
              have hw : r6 = 0 := hw
              subst hw
              have hP : va_P G.1 pxCl [(a161, .inl (G.2.1 1, 1, .inr (.inl (vp_updL (fun _ => 0) 0 0)))), (a149, .inr (6, [.ref a150, .ref a151, .ref a152, .int 0, .ref a153, .int 0, .int 0, .int 0, .int 0, .ref a154, .int 0, .ref a155, .int 0, .int 0, .int 0, .int (-1), .ref a156, .ref a157, .int 0, .ref a158, .ref a159, .ref a160]))] H := hP
              have hD : va_D (fun q : Nat => s.heap.size ≤ q) [(a161, .inl (G.2.1 1, 1, .inr (.inl (vp_updL (fun _ => 0) 0 0)))), (a149, .inr (6, [.ref a150, .ref a151, .ref a152, .int 0, .ref a153, .int 0, .int 0, .int 0, .int 0, .ref a154, .int 0, .ref a155, .int 0, .int 0, .int 0, .int (-1), .ref a156, .ref a157, .int 0, .ref a158, .ref a159, .ref a160]))] := hD
              refine lv_iload hx hb dL_law_2218 (lv_at hl 1 rfl) ?_
              refine lv_icmp_eq (tgt := 2225) hx hb dL_law_2220 (by decide) (fun _ => ?_) (fun h9 => absurd (by decide) h9)
              refine lv_iload hx hb dL_law_2225 (lv_at hl 1 rfl) ?_
              refine lv_if_ne (tgt := 2242) hx hb dL_law_2227 (by decide) (fun h9 => absurd h9 (by decide)) (fun _ => ?_)
              refine lv_aload_n hx hb dL_law_2230 rfl (lv_at hl 4 rfl) ?_
              refine lv_iconst (v := 0) hx hb dL_law_2231 (by decide) ?_
              refine va_lald hx hb hK hP 0 1 rfl rfl (show ¬ ((0 : Int32) < 0 ∨ 1 ≤ (0 : Int32).toNatClampNeg) by decide +kernel) dL_law_2232 ?_
              refine pxTop (w := .long 0) rfl ?_
              refine lv_iload hx hb dL_law_2233 (lv_at hl 0 rfl) ?_
              refine lv_i2l (v := 0) hx hb dL_law_2235 (by decide) ?_
              refine W.lcmp hx hb dL_law_2236 ?_
              refine pxTop (w := .int 0) (congrArg Value.int (by decide)) ?_
              refine lv_if_eq (tgt := 2242) hx hb dL_law_2237 (by decide) (fun _ => ?_) (fun h9 => absurd (by decide) h9)
              refine lv_goto (tgt := 2658) hx hb dL_law_2242 (by decide) ?_
              refine W.widen (k := 2000) (n := 200000) (Nat.le_of_ble_eq_true rfl) (Nat.le_of_ble_eq_true rfl) ?_
              exact law_tail hl9 G C0 hG hZ H locs hS ls (lv_sub hl [2, 7] rfl)
            · skip
              refine pxCi (vx_runSW (As := [.ref a1, .int p1, .int 0, .int p3, .ref a161]) (rest := []) ⟨hx, hb, hml, hown, hts⟩ (k271_L_newDrawer l hl9 G H.size a1 a161 a2 a43 a86 a127 a131 p1 p3 ⟨by omega, by omega⟩ ⟨by omega, by omega⟩) (vx_cwSW 5 hts (pxGS pm640 pm641 pm136 pm642) rfl rfl rfl (by decide +kernel) ⟨(Nat.le_of_ble_eq_true rfl), (Nat.le_of_ble_eq_true rfl)⟩) (pxS hG hZ hP hD hS hA [0] rfl (by decide)) rfl rfl hl.1 rfl (lv_room (Nat.le_of_ble_eq_true rfl)) dL_law_2185 ⟨(Nat.le_of_ble_eq_true rfl), (Nat.le_of_ble_eq_true rfl)⟩) hP hD hS hA [0] [1, 2, 3, 4, 5, 6, 7, 8, 9, 10, 11, 12] rfl rfl (by decide) (by decide) (fun r2 q1 H locs hw hP hD hS => ?_)
              have hw : r2 = 2 := hw
              subst hw
              have hP : va_P G.1 pxCl [(a131, .inl (G.2.1 6, 3, .inr (.inr (.inr (.inr (va_up (va_up (va_up (fun _ => none) 0 (some a132)) 1 (some a135)) 2 (some a138))))))), (a132, .inr (0, [.ref a133, .ref a134, .int 0, .int 0])), (a133, .inl (G.2.1 0, 6, .inl (fun _ => 0))), (a135, .inr (0, [.ref a136, .ref a137, .int 0, .int 0])), (a136, .inl (G.2.1 0, 6, .inl (fun _ => 0))), (a138, .inr (0, [.ref a139, .ref a140, .int 0, .int 0])), (a139, .inl (G.2.1 0, 6, .inl (fun _ => 0))), (a149, .inr (6, [.ref a150, .ref a151, .ref a152, .int 0, .ref a153, .int 0, .int 0, .int 0, .int 0, .ref a154, .int 0, .ref a155, .int 0, .int 0, .int 0, .int (-1), .ref a156, .ref a157, .int 0, .ref a158, .ref a159, .ref a160])), (a158, .inl (G.2.1 0, 3, .inl (fun _ => 0))), (a159, .inl (G.2.1 0, 3, .inl (fun _ => 0))), (a160, .inl (G.2.1 0, 36, .inl (fun _ => 0))), (a161, .inl (G.2.1 1, 1, .inr (.inl (fun _ => 0))))] H := hP
              have hD : va_D (fun q : Nat => s.heap.size ≤ q) [(a131, .inl (G.2.1 6, 3, .inr (.inr (.inr (.inr (va_up (va_up (va_up (fun _ => none) 0 (some a132)) 1 (some a135)) 2 (some a138))))))), (a132, .inr (0, [.ref a133, .ref a134, .int 0, .int 0])), (a133, .inl (G.2.1 0, 6, .inl (fun _ => 0))), (a135, .inr (0, [.ref a136, .ref a137, .int 0, .int 0])), (a136, .inl (G.2.1 0, 6, .inl (fun _ => 0))), (a138, .inr (0, [.ref a139, .ref a140, .int 0, .int 0])), (a139, .inl (G.2.1 0, 6, .inl (fun _ => 0))), (a149, .inr (6, [.ref a150, .ref a151, .ref a152, .int 0, .ref a153, .int 0, .int 0, .int 0, .int 0, .ref a154, .int 0, .ref a155, .int 0, .int 0, .int 0, .int (-1), .ref a156, .ref a157, .int 0, .ref a158, .ref a159, .ref a160])), (a158, .inl (G.2.1 0, 3, .inl (fun _ => 0))), (a159, .inl (G.2.1 0, 3, .inl (fun _ => 0))), (a160, .inl (G.2.1 0, 36, .inl (fun _ => 0))), (a161, .inl (G.2.1 1, 1, .inr (.inl (fun _ => 0))))] := hD
              refine W.widen (k := 483) (n := 60059) (Nat.le_of_ble_eq_true rfl) (Nat.le_of_ble_eq_true rfl) ?_
              refine lv_istore (lv' := [(6, .int 2), (5, .int 0), (4, .ref a162), (3, .ref a161), (2, .ref a149), (1, .ref a1), (0, .ref b)]) hx hb dL_law_2188 hl (by decide) rfl (fun ls hl => ?_)
              refine lv_aload_n hx hb dL_law_2190 rfl (lv_at hl 4 rfl) ?_
              refine lv_aload_n hx hb dL_law_2191 rfl (lv_at hl 6 rfl) ?_
              refine lv_iload hx hb dL_law_2192 (lv_at hl 1 rfl) ?_
              refine lv_iconst (v := 1) hx hb dL_law_2194 (by decide) ?_
              refine lv_iadd hx hb dL_law_2195 ?_
              refine pxTop (w := .int 1) (congrArg Value.int (by decide)) ?_
              refine va_sld hx hb hX hbl hbA hS (show ¬ ((1 : Int32) < 0 ∨ 5 ≤ (1 : Int32).toNatClampNeg) by decide +kernel) dL_law_2196 ?_
              refine pxTop (w := .int p1) (congrArg Value.int hp1) ?_
              refine lv_aload_n hx hb dL_law_2197 rfl (lv_at hl 6 rfl) ?_
              refine lv_iload hx hb dL_law_2198 (lv_at hl 1 rfl) ?_
              refine lv_iconst (v := 2) hx hb dL_law_2200 (by decide) ?_
              refine lv_iadd hx hb dL_law_2201 ?_
              refine pxTop (w := .int 2) (congrArg Value.int (by decide)) ?_
              refine va_sld hx hb hX hbl hbA hS (show ¬ ((2 : Int32) < 0 ∨ 5 ≤ (2 : Int32).toNatClampNeg) by decide +kernel) dL_law_2202 ?_
              refine pxTop (w := .int 0) (congrArg Value.int hp2) ?_
              refine lv_aload_n hx hb dL_law_2203 rfl (lv_at hl 6 rfl) ?_
              refine lv_iload hx hb dL_law_2204 (lv_at hl 1 rfl) ?_
              refine lv_iconst (v := 3) hx hb dL_law_2206 (by decide) ?_
              refine lv_iadd hx hb dL_law_2207 ?_
              refine pxTop (w := .int 3) (congrArg Value.int (by decide)) ?_
              refine va_sld hx hb hX hbl hbA hS (show ¬ ((3 : Int32) < 0 ∨ 5 ≤ (3 : Int32).toNatClampNeg) by decide +kernel) dL_law_2208 ?_
              refine pxTop (w := .int p3) (congrArg Value.int hp3) ?_
              refine pxCi (va_runV (As := [.int p1, .int 0, .int p3]) (rest := []) ⟨hx, hb, hml, hown, hts⟩ (k273_X7_newDrawer l G H.size a149 a150 a151 a152 a153 a154 a155 a156 a157 a158 a159 a160 p1 p3 ⟨by omega, by omega⟩ ⟨by omega, by omega⟩) (cwV 3 hts (pxGV pm646 pm647 pm648 pm71 pm649) rfl rfl rfl (by decide +kernel) ⟨(Nat.le_of_ble_eq_true rfl), (Nat.le_of_ble_eq_true rfl)⟩) (pxV (ci := 6) (q0 := 7) hG hZ hP hD hS hA [7] rfl (by decide) rfl rfl) rfl rfl hl.1 rfl (lv_room (Nat.le_of_ble_eq_true rfl)) dL_law_2209 ⟨(Nat.le_of_ble_eq_true rfl), (Nat.le_of_ble_eq_true rfl)⟩) hP hD hS hA [7] [0, 1, 2, 3, 4, 5, 6, 8, 9, 10, 11] rfl rfl (by decide) (by decide) (fun r4 q3 H locs hw hP hD hS => ?_)
              have hw : r4 = 0 := hw
              subst hw
              have hP : va_P G.1 pxCl [(a131, .inl (G.2.1 6, 3, .inr (.inr (.inr (.inr (va_up (va_up (va_up (fun _ => none) 0 (some a132)) 1 (some a135)) 2 (some a138))))))), (a132, .inr (0, [.ref a133, .ref a134, .int 0, .int 0])), (a133, .inl (G.2.1 0, 6, .inl (fun _ => 0))), (a135, .inr (0, [.ref a136, .ref a137, .int 0, .int 0])), (a136, .inl (G.2.1 0, 6, .inl (fun _ => 0))), (a138, .inr (0, [.ref a139, .ref a140, .int 0, .int 0])), (a139, .inl (G.2.1 0, 6, .inl (fun _ => 0))), (a158, .inl (G.2.1 0, 3, .inl (fun _ => 0))), (a159, .inl (G.2.1 0, 3, .inl (fun _ => 0))), (a160, .inl (G.2.1 0, 36, .inl (fun _ => 0))), (a161, .inl (G.2.1 1, 1, .inr (.inl (fun _ => 0)))), (a149, .inr (6, [.ref a150, .ref a151, .ref a152, .int 0, .ref a153, .int 0, .int 0, .int 2, .int 0, .ref a154, .int 0, .ref a155, .int 0, .int 0, .int 0, .int (-1), .ref a156, .ref a157, .int 0, .ref a158, .ref a159, .ref a160]))] H := hP
              have hD : va_D (fun q : Nat => s.heap.size ≤ q) [(a131, .inl (G.2.1 6, 3, .inr (.inr (.inr (.inr (va_up (va_up (va_up (fun _ => none) 0 (some a132)) 1 (some a135)) 2 (some a138))))))), (a132, .inr (0, [.ref a133, .ref a134, .int 0, .int 0])), (a133, .inl (G.2.1 0, 6, .inl (fun _ => 0))), (a135, .inr (0, [.ref a136, .ref a137, .int 0, .int 0])), (a136, .inl (G.2.1 0, 6, .inl (fun _ => 0))), (a138, .inr (0, [.ref a139, .ref a140, .int 0, .int 0])), (a139, .inl (G.2.1 0, 6, .inl (fun _ => 0))), (a158, .inl (G.2.1 0, 3, .inl (fun _ => 0))), (a159, .inl (G.2.1 0, 3, .inl (fun _ => 0))), (a160, .inl (G.2.1 0, 36, .inl (fun _ => 0))), (a161, .inl (G.2.1 1, 1, .inr (.inl (fun _ => 0)))), (a149, .inr (6, [.ref a150, .ref a151, .ref a152, .int 0, .ref a153, .int 0, .int 0, .int 2, .int 0, .ref a154, .int 0, .ref a155, .int 0, .int 0, .int 0, .int (-1), .ref a156, .ref a157, .int 0, .ref a158, .ref a159, .ref a160]))] := hD
              refine lv_istore (lv' := [(7, .int 0), (6, .int 2), (5, .int 0), (4, .ref a162), (3, .ref a161), (2, .ref a149), (1, .ref a1), (0, .ref b)]) hx hb dL_law_2212 hl (by decide) rfl (fun ls hl => ?_)
              refine lv_aload_n hx hb dL_law_2214 rfl (lv_at hl 5 rfl) ?_
              refine pxCi (va_runV (As := []) (rest := []) ⟨hx, hb, hml, hown, hts⟩ (k240_X7_thrown l G H.size a149 a150 a151 a152 a153 a154 a155 a156 a157 a158 a159 a160) (cwV 0 hts (pxGV pm160 pm161 pm162 pm71 pm163) rfl rfl rfl (by decide +kernel) ⟨(Nat.le_of_ble_eq_true rfl), (Nat.le_of_ble_eq_true rfl)⟩) (pxV (ci := 6) (q0 := 11) hG hZ hP hD hS hA [11] rfl (by decide) rfl rfl) rfl rfl hl.1 rfl (lv_room (Nat.le_of_ble_eq_true rfl)) dL_law_2215 ⟨(Nat.le_of_ble_eq_true rfl), (Nat.le_of_ble_eq_true rfl)⟩) hP hD hS hA [11] [0, 1, 2, 3, 4, 5, 6, 7, 8, 9, 10] rfl rfl (by decide) (by decide) (fun r6 q5 H locs hw hP hD hS => ?_)
              have hw : r6 = 2 := hw
              subst hw
              have hP : va_P G.1 pxCl [(a131, .inl (G.2.1 6, 3, .inr (.inr (.inr (.inr (va_up (va_up (va_up (fun _ => none) 0 (some a132)) 1 (some a135)) 2 (some a138))))))), (a132, .inr (0, [.ref a133, .ref a134, .int 0, .int 0])), (a133, .inl (G.2.1 0, 6, .inl (fun _ => 0))), (a135, .inr (0, [.ref a136, .ref a137, .int 0, .int 0])), (a136, .inl (G.2.1 0, 6, .inl (fun _ => 0))), (a138, .inr (0, [.ref a139, .ref a140, .int 0, .int 0])), (a139, .inl (G.2.1 0, 6, .inl (fun _ => 0))), (a158, .inl (G.2.1 0, 3, .inl (fun _ => 0))), (a159, .inl (G.2.1 0, 3, .inl (fun _ => 0))), (a160, .inl (G.2.1 0, 36, .inl (fun _ => 0))), (a161, .inl (G.2.1 1, 1, .inr (.inl (fun _ => 0)))), (a149, .inr (6, [.ref a150, .ref a151, .ref a152, .int 0, .ref a153, .int 0, .int 0, .int 2, .int 0, .ref a154, .int 0, .ref a155, .int 0, .int 0, .int 0, .int (-1), .ref a156, .ref a157, .int 0, .ref a158, .ref a159, .ref a160]))] H := hP
              have hD : va_D (fun q : Nat => s.heap.size ≤ q) [(a131, .inl (G.2.1 6, 3, .inr (.inr (.inr (.inr (va_up (va_up (va_up (fun _ => none) 0 (some a132)) 1 (some a135)) 2 (some a138))))))), (a132, .inr (0, [.ref a133, .ref a134, .int 0, .int 0])), (a133, .inl (G.2.1 0, 6, .inl (fun _ => 0))), (a135, .inr (0, [.ref a136, .ref a137, .int 0, .int 0])), (a136, .inl (G.2.1 0, 6, .inl (fun _ => 0))), (a138, .inr (0, [.ref a139, .ref a140, .int 0, .int 0])), (a139, .inl (G.2.1 0, 6, .inl (fun _ => 0))), (a158, .inl (G.2.1 0, 3, .inl (fun _ => 0))), (a159, .inl (G.2.1 0, 3, .inl (fun _ => 0))), (a160, .inl (G.2.1 0, 36, .inl (fun _ => 0))), (a161, .inl (G.2.1 1, 1, .inr (.inl (fun _ => 0)))), (a149, .inr (6, [.ref a150, .ref a151, .ref a152, .int 0, .ref a153, .int 0, .int 0, .int 2, .int 0, .ref a154, .int 0, .ref a155, .int 0, .int 0, .int 0, .int (-1), .ref a156, .ref a157, .int 0, .ref a158, .ref a159, .ref a160]))] := hD
              refine lv_iload hx hb dL_law_2218 (lv_at hl 1 rfl) ?_
              refine lv_icmp_eq (tgt := 2225) hx hb dL_law_2220 (by decide) (fun _ => ?_) (fun h9 => absurd (by decide) h9)
              refine lv_iload hx hb dL_law_2225 (lv_at hl 1 rfl) ?_
              refine lv_if_ne (tgt := 2242) hx hb dL_law_2227 (by decide) (fun _ => ?_) (fun h9 => absurd h9 (by decide))
              refine lv_goto (tgt := 2658) hx hb dL_law_2242 (by decide) ?_
              refine W.widen (k := 2000) (n := 200000) (Nat.le_of_ble_eq_true rfl) (Nat.le_of_ble_eq_true rfl) ?_
              exact law_tail hl9 G C0 hG hZ H locs hS ls (lv_sub hl [2, 7] rfl)
        · skip
          rcases Int.lt_or_le p2.toInt 2 with f7 | f7
          · skip
            obtain rfl : p2 = 1 := pxEq 1 (by have h9 : (1 : Int32).toInt = 1 := (by decide); omega)
            rcases Int.lt_or_le p3.toInt 1 with f8 | f8
            · skip
              refine pxCi (vx_runSW (As := [.ref a1, .int p1, .int 1, .int p3, .ref a161]) (rest := []) ⟨hx, hb, hml, hown, hts⟩ (k275_L_newDrawer l hl9 G H.size a1 a161 a2 a43 a86 a127 a131 p1 p3 ⟨by omega, by omega⟩ ⟨by omega, by omega⟩) (vx_cwSW 5 hts (pxGS pm640 pm641 pm136 pm642) rfl rfl rfl (by decide +kernel) ⟨(Nat.le_of_ble_eq_true rfl), (Nat.le_of_ble_eq_true rfl)⟩) (pxS hG hZ hP hD hS hA [0] rfl (by decide)) rfl rfl hl.1 rfl (lv_room (Nat.le_of_ble_eq_true rfl)) dL_law_2185 ⟨(Nat.le_of_ble_eq_true rfl), (Nat.le_of_ble_eq_true rfl)⟩) hP hD hS hA [0] [1, 2, 3, 4, 5, 6, 7, 8, 9, 10, 11, 12] rfl rfl (by decide) (by decide) (fun r2 q1 H locs hw hP hD hS => ?_)
              have hw : r2 = 2 := hw
              subst hw
              have hP : va_P G.1 pxCl [(a131, .inl (G.2.1 6, 3, .inr (.inr (.inr (.inr (va_up (va_up (va_up (fun _ => none) 0 (some a132)) 1 (some a135)) 2 (some a138))))))), (a132, .inr (0, [.ref a133, .ref a134, .int 0, .int 0])), (a133, .inl (G.2.1 0, 6, .inl (fun _ => 0))), (a135, .inr (0, [.ref a136, .ref a137, .int 0, .int 0])), (a136, .inl (G.2.1 0, 6, .inl (fun _ => 0))), (a138, .inr (0, [.ref a139, .ref a140, .int 0, .int 0])), (a139, .inl (G.2.1 0, 6, .inl (fun _ => 0))), (a149, .inr (6, [.ref a150, .ref a151, .ref a152, .int 0, .ref a153, .int 0, .int 0, .int 0, .int 0, .ref a154, .int 0, .ref a155, .int 0, .int 0, .int 0, .int (-1), .ref a156, .ref a157, .int 0, .ref a158, .ref a159, .ref a160])), (a158, .inl (G.2.1 0, 3, .inl (fun _ => 0))), (a159, .inl (G.2.1 0, 3, .inl (fun _ => 0))), (a160, .inl (G.2.1 0, 36, .inl (fun _ => 0))), (a161, .inl (G.2.1 1, 1, .inr (.inl (fun _ => 0))))] H := hP
              have hD : va_D (fun q : Nat => s.heap.size ≤ q) [(a131, .inl (G.2.1 6, 3, .inr (.inr (.inr (.inr (va_up (va_up (va_up (fun _ => none) 0 (some a132)) 1 (some a135)) 2 (some a138))))))), (a132, .inr (0, [.ref a133, .ref a134, .int 0, .int 0])), (a133, .inl (G.2.1 0, 6, .inl (fun _ => 0))), (a135, .inr (0, [.ref a136, .ref a137, .int 0, .int 0])), (a136, .inl (G.2.1 0, 6, .inl (fun _ => 0))), (a138, .inr (0, [.ref a139, .ref a140, .int 0, .int 0])), (a139, .inl (G.2.1 0, 6, .inl (fun _ => 0))), (a149, .inr (6, [.ref a150, .ref a151, .ref a152, .int 0, .ref a153, .int 0, .int 0, .int 0, .int 0, .ref a154, .int 0, .ref a155, .int 0, .int 0, .int 0, .int (-1), .ref a156, .ref a157, .int 0, .ref a158, .ref a159, .ref a160])), (a158, .inl (G.2.1 0, 3, .inl (fun _ => 0))), (a159, .inl (G.2.1 0, 3, .inl (fun _ => 0))), (a160, .inl (G.2.1 0, 36, .inl (fun _ => 0))), (a161, .inl (G.2.1 1, 1, .inr (.inl (fun _ => 0))))] := hD
              refine W.widen (k := 483) (n := 60059) (Nat.le_of_ble_eq_true rfl) (Nat.le_of_ble_eq_true rfl) ?_
              refine lv_istore (lv' := [(6, .int 2), (5, .int 0), (4, .ref a162), (3, .ref a161), (2, .ref a149), (1, .ref a1), (0, .ref b)]) hx hb dL_law_2188 hl (by decide) rfl (fun ls hl => ?_)
              refine lv_aload_n hx hb dL_law_2190 rfl (lv_at hl 4 rfl) ?_
              refine lv_aload_n hx hb dL_law_2191 rfl (lv_at hl 6 rfl) ?_
              refine lv_iload hx hb dL_law_2192 (lv_at hl 1 rfl) ?_
              refine lv_iconst (v := 1) hx hb dL_law_2194 (by decide) ?_
              refine lv_iadd hx hb dL_law_2195 ?_
              refine pxTop (w := .int 1) (congrArg Value.int (by decide)) ?_
              refine va_sld hx hb hX hbl hbA hS (show ¬ ((1 : Int32) < 0 ∨ 5 ≤ (1 : Int32).toNatClampNeg) by decide +kernel) dL_law_2196 ?_
              refine pxTop (w := .int p1) (congrArg Value.int hp1) ?_
              refine lv_aload_n hx hb dL_law_2197 rfl (lv_at hl 6 rfl) ?_
              refine lv_iload hx hb dL_law_2198 (lv_at hl 1 rfl) ?_
              refine lv_iconst (v := 2) hx hb dL_law_2200 (by decide) ?_
              refine lv_iadd hx hb dL_law_2201 ?_
              refine pxTop (w := .int 2) (congrArg Value.int (by decide)) ?_
              refine va_sld hx hb hX hbl hbA hS (show ¬ ((2 : Int32) < 0 ∨ 5 ≤ (2 : Int32).toNatClampNeg) by decide +kernel) dL_law_2202 ?_
              refine pxTop (w := .int 1) (congrArg Value.int hp2) ?_
              refine lv_aload_n hx hb dL_law_2203 rfl (lv_at hl 6 rfl) ?_
              refine lv_iload hx hb dL_law_2204 (lv_at hl 1 rfl) ?_
              refine lv_iconst (v := 3) hx hb dL_law_2206 (by decide) ?_
              refine lv_iadd hx hb dL_law_2207 ?_
              refine pxTop (w := .int 3) (congrArg Value.int (by decide)) ?_
              refine va_sld hx hb hX hbl hbA hS (show ¬ ((3 : Int32) < 0 ∨ 5 ≤ (3 : Int32).toNatClampNeg) by decide +kernel) dL_law_2208 ?_
              refine pxTop (w := .int p3) (congrArg Value.int hp3) ?_
              refine pxCi (va_runV (As := [.int p1, .int 1, .int p3]) (rest := []) ⟨hx, hb, hml, hown, hts⟩ (k278_X7_newDrawer l G H.size a149 a150 a151 a152 a153 a154 a155 a156 a157 a158 a159 a160 p1 p3 ⟨by omega, by omega⟩ ⟨by omega, by omega⟩) (cwV 3 hts (pxGV pm646 pm647 pm648 pm71 pm649) rfl rfl rfl (by decide +kernel) ⟨(Nat.le_of_ble_eq_true rfl), (Nat.le_of_ble_eq_true rfl)⟩) (pxV (ci := 6) (q0 := 7) hG hZ hP hD hS hA [7] rfl (by decide) rfl rfl) rfl rfl hl.1 rfl (lv_room (Nat.le_of_ble_eq_true rfl)) dL_law_2209 ⟨(Nat.le_of_ble_eq_true rfl), (Nat.le_of_ble_eq_true rfl)⟩) hP hD hS hA [7] [0, 1, 2, 3, 4, 5, 6, 8, 9, 10, 11] rfl rfl (by decide) (by decide) (fun r4 q3 H locs hw hP hD hS => ?_)
              have hw : r4 = 0 := hw
              subst hw
              have hP : va_P G.1 pxCl [(a131, .inl (G.2.1 6, 3, .inr (.inr (.inr (.inr (va_up (va_up (va_up (fun _ => none) 0 (some a132)) 1 (some a135)) 2 (some a138))))))), (a132, .inr (0, [.ref a133, .ref a134, .int 0, .int 0])), (a133, .inl (G.2.1 0, 6, .inl (fun _ => 0))), (a135, .inr (0, [.ref a136, .ref a137, .int 0, .int 0])), (a136, .inl (G.2.1 0, 6, .inl (fun _ => 0))), (a138, .inr (0, [.ref a139, .ref a140, .int 0, .int 0])), (a139, .inl (G.2.1 0, 6, .inl (fun _ => 0))), (a158, .inl (G.2.1 0, 3, .inl (fun _ => 0))), (a159, .inl (G.2.1 0, 3, .inl (fun _ => 0))), (a160, .inl (G.2.1 0, 36, .inl (fun _ => 0))), (a161, .inl (G.2.1 1, 1, .inr (.inl (fun _ => 0)))), (a149, .inr (6, [.ref a150, .ref a151, .ref a152, .int 0, .ref a153, .int 0, .int 0, .int 2, .int 0, .ref a154, .int 0, .ref a155, .int 0, .int 0, .int 0, .int (-1), .ref a156, .ref a157, .int 0, .ref a158, .ref a159, .ref a160]))] H := hP
              have hD : va_D (fun q : Nat => s.heap.size ≤ q) [(a131, .inl (G.2.1 6, 3, .inr (.inr (.inr (.inr (va_up (va_up (va_up (fun _ => none) 0 (some a132)) 1 (some a135)) 2 (some a138))))))), (a132, .inr (0, [.ref a133, .ref a134, .int 0, .int 0])), (a133, .inl (G.2.1 0, 6, .inl (fun _ => 0))), (a135, .inr (0, [.ref a136, .ref a137, .int 0, .int 0])), (a136, .inl (G.2.1 0, 6, .inl (fun _ => 0))), (a138, .inr (0, [.ref a139, .ref a140, .int 0, .int 0])), (a139, .inl (G.2.1 0, 6, .inl (fun _ => 0))), (a158, .inl (G.2.1 0, 3, .inl (fun _ => 0))), (a159, .inl (G.2.1 0, 3, .inl (fun _ => 0))), (a160, .inl (G.2.1 0, 36, .inl (fun _ => 0))), (a161, .inl (G.2.1 1, 1, .inr (.inl (fun _ => 0)))), (a149, .inr (6, [.ref a150, .ref a151, .ref a152, .int 0, .ref a153, .int 0, .int 0, .int 2, .int 0, .ref a154, .int 0, .ref a155, .int 0, .int 0, .int 0, .int (-1), .ref a156, .ref a157, .int 0, .ref a158, .ref a159, .ref a160]))] := hD
              refine lv_istore (lv' := [(7, .int 0), (6, .int 2), (5, .int 0), (4, .ref a162), (3, .ref a161), (2, .ref a149), (1, .ref a1), (0, .ref b)]) hx hb dL_law_2212 hl (by decide) rfl (fun ls hl => ?_)
              refine lv_aload_n hx hb dL_law_2214 rfl (lv_at hl 5 rfl) ?_
              refine pxCi (va_runV (As := []) (rest := []) ⟨hx, hb, hml, hown, hts⟩ (k240_X7_thrown l G H.size a149 a150 a151 a152 a153 a154 a155 a156 a157 a158 a159 a160) (cwV 0 hts (pxGV pm160 pm161 pm162 pm71 pm163) rfl rfl rfl (by decide +kernel) ⟨(Nat.le_of_ble_eq_true rfl), (Nat.le_of_ble_eq_true rfl)⟩) (pxV (ci := 6) (q0 := 11) hG hZ hP hD hS hA [11] rfl (by decide) rfl rfl) rfl rfl hl.1 rfl (lv_room (Nat.le_of_ble_eq_true rfl)) dL_law_2215 ⟨(Nat.le_of_ble_eq_true rfl), (Nat.le_of_ble_eq_true rfl)⟩) hP hD hS hA [11] [0, 1, 2, 3, 4, 5, 6, 7, 8, 9, 10] rfl rfl (by decide) (by decide) (fun r6 q5 H locs hw hP hD hS => ?_)
              have hw : r6 = 2 := hw
              subst hw
              have hP : va_P G.1 pxCl [(a131, .inl (G.2.1 6, 3, .inr (.inr (.inr (.inr (va_up (va_up (va_up (fun _ => none) 0 (some a132)) 1 (some a135)) 2 (some a138))))))), (a132, .inr (0, [.ref a133, .ref a134, .int 0, .int 0])), (a133, .inl (G.2.1 0, 6, .inl (fun _ => 0))), (a135, .inr (0, [.ref a136, .ref a137, .int 0, .int 0])), (a136, .inl (G.2.1 0, 6, .inl (fun _ => 0))), (a138, .inr (0, [.ref a139, .ref a140, .int 0, .int 0])), (a139, .inl (G.2.1 0, 6, .inl (fun _ => 0))), (a158, .inl (G.2.1 0, 3, .inl (fun _ => 0))), (a159, .inl (G.2.1 0, 3, .inl (fun _ => 0))), (a160, .inl (G.2.1 0, 36, .inl (fun _ => 0))), (a161, .inl (G.2.1 1, 1, .inr (.inl (fun _ => 0)))), (a149, .inr (6, [.ref a150, .ref a151, .ref a152, .int 0, .ref a153, .int 0, .int 0, .int 2, .int 0, .ref a154, .int 0, .ref a155, .int 0, .int 0, .int 0, .int (-1), .ref a156, .ref a157, .int 0, .ref a158, .ref a159, .ref a160]))] H := hP
              have hD : va_D (fun q : Nat => s.heap.size ≤ q) [(a131, .inl (G.2.1 6, 3, .inr (.inr (.inr (.inr (va_up (va_up (va_up (fun _ => none) 0 (some a132)) 1 (some a135)) 2 (some a138))))))), (a132, .inr (0, [.ref a133, .ref a134, .int 0, .int 0])), (a133, .inl (G.2.1 0, 6, .inl (fun _ => 0))), (a135, .inr (0, [.ref a136, .ref a137, .int 0, .int 0])), (a136, .inl (G.2.1 0, 6, .inl (fun _ => 0))), (a138, .inr (0, [.ref a139, .ref a140, .int 0, .int 0])), (a139, .inl (G.2.1 0, 6, .inl (fun _ => 0))), (a158, .inl (G.2.1 0, 3, .inl (fun _ => 0))), (a159, .inl (G.2.1 0, 3, .inl (fun _ => 0))), (a160, .inl (G.2.1 0, 36, .inl (fun _ => 0))), (a161, .inl (G.2.1 1, 1, .inr (.inl (fun _ => 0)))), (a149, .inr (6, [.ref a150, .ref a151, .ref a152, .int 0, .ref a153, .int 0, .int 0, .int 2, .int 0, .ref a154, .int 0, .ref a155, .int 0, .int 0, .int 0, .int (-1), .ref a156, .ref a157, .int 0, .ref a158, .ref a159, .ref a160]))] := hD
              refine lv_iload hx hb dL_law_2218 (lv_at hl 1 rfl) ?_
              refine lv_icmp_eq (tgt := 2225) hx hb dL_law_2220 (by decide) (fun _ => ?_) (fun h9 => absurd (by decide) h9)
              refine lv_iload hx hb dL_law_2225 (lv_at hl 1 rfl) ?_
              refine lv_if_ne (tgt := 2242) hx hb dL_law_2227 (by decide) (fun _ => ?_) (fun h9 => absurd h9 (by decide))
              refine lv_goto (tgt := 2658) hx hb dL_law_2242 (by decide) ?_
              refine W.widen (k := 2000) (n := 200000) (Nat.le_of_ble_eq_true rfl) (Nat.le_of_ble_eq_true rfl) ?_
              exact law_tail hl9 G C0 hG hZ H locs hS ls (lv_sub hl [2, 7] rfl)
            · skip
              rcases Int.lt_or_le p3.toInt 7 with f9 | f9
              · skip
                refine pxCi (vx_runSW (As := [.ref a1, .int p1, .int 1, .int p3, .ref a161]) (rest := []) ⟨hx, hb, hml, hown, hts⟩ (k280_L_newDrawer l G H.size a1 a131 a132 a133 a135 a136 a138 a139 a161 a2 a43 a86 a127 a134 a137 a140 p1 p3 ⟨by omega, by omega⟩ ⟨by omega, by omega⟩) (vx_cwSW 5 hts (pxGS pm640 pm641 pm136 pm642) rfl rfl rfl (by decide +kernel) ⟨(Nat.le_of_ble_eq_true rfl), (Nat.le_of_ble_eq_true rfl)⟩) (pxS hG hZ hP hD hS hA [0, 1, 2, 3, 4, 5, 6, 7, 12] rfl (by decide)) rfl rfl hl.1 rfl (lv_room (Nat.le_of_ble_eq_true rfl)) dL_law_2185 ⟨(Nat.le_of_ble_eq_true rfl), (Nat.le_of_ble_eq_true rfl)⟩) hP hD hS hA [0, 1, 2, 3, 4, 5, 6, 7, 12] [8, 9, 10, 11] rfl rfl (by decide) (by decide) (fun r2 q1 H locs hw hP hD hS => ?_)
                have hw : r2 = 0 := hw
                subst hw
                have hP : va_P G.1 pxCl [(a149, .inr (6, [.ref a150, .ref a151, .ref a152, .int 0, .ref a153, .int 0, .int 0, .int 0, .int 0, .ref a154, .int 0, .ref a155, .int 0, .int 0, .int 0, .int (-1), .ref a156, .ref a157, .int 0, .ref a158, .ref a159, .ref a160])), (a158, .inl (G.2.1 0, 3, .inl (fun _ => 0))), (a159, .inl (G.2.1 0, 3, .inl (fun _ => 0))), (a160, .inl (G.2.1 0, 36, .inl (fun _ => 0))), (a161, .inl (G.2.1 1, 1, .inr (.inl (vp_updL (fun _ => 0) 0 0))))] H := hP
                have hD : va_D (fun q : Nat => s.heap.size ≤ q) [(a149, .inr (6, [.ref a150, .ref a151, .ref a152, .int 0, .ref a153, .int 0, .int 0, .int 0, .int 0, .ref a154, .int 0, .ref a155, .int 0, .int 0, .int 0, .int (-1), .ref a156, .ref a157, .int 0, .ref a158, .ref a159, .ref a160])), (a158, .inl (G.2.1 0, 3, .inl (fun _ => 0))), (a159, .inl (G.2.1 0, 3, .inl (fun _ => 0))), (a160, .inl (G.2.1 0, 36, .inl (fun _ => 0))), (a161, .inl (G.2.1 1, 1, .inr (.inl (vp_updL (fun _ => 0) 0 0))))] := hD
                refine lv_istore (lv' := [(6, .int 0), (5, .int 0), (4, .ref a162), (3, .ref a161), (2, .ref a149), (1, .ref a1), (0, .ref b)]) hx hb dL_law_2188 hl (by decide) rfl (fun ls hl => ?_)
                refine lv_aload_n hx hb dL_law_2190 rfl (lv_at hl 4 rfl) ?_
                refine lv_aload_n hx hb dL_law_2191 rfl (lv_at hl 6 rfl) ?_
                refine lv_iload hx hb dL_law_2192 (lv_at hl 1 rfl) ?_
                refine lv_iconst (v := 1) hx hb dL_law_2194 (by decide) ?_
                refine lv_iadd hx hb dL_law_2195 ?_
                refine pxTop (w := .int 1) (congrArg Value.int (by decide)) ?_
                refine va_sld hx hb hX hbl hbA hS (show ¬ ((1 : Int32) < 0 ∨ 5 ≤ (1 : Int32).toNatClampNeg) by decide +kernel) dL_law_2196 ?_
                refine pxTop (w := .int p1) (congrArg Value.int hp1) ?_
                refine lv_aload_n hx hb dL_law_2197 rfl (lv_at hl 6 rfl) ?_
                refine lv_iload hx hb dL_law_2198 (lv_at hl 1 rfl) ?_
                refine lv_iconst (v := 2) hx hb dL_law_2200 (by decide) ?_
                refine lv_iadd hx hb dL_law_2201 ?_
                refine pxTop (w := .int 2) (congrArg Value.int (by decide)) ?_
                refine va_sld hx hb hX hbl hbA hS (show ¬ ((2 : Int32) < 0 ∨ 5 ≤ (2 : Int32).toNatClampNeg) by decide +kernel) dL_law_2202 ?_
                refine pxTop (w := .int 1) (congrArg Value.int hp2) ?_
                refine lv_aload_n hx hb dL_law_2203 rfl (lv_at hl 6 rfl) ?_
                refine lv_iload hx hb dL_law_2204 (lv_at hl 1 rfl) ?_
                refine lv_iconst (v := 3) hx hb dL_law_2206 (by decide) ?_
                refine lv_iadd hx hb dL_law_2207 ?_
                refine pxTop (w := .int 3) (congrArg Value.int (by decide)) ?_
                refine va_sld hx hb hX hbl hbA hS (show ¬ ((3 : Int32) < 0 ∨ 5 ≤ (3 : Int32).toNatClampNeg) by decide +kernel) dL_law_2208 ?_
                refine pxTop (w := .int p3) (congrArg Value.int hp3) ?_
                refine pxCi (va_runV (As := [.int p1, .int 1, .int p3]) (rest := []) ⟨hx, hb, hml, hown, hts⟩ (k283_X7_newDrawer l G H.size a149 a158 a159 a160 a150 a151 a152 a153 a154 a155 a156 a157 p1 p3 ⟨by omega, by omega⟩ ⟨by omega, by omega⟩) (cwV 3 hts (pxGV pm646 pm647 pm648 pm71 pm649) rfl rfl rfl (by decide +kernel) ⟨(Nat.le_of_ble_eq_true rfl), (Nat.le_of_ble_eq_true rfl)⟩) (pxV (ci := 6) (q0 := 0) hG hZ hP hD hS hA [0, 1, 2, 3] rfl (by decide) rfl rfl) rfl rfl hl.1 rfl (lv_room (Nat.le_of_ble_eq_true rfl)) dL_law_2209 ⟨(Nat.le_of_ble_eq_true rfl), (Nat.le_of_ble_eq_true rfl)⟩) hP hD hS hA [0, 1, 2, 3] [4] rfl rfl (by decide) (by decide) (fun r4 q3 H locs hw hP hD hS => ?_)
                have hw : r4 = 0 := hw
                subst hw
                have hP : va_P G.1 pxCl [(a161, .inl (G.2.1 1, 1, .inr (.inl (vp_updL (fun _ => 0) 0 0)))), (a149, .inr (6, [.ref a150, .ref a151, .ref a152, .int 0, .ref a153, .int 0, .int 0, .int 0, .int 0, .ref a154, .int 0, .ref a155, .int 0, .int 0, .int 0, .int (-1), .ref a156, .ref a157, .int 0, .ref a158, .ref a159, .ref a160]))] H := hP
                have hD : va_D (fun q : Nat => s.heap.size ≤ q) [(a161, .inl (G.2.1 1, 1, .inr (.inl (vp_updL (fun _ => 0) 0 0)))), (a149, .inr (6, [.ref a150, .ref a151, .ref a152, .int 0, .ref a153, .int 0, .int 0, .int 0, .int 0, .ref a154, .int 0, .ref a155, .int 0, .int 0, .int 0, .int (-1), .ref a156, .ref a157, .int 0, .ref a158, .ref a159, .ref a160]))] := hD
                refine lv_istore (lv' := [(7, .int 0), (6, .int 0), (5, .int 0), (4, .ref a162), (3, .ref a161), (2, .ref a149), (1, .ref a1), (0, .ref b)]) hx hb dL_law_2212 hl (by decide) rfl (fun ls hl => ?_)
                refine lv_aload_n hx hb dL_law_2214 rfl (lv_at hl 5 rfl) ?_
                refine pxCi (va_runV (As := []) (rest := []) ⟨hx, hb, hml, hown, hts⟩ (k207_X7_thrown l G H.size a149 a150 a151 a152 a153 a154 a155 a156 a157 a158 a159 a160) (cwV 0 hts (pxGV pm160 pm161 pm162 pm71 pm163) rfl rfl rfl (by decide +kernel) ⟨(Nat.le_of_ble_eq_true rfl), (Nat.le_of_ble_eq_true rfl)⟩) (pxV (ci := 6) (q0 := 1) hG hZ hP hD hS hA [1] rfl (by decide) rfl rfl) rfl rfl hl.1 rfl (lv_room (Nat.le_of_ble_eq_true rfl)) dL_law_2215 ⟨(Nat.le_of_ble_eq_true rfl), (Nat.le_of_ble_eq_true rfl)⟩) hP hD hS hA [1] [0] rfl rfl (by decide) (by decide) (fun r6 q5 H locs hw hP hD hS => ?_)
                have hw : r6 = 0 := hw
                subst hw
                have hP : va_P G.1 pxCl [(a161, .inl (G.2.1 1, 1, .inr (.inl (vp_updL (fun _ => 0) 0 0)))), (a149, .inr (6, [.ref a150, .ref a151, .ref a152, .int 0, .ref a153, .int 0, .int 0, .int 0, .int 0, .ref a154, .int 0, .ref a155, .int 0, .int 0, .int 0, .int (-1), .ref a156, .ref a157, .int 0, .ref a158, .ref a159, .ref a160]))] H := hP
                have hD : va_D (fun q : Nat => s.heap.size ≤ q) [(a161, .inl (G.2.1 1, 1, .inr (.inl (vp_updL (fun _ => 0) 0 0)))), (a149, .inr (6, [.ref a150, .ref a151, .ref a152, .int 0, .ref a153, .int 0, .int 0, .int 0, .int 0, .ref a154, .int 0, .ref a155, .int 0, .int 0, .int 0, .int (-1), .ref a156, .ref a157, .int 0, .ref a158, .ref a159, .ref a160]))] := hD
                refine lv_iload hx hb dL_law_2218 (lv_at hl 1 rfl) ?_
                refine lv_icmp_eq (tgt := 2225) hx hb dL_law_2220 (by decide) (fun _ => ?_) (fun h9 => absurd (by decide) h9)
                refine lv_iload hx hb dL_law_2225 (lv_at hl 1 rfl) ?_
                refine lv_if_ne (tgt := 2242) hx hb dL_law_2227 (by decide) (fun h9 => absurd h9 (by decide)) (fun _ => ?_)
                refine lv_aload_n hx hb dL_law_2230 rfl (lv_at hl 4 rfl) ?_
                refine lv_iconst (v := 0) hx hb dL_law_2231 (by decide) ?_
                refine va_lald hx hb hK hP 0 1 rfl rfl (show ¬ ((0 : Int32) < 0 ∨ 1 ≤ (0 : Int32).toNatClampNeg) by decide +kernel) dL_law_2232 ?_
                refine pxTop (w := .long 0) rfl ?_
                refine lv_iload hx hb dL_law_2233 (lv_at hl 0 rfl) ?_
                refine lv_i2l (v := 0) hx hb dL_law_2235 (by decide) ?_
                refine W.lcmp hx hb dL_law_2236 ?_
                refine pxTop (w := .int 0) (congrArg Value.int (by decide)) ?_
                refine lv_if_eq (tgt := 2242) hx hb dL_law_2237 (by decide) (fun _ => ?_) (fun h9 => absurd (by decide) h9)
                refine lv_goto (tgt := 2658) hx hb dL_law_2242 (by decide) ?_
                refine W.widen (k := 2000) (n := 200000) (Nat.le_of_ble_eq_true rfl) (Nat.le_of_ble_eq_true rfl) ?_
                exact law_tail hl9 G C0 hG hZ H locs hS ls (lv_sub hl [2, 7] rfl)
              · skip
                refine pxCi (vx_runSW (As := [.ref a1, .int p1, .int 1, .int p3, .ref a161]) (rest := []) ⟨hx, hb, hml, hown, hts⟩ (k284_L_newDrawer l hl9 G H.size a1 a161 a2 a43 a86 a127 a131 p1 p3 ⟨by omega, by omega⟩ ⟨by omega, by omega⟩) (vx_cwSW 5 hts (pxGS pm640 pm641 pm136 pm642) rfl rfl rfl (by decide +kernel) ⟨(Nat.le_of_ble_eq_true rfl), (Nat.le_of_ble_eq_true rfl)⟩) (pxS hG hZ hP hD hS hA [0] rfl (by decide)) rfl rfl hl.1 rfl (lv_room (Nat.le_of_ble_eq_true rfl)) dL_law_2185 ⟨(Nat.le_of_ble_eq_true rfl), (Nat.le_of_ble_eq_true rfl)⟩) hP hD hS hA [0] [1, 2, 3, 4, 5, 6, 7, 8, 9, 10, 11, 12] rfl rfl (by decide) (by decide) (fun r2 q1 H locs hw hP hD hS => ?_)
                have hw : r2 = 2 := hw
                subst hw
                have hP : va_P G.1 pxCl [(a131, .inl (G.2.1 6, 3, .inr (.inr (.inr (.inr (va_up (va_up (va_up (fun _ => none) 0 (some a132)) 1 (some a135)) 2 (some a138))))))), (a132, .inr (0, [.ref a133, .ref a134, .int 0, .int 0])), (a133, .inl (G.2.1 0, 6, .inl (fun _ => 0))), (a135, .inr (0, [.ref a136, .ref a137, .int 0, .int 0])), (a136, .inl (G.2.1 0, 6, .inl (fun _ => 0))), (a138, .inr (0, [.ref a139, .ref a140, .int 0, .int 0])), (a139, .inl (G.2.1 0, 6, .inl (fun _ => 0))), (a149, .inr (6, [.ref a150, .ref a151, .ref a152, .int 0, .ref a153, .int 0, .int 0, .int 0, .int 0, .ref a154, .int 0, .ref a155, .int 0, .int 0, .int 0, .int (-1), .ref a156, .ref a157, .int 0, .ref a158, .ref a159, .ref a160])), (a158, .inl (G.2.1 0, 3, .inl (fun _ => 0))), (a159, .inl (G.2.1 0, 3, .inl (fun _ => 0))), (a160, .inl (G.2.1 0, 36, .inl (fun _ => 0))), (a161, .inl (G.2.1 1, 1, .inr (.inl (fun _ => 0))))] H := hP
                have hD : va_D (fun q : Nat => s.heap.size ≤ q) [(a131, .inl (G.2.1 6, 3, .inr (.inr (.inr (.inr (va_up (va_up (va_up (fun _ => none) 0 (some a132)) 1 (some a135)) 2 (some a138))))))), (a132, .inr (0, [.ref a133, .ref a134, .int 0, .int 0])), (a133, .inl (G.2.1 0, 6, .inl (fun _ => 0))), (a135, .inr (0, [.ref a136, .ref a137, .int 0, .int 0])), (a136, .inl (G.2.1 0, 6, .inl (fun _ => 0))), (a138, .inr (0, [.ref a139, .ref a140, .int 0, .int 0])), (a139, .inl (G.2.1 0, 6, .inl (fun _ => 0))), (a149, .inr (6, [.ref a150, .ref a151, .ref a152, .int 0, .ref a153, .int 0, .int 0, .int 0, .int 0, .ref a154, .int 0, .ref a155, .int 0, .int 0, .int 0, .int (-1), .ref a156, .ref a157, .int 0, .ref a158, .ref a159, .ref a160])), (a158, .inl (G.2.1 0, 3, .inl (fun _ => 0))), (a159, .inl (G.2.1 0, 3, .inl (fun _ => 0))), (a160, .inl (G.2.1 0, 36, .inl (fun _ => 0))), (a161, .inl (G.2.1 1, 1, .inr (.inl (fun _ => 0))))] := hD
                refine W.widen (k := 483) (n := 60059) (Nat.le_of_ble_eq_true rfl) (Nat.le_of_ble_eq_true rfl) ?_
                refine lv_istore (lv' := [(6, .int 2), (5, .int 0), (4, .ref a162), (3, .ref a161), (2, .ref a149), (1, .ref a1), (0, .ref b)]) hx hb dL_law_2188 hl (by decide) rfl (fun ls hl => ?_)
                refine lv_aload_n hx hb dL_law_2190 rfl (lv_at hl 4 rfl) ?_
                refine lv_aload_n hx hb dL_law_2191 rfl (lv_at hl 6 rfl) ?_
                refine lv_iload hx hb dL_law_2192 (lv_at hl 1 rfl) ?_
                refine lv_iconst (v := 1) hx hb dL_law_2194 (by decide) ?_
                refine lv_iadd hx hb dL_law_2195 ?_
                refine pxTop (w := .int 1) (congrArg Value.int (by decide)) ?_
                refine va_sld hx hb hX hbl hbA hS (show ¬ ((1 : Int32) < 0 ∨ 5 ≤ (1 : Int32).toNatClampNeg) by decide +kernel) dL_law_2196 ?_
                refine pxTop (w := .int p1) (congrArg Value.int hp1) ?_
                refine lv_aload_n hx hb dL_law_2197 rfl (lv_at hl 6 rfl) ?_
                refine lv_iload hx hb dL_law_2198 (lv_at hl 1 rfl) ?_
                refine lv_iconst (v := 2) hx hb dL_law_2200 (by decide) ?_
                refine lv_iadd hx hb dL_law_2201 ?_
                refine pxTop (w := .int 2) (congrArg Value.int (by decide)) ?_
                refine va_sld hx hb hX hbl hbA hS (show ¬ ((2 : Int32) < 0 ∨ 5 ≤ (2 : Int32).toNatClampNeg) by decide +kernel) dL_law_2202 ?_
                refine pxTop (w := .int 1) (congrArg Value.int hp2) ?_
                refine lv_aload_n hx hb dL_law_2203 rfl (lv_at hl 6 rfl) ?_
                refine lv_iload hx hb dL_law_2204 (lv_at hl 1 rfl) ?_
                refine lv_iconst (v := 3) hx hb dL_law_2206 (by decide) ?_
                refine lv_iadd hx hb dL_law_2207 ?_
                refine pxTop (w := .int 3) (congrArg Value.int (by decide)) ?_
                refine va_sld hx hb hX hbl hbA hS (show ¬ ((3 : Int32) < 0 ∨ 5 ≤ (3 : Int32).toNatClampNeg) by decide +kernel) dL_law_2208 ?_
                refine pxTop (w := .int p3) (congrArg Value.int hp3) ?_
                refine pxCi (va_runV (As := [.int p1, .int 1, .int p3]) (rest := []) ⟨hx, hb, hml, hown, hts⟩ (k286_X7_newDrawer l G H.size a149 a150 a151 a152 a153 a154 a155 a156 a157 a158 a159 a160 p1 p3 ⟨by omega, by omega⟩ ⟨by omega, by omega⟩) (cwV 3 hts (pxGV pm646 pm647 pm648 pm71 pm649) rfl rfl rfl (by decide +kernel) ⟨(Nat.le_of_ble_eq_true rfl), (Nat.le_of_ble_eq_true rfl)⟩) (pxV (ci := 6) (q0 := 7) hG hZ hP hD hS hA [7] rfl (by decide) rfl rfl) rfl rfl hl.1 rfl (lv_room (Nat.le_of_ble_eq_true rfl)) dL_law_2209 ⟨(Nat.le_of_ble_eq_true rfl), (Nat.le_of_ble_eq_true rfl)⟩) hP hD hS hA [7] [0, 1, 2, 3, 4, 5, 6, 8, 9, 10, 11] rfl rfl (by decide) (by decide) (fun r4 q3 H locs hw hP hD hS => ?_)
                have hw : r4 = 0 := hw
                subst hw
                have hP : va_P G.1 pxCl [(a131, .inl (G.2.1 6, 3, .inr (.inr (.inr (.inr (va_up (va_up (va_up (fun _ => none) 0 (some a132)) 1 (some a135)) 2 (some a138))))))), (a132, .inr (0, [.ref a133, .ref a134, .int 0, .int 0])), (a133, .inl (G.2.1 0, 6, .inl (fun _ => 0))), (a135, .inr (0, [.ref a136, .ref a137, .int 0, .int 0])), (a136, .inl (G.2.1 0, 6, .inl (fun _ => 0))), (a138, .inr (0, [.ref a139, .ref a140, .int 0, .int 0])), (a139, .inl (G.2.1 0, 6, .inl (fun _ => 0))), (a158, .inl (G.2.1 0, 3, .inl (fun _ => 0))), (a159, .inl (G.2.1 0, 3, .inl (fun _ => 0))), (a160, .inl (G.2.1 0, 36, .inl (fun _ => 0))), (a161, .inl (G.2.1 1, 1, .inr (.inl (fun _ => 0)))), (a149, .inr (6, [.ref a150, .ref a151, .ref a152, .int 0, .ref a153, .int 0, .int 0, .int 2, .int 0, .ref a154, .int 0, .ref a155, .int 0, .int 0, .int 0, .int (-1), .ref a156, .ref a157, .int 0, .ref a158, .ref a159, .ref a160]))] H := hP
                have hD : va_D (fun q : Nat => s.heap.size ≤ q) [(a131, .inl (G.2.1 6, 3, .inr (.inr (.inr (.inr (va_up (va_up (va_up (fun _ => none) 0 (some a132)) 1 (some a135)) 2 (some a138))))))), (a132, .inr (0, [.ref a133, .ref a134, .int 0, .int 0])), (a133, .inl (G.2.1 0, 6, .inl (fun _ => 0))), (a135, .inr (0, [.ref a136, .ref a137, .int 0, .int 0])), (a136, .inl (G.2.1 0, 6, .inl (fun _ => 0))), (a138, .inr (0, [.ref a139, .ref a140, .int 0, .int 0])), (a139, .inl (G.2.1 0, 6, .inl (fun _ => 0))), (a158, .inl (G.2.1 0, 3, .inl (fun _ => 0))), (a159, .inl (G.2.1 0, 3, .inl (fun _ => 0))), (a160, .inl (G.2.1 0, 36, .inl (fun _ => 0))), (a161, .inl (G.2.1 1, 1, .inr (.inl (fun _ => 0)))), (a149, .inr (6, [.ref a150, .ref a151, .ref a152, .int 0, .ref a153, .int 0, .int 0, .int 2, .int 0, .ref a154, .int 0, .ref a155, .int 0, .int 0, .int 0, .int (-1), .ref a156, .ref a157, .int 0, .ref a158, .ref a159, .ref a160]))] := hD
                refine lv_istore (lv' := [(7, .int 0), (6, .int 2), (5, .int 0), (4, .ref a162), (3, .ref a161), (2, .ref a149), (1, .ref a1), (0, .ref b)]) hx hb dL_law_2212 hl (by decide) rfl (fun ls hl => ?_)
                refine lv_aload_n hx hb dL_law_2214 rfl (lv_at hl 5 rfl) ?_
                refine pxCi (va_runV (As := []) (rest := []) ⟨hx, hb, hml, hown, hts⟩ (k240_X7_thrown l G H.size a149 a150 a151 a152 a153 a154 a155 a156 a157 a158 a159 a160) (cwV 0 hts (pxGV pm160 pm161 pm162 pm71 pm163) rfl rfl rfl (by decide +kernel) ⟨(Nat.le_of_ble_eq_true rfl), (Nat.le_of_ble_eq_true rfl)⟩) (pxV (ci := 6) (q0 := 11) hG hZ hP hD hS hA [11] rfl (by decide) rfl rfl) rfl rfl hl.1 rfl (lv_room (Nat.le_of_ble_eq_true rfl)) dL_law_2215 ⟨(Nat.le_of_ble_eq_true rfl), (Nat.le_of_ble_eq_true rfl)⟩) hP hD hS hA [11] [0, 1, 2, 3, 4, 5, 6, 7, 8, 9, 10] rfl rfl (by decide) (by decide) (fun r6 q5 H locs hw hP hD hS => ?_)
                have hw : r6 = 2 := hw
                subst hw
                have hP : va_P G.1 pxCl [(a131, .inl (G.2.1 6, 3, .inr (.inr (.inr (.inr (va_up (va_up (va_up (fun _ => none) 0 (some a132)) 1 (some a135)) 2 (some a138))))))), (a132, .inr (0, [.ref a133, .ref a134, .int 0, .int 0])), (a133, .inl (G.2.1 0, 6, .inl (fun _ => 0))), (a135, .inr (0, [.ref a136, .ref a137, .int 0, .int 0])), (a136, .inl (G.2.1 0, 6, .inl (fun _ => 0))), (a138, .inr (0, [.ref a139, .ref a140, .int 0, .int 0])), (a139, .inl (G.2.1 0, 6, .inl (fun _ => 0))), (a158, .inl (G.2.1 0, 3, .inl (fun _ => 0))), (a159, .inl (G.2.1 0, 3, .inl (fun _ => 0))), (a160, .inl (G.2.1 0, 36, .inl (fun _ => 0))), (a161, .inl (G.2.1 1, 1, .inr (.inl (fun _ => 0)))), (a149, .inr (6, [.ref a150, .ref a151, .ref a152, .int 0, .ref a153, .int 0, .int 0, .int 2, .int 0, .ref a154, .int 0, .ref a155, .int 0, .int 0, .int 0, .int (-1), .ref a156, .ref a157, .int 0, .ref a158, .ref a159, .ref a160]))] H := hP
                have hD : va_D (fun q : Nat => s.heap.size ≤ q) [(a131, .inl (G.2.1 6, 3, .inr (.inr (.inr (.inr (va_up (va_up (va_up (fun _ => none) 0 (some a132)) 1 (some a135)) 2 (some a138))))))), (a132, .inr (0, [.ref a133, .ref a134, .int 0, .int 0])), (a133, .inl (G.2.1 0, 6, .inl (fun _ => 0))), (a135, .inr (0, [.ref a136, .ref a137, .int 0, .int 0])), (a136, .inl (G.2.1 0, 6, .inl (fun _ => 0))), (a138, .inr (0, [.ref a139, .ref a140, .int 0, .int 0])), (a139, .inl (G.2.1 0, 6, .inl (fun _ => 0))), (a158, .inl (G.2.1 0, 3, .inl (fun _ => 0))), (a159, .inl (G.2.1 0, 3, .inl (fun _ => 0))), (a160, .inl (G.2.1 0, 36, .inl (fun _ => 0))), (a161, .inl (G.2.1 1, 1, .inr (.inl (fun _ => 0)))), (a149, .inr (6, [.ref a150, .ref a151, .ref a152, .int 0, .ref a153, .int 0, .int 0, .int 2, .int 0, .ref a154, .int 0, .ref a155, .int 0, .int 0, .int 0, .int (-1), .ref a156, .ref a157, .int 0, .ref a158, .ref a159, .ref a160]))] := hD
                refine lv_iload hx hb dL_law_2218 (lv_at hl 1 rfl) ?_
                refine lv_icmp_eq (tgt := 2225) hx hb dL_law_2220 (by decide) (fun _ => ?_) (fun h9 => absurd (by decide) h9)
                refine lv_iload hx hb dL_law_2225 (lv_at hl 1 rfl) ?_
                refine lv_if_ne (tgt := 2242) hx hb dL_law_2227 (by decide) (fun _ => ?_) (fun h9 => absurd h9 (by decide))
                refine lv_goto (tgt := 2658) hx hb dL_law_2242 (by decide) ?_
                refine W.widen (k := 2000) (n := 200000) (Nat.le_of_ble_eq_true rfl) (Nat.le_of_ble_eq_true rfl) ?_
                exact law_tail hl9 G C0 hG hZ H locs hS ls (lv_sub hl [2, 7] rfl)
          · skip
            refine pxCi (vx_runSW (As := [.ref a1, .int p1, .int p2, .int p3, .ref a161]) (rest := []) ⟨hx, hb, hml, hown, hts⟩ (k287_L_newDrawer l hl9 G H.size a1 a161 a2 a43 a86 a127 a131 p1 p2 p3 ⟨by omega, by omega⟩ ⟨by omega, by omega⟩) (vx_cwSW 5 hts (pxGS pm640 pm641 pm136 pm642) rfl rfl rfl (by decide +kernel) ⟨(Nat.le_of_ble_eq_true rfl), (Nat.le_of_ble_eq_true rfl)⟩) (pxS hG hZ hP hD hS hA [0] rfl (by decide)) rfl rfl hl.1 rfl (lv_room (Nat.le_of_ble_eq_true rfl)) dL_law_2185 ⟨(Nat.le_of_ble_eq_true rfl), (Nat.le_of_ble_eq_true rfl)⟩) hP hD hS hA [0] [1, 2, 3, 4, 5, 6, 7, 8, 9, 10, 11, 12] rfl rfl (by decide) (by decide) (fun r2 q1 H locs hw hP hD hS => ?_)
            have hw : r2 = 2 := hw
            subst hw
            have hP : va_P G.1 pxCl [(a131, .inl (G.2.1 6, 3, .inr (.inr (.inr (.inr (va_up (va_up (va_up (fun _ => none) 0 (some a132)) 1 (some a135)) 2 (some a138))))))), (a132, .inr (0, [.ref a133, .ref a134, .int 0, .int 0])), (a133, .inl (G.2.1 0, 6, .inl (fun _ => 0))), (a135, .inr (0, [.ref a136, .ref a137, .int 0, .int 0])), (a136, .inl (G.2.1 0, 6, .inl (fun _ => 0))), (a138, .inr (0, [.ref a139, .ref a140, .int 0, .int 0])), (a139, .inl (G.2.1 0, 6, .inl (fun _ => 0))), (a149, .inr (6, [.ref a150, .ref a151, .ref a152, .int 0, .ref a153, .int 0, .int 0, .int 0, .int 0, .ref a154, .int 0, .ref a155, .int 0, .int 0, .int 0, .int (-1), .ref a156, .ref a157, .int 0, .ref a158, .ref a159, .ref a160])), (a158, .inl (G.2.1 0, 3, .inl (fun _ => 0))), (a159, .inl (G.2.1 0, 3, .inl (fun _ => 0))), (a160, .inl (G.2.1 0, 36, .inl (fun _ => 0))), (a161, .inl (G.2.1 1, 1, .inr (.inl (fun _ => 0))))] H := hP
            have hD : va_D (fun q : Nat => s.heap.size ≤ q) [(a131, .inl (G.2.1 6, 3, .inr (.inr (.inr (.inr (va_up (va_up (va_up (fun _ => none) 0 (some a132)) 1 (some a135)) 2 (some a138))))))), (a132, .inr (0, [.ref a133, .ref a134, .int 0, .int 0])), (a133, .inl (G.2.1 0, 6, .inl (fun _ => 0))), (a135, .inr (0, [.ref a136, .ref a137, .int 0, .int 0])), (a136, .inl (G.2.1 0, 6, .inl (fun _ => 0))), (a138, .inr (0, [.ref a139, .ref a140, .int 0, .int 0])), (a139, .inl (G.2.1 0, 6, .inl (fun _ => 0))), (a149, .inr (6, [.ref a150, .ref a151, .ref a152, .int 0, .ref a153, .int 0, .int 0, .int 0, .int 0, .ref a154, .int 0, .ref a155, .int 0, .int 0, .int 0, .int (-1), .ref a156, .ref a157, .int 0, .ref a158, .ref a159, .ref a160])), (a158, .inl (G.2.1 0, 3, .inl (fun _ => 0))), (a159, .inl (G.2.1 0, 3, .inl (fun _ => 0))), (a160, .inl (G.2.1 0, 36, .inl (fun _ => 0))), (a161, .inl (G.2.1 1, 1, .inr (.inl (fun _ => 0))))] := hD
            refine W.widen (k := 483) (n := 60059) (Nat.le_of_ble_eq_true rfl) (Nat.le_of_ble_eq_true rfl) ?_
            refine lv_istore (lv' := [(6, .int 2), (5, .int 0), (4, .ref a162), (3, .ref a161), (2, .ref a149), (1, .ref a1), (0, .ref b)]) hx hb dL_law_2188 hl (by decide) rfl (fun ls hl => ?_)
            refine lv_aload_n hx hb dL_law_2190 rfl (lv_at hl 4 rfl) ?_
            refine lv_aload_n hx hb dL_law_2191 rfl (lv_at hl 6 rfl) ?_
            refine lv_iload hx hb dL_law_2192 (lv_at hl 1 rfl) ?_
            refine lv_iconst (v := 1) hx hb dL_law_2194 (by decide) ?_
            refine lv_iadd hx hb dL_law_2195 ?_
            refine pxTop (w := .int 1) (congrArg Value.int (by decide)) ?_
            refine va_sld hx hb hX hbl hbA hS (show ¬ ((1 : Int32) < 0 ∨ 5 ≤ (1 : Int32).toNatClampNeg) by decide +kernel) dL_law_2196 ?_
            refine pxTop (w := .int p1) (congrArg Value.int hp1) ?_
            refine lv_aload_n hx hb dL_law_2197 rfl (lv_at hl 6 rfl) ?_
            refine lv_iload hx hb dL_law_2198 (lv_at hl 1 rfl) ?_
            refine lv_iconst (v := 2) hx hb dL_law_2200 (by decide) ?_
            refine lv_iadd hx hb dL_law_2201 ?_
            refine pxTop (w := .int 2) (congrArg Value.int (by decide)) ?_
            refine va_sld hx hb hX hbl hbA hS (show ¬ ((2 : Int32) < 0 ∨ 5 ≤ (2 : Int32).toNatClampNeg) by decide +kernel) dL_law_2202 ?_
            refine pxTop (w := .int p2) (congrArg Value.int hp2) ?_
            refine lv_aload_n hx hb dL_law_2203 rfl (lv_at hl 6 rfl) ?_
            refine lv_iload hx hb dL_law_2204 (lv_at hl 1 rfl) ?_
            refine lv_iconst (v := 3) hx hb dL_law_2206 (by decide) ?_
            refine lv_iadd hx hb dL_law_2207 ?_
            refine pxTop (w := .int 3) (congrArg Value.int (by decide)) ?_
            refine va_sld hx hb hX hbl hbA hS (show ¬ ((3 : Int32) < 0 ∨ 5 ≤ (3 : Int32).toNatClampNeg) by decide +kernel) dL_law_2208 ?_
            refine pxTop (w := .int p3) (congrArg Value.int hp3) ?_
            refine pxCi (va_runV (As := [.int p1, .int p2, .int p3]) (rest := []) ⟨hx, hb, hml, hown, hts⟩ (k290_X7_newDrawer l G H.size a149 a150 a151 a152 a153 a154 a155 a156 a157 a158 a159 a160 p1 p2 p3 ⟨by omega, by omega⟩ ⟨by omega, by omega⟩) (cwV 3 hts (pxGV pm646 pm647 pm648 pm71 pm649) rfl rfl rfl (by decide +kernel) ⟨(Nat.le_of_ble_eq_true rfl), (Nat.le_of_ble_eq_true rfl)⟩) (pxV (ci := 6) (q0 := 7) hG hZ hP hD hS hA [7] rfl (by decide) rfl rfl) rfl rfl hl.1 rfl (lv_room (Nat.le_of_ble_eq_true rfl)) dL_law_2209 ⟨(Nat.le_of_ble_eq_true rfl), (Nat.le_of_ble_eq_true rfl)⟩) hP hD hS hA [7] [0, 1, 2, 3, 4, 5, 6, 8, 9, 10, 11] rfl rfl (by decide) (by decide) (fun r4 q3 H locs hw hP hD hS => ?_)
            have hw : r4 = 0 := hw
            subst hw
            have hP : va_P G.1 pxCl [(a131, .inl (G.2.1 6, 3, .inr (.inr (.inr (.inr (va_up (va_up (va_up (fun _ => none) 0 (some a132)) 1 (some a135)) 2 (some a138))))))), (a132, .inr (0, [.ref a133, .ref a134, .int 0, .int 0])), (a133, .inl (G.2.1 0, 6, .inl (fun _ => 0))), (a135, .inr (0, [.ref a136, .ref a137, .int 0, .int 0])), (a136, .inl (G.2.1 0, 6, .inl (fun _ => 0))), (a138, .inr (0, [.ref a139, .ref a140, .int 0, .int 0])), (a139, .inl (G.2.1 0, 6, .inl (fun _ => 0))), (a158, .inl (G.2.1 0, 3, .inl (fun _ => 0))), (a159, .inl (G.2.1 0, 3, .inl (fun _ => 0))), (a160, .inl (G.2.1 0, 36, .inl (fun _ => 0))), (a161, .inl (G.2.1 1, 1, .inr (.inl (fun _ => 0)))), (a149, .inr (6, [.ref a150, .ref a151, .ref a152, .int 0, .ref a153, .int 0, .int 0, .int 2, .int 0, .ref a154, .int 0, .ref a155, .int 0, .int 0, .int 0, .int (-1), .ref a156, .ref a157, .int 0, .ref a158, .ref a159, .ref a160]))] H := hP
            have hD : va_D (fun q : Nat => s.heap.size ≤ q) [(a131, .inl (G.2.1 6, 3, .inr (.inr (.inr (.inr (va_up (va_up (va_up (fun _ => none) 0 (some a132)) 1 (some a135)) 2 (some a138))))))), (a132, .inr (0, [.ref a133, .ref a134, .int 0, .int 0])), (a133, .inl (G.2.1 0, 6, .inl (fun _ => 0))), (a135, .inr (0, [.ref a136, .ref a137, .int 0, .int 0])), (a136, .inl (G.2.1 0, 6, .inl (fun _ => 0))), (a138, .inr (0, [.ref a139, .ref a140, .int 0, .int 0])), (a139, .inl (G.2.1 0, 6, .inl (fun _ => 0))), (a158, .inl (G.2.1 0, 3, .inl (fun _ => 0))), (a159, .inl (G.2.1 0, 3, .inl (fun _ => 0))), (a160, .inl (G.2.1 0, 36, .inl (fun _ => 0))), (a161, .inl (G.2.1 1, 1, .inr (.inl (fun _ => 0)))), (a149, .inr (6, [.ref a150, .ref a151, .ref a152, .int 0, .ref a153, .int 0, .int 0, .int 2, .int 0, .ref a154, .int 0, .ref a155, .int 0, .int 0, .int 0, .int (-1), .ref a156, .ref a157, .int 0, .ref a158, .ref a159, .ref a160]))] := hD
            refine lv_istore (lv' := [(7, .int 0), (6, .int 2), (5, .int 0), (4, .ref a162), (3, .ref a161), (2, .ref a149), (1, .ref a1), (0, .ref b)]) hx hb dL_law_2212 hl (by decide) rfl (fun ls hl => ?_)
            refine lv_aload_n hx hb dL_law_2214 rfl (lv_at hl 5 rfl) ?_
            refine pxCi (va_runV (As := []) (rest := []) ⟨hx, hb, hml, hown, hts⟩ (k240_X7_thrown l G H.size a149 a150 a151 a152 a153 a154 a155 a156 a157 a158 a159 a160) (cwV 0 hts (pxGV pm160 pm161 pm162 pm71 pm163) rfl rfl rfl (by decide +kernel) ⟨(Nat.le_of_ble_eq_true rfl), (Nat.le_of_ble_eq_true rfl)⟩) (pxV (ci := 6) (q0 := 11) hG hZ hP hD hS hA [11] rfl (by decide) rfl rfl) rfl rfl hl.1 rfl (lv_room (Nat.le_of_ble_eq_true rfl)) dL_law_2215 ⟨(Nat.le_of_ble_eq_true rfl), (Nat.le_of_ble_eq_true rfl)⟩) hP hD hS hA [11] [0, 1, 2, 3, 4, 5, 6, 7, 8, 9, 10] rfl rfl (by decide) (by decide) (fun r6 q5 H locs hw hP hD hS => ?_)
            have hw : r6 = 2 := hw
            subst hw
            have hP : va_P G.1 pxCl [(a131, .inl (G.2.1 6, 3, .inr (.inr (.inr (.inr (va_up (va_up (va_up (fun _ => none) 0 (some a132)) 1 (some a135)) 2 (some a138))))))), (a132, .inr (0, [.ref a133, .ref a134, .int 0, .int 0])), (a133, .inl (G.2.1 0, 6, .inl (fun _ => 0))), (a135, .inr (0, [.ref a136, .ref a137, .int 0, .int 0])), (a136, .inl (G.2.1 0, 6, .inl (fun _ => 0))), (a138, .inr (0, [.ref a139, .ref a140, .int 0, .int 0])), (a139, .inl (G.2.1 0, 6, .inl (fun _ => 0))), (a158, .inl (G.2.1 0, 3, .inl (fun _ => 0))), (a159, .inl (G.2.1 0, 3, .inl (fun _ => 0))), (a160, .inl (G.2.1 0, 36, .inl (fun _ => 0))), (a161, .inl (G.2.1 1, 1, .inr (.inl (fun _ => 0)))), (a149, .inr (6, [.ref a150, .ref a151, .ref a152, .int 0, .ref a153, .int 0, .int 0, .int 2, .int 0, .ref a154, .int 0, .ref a155, .int 0, .int 0, .int 0, .int (-1), .ref a156, .ref a157, .int 0, .ref a158, .ref a159, .ref a160]))] H := hP
            have hD : va_D (fun q : Nat => s.heap.size ≤ q) [(a131, .inl (G.2.1 6, 3, .inr (.inr (.inr (.inr (va_up (va_up (va_up (fun _ => none) 0 (some a132)) 1 (some a135)) 2 (some a138))))))), (a132, .inr (0, [.ref a133, .ref a134, .int 0, .int 0])), (a133, .inl (G.2.1 0, 6, .inl (fun _ => 0))), (a135, .inr (0, [.ref a136, .ref a137, .int 0, .int 0])), (a136, .inl (G.2.1 0, 6, .inl (fun _ => 0))), (a138, .inr (0, [.ref a139, .ref a140, .int 0, .int 0])), (a139, .inl (G.2.1 0, 6, .inl (fun _ => 0))), (a158, .inl (G.2.1 0, 3, .inl (fun _ => 0))), (a159, .inl (G.2.1 0, 3, .inl (fun _ => 0))), (a160, .inl (G.2.1 0, 36, .inl (fun _ => 0))), (a161, .inl (G.2.1 1, 1, .inr (.inl (fun _ => 0)))), (a149, .inr (6, [.ref a150, .ref a151, .ref a152, .int 0, .ref a153, .int 0, .int 0, .int 2, .int 0, .ref a154, .int 0, .ref a155, .int 0, .int 0, .int 0, .int (-1), .ref a156, .ref a157, .int 0, .ref a158, .ref a159, .ref a160]))] := hD
            refine lv_iload hx hb dL_law_2218 (lv_at hl 1 rfl) ?_
            refine lv_icmp_eq (tgt := 2225) hx hb dL_law_2220 (by decide) (fun _ => ?_) (fun h9 => absurd (by decide) h9)
            refine lv_iload hx hb dL_law_2225 (lv_at hl 1 rfl) ?_
            refine lv_if_ne (tgt := 2242) hx hb dL_law_2227 (by decide) (fun _ => ?_) (fun h9 => absurd h9 (by decide))
            refine lv_goto (tgt := 2658) hx hb dL_law_2242 (by decide) ?_
            refine W.widen (k := 2000) (n := 200000) (Nat.le_of_ble_eq_true rfl) (Nat.le_of_ble_eq_true rfl) ?_
            exact law_tail hl9 G C0 hG hZ H locs hS ls (lv_sub hl [2, 7] rfl)
    · skip
      refine pxCi (vx_runSW (As := [.ref a1, .int p1, .int p2, .int p3, .ref a161]) (rest := []) ⟨hx, hb, hml, hown, hts⟩ (k292_L_newDrawer l hl9 G H.size a1 a161 a2 a43 a86 a127 a131 p1 p2 p3 ⟨by omega, by omega⟩) (vx_cwSW 5 hts (pxGS pm640 pm641 pm136 pm642) rfl rfl rfl (by decide +kernel) ⟨(Nat.le_of_ble_eq_true rfl), (Nat.le_of_ble_eq_true rfl)⟩) (pxS hG hZ hP hD hS hA [0] rfl (by decide)) rfl rfl hl.1 rfl (lv_room (Nat.le_of_ble_eq_true rfl)) dL_law_2185 ⟨(Nat.le_of_ble_eq_true rfl), (Nat.le_of_ble_eq_true rfl)⟩) hP hD hS hA [0] [1, 2, 3, 4, 5, 6, 7, 8, 9, 10, 11, 12] rfl rfl (by decide) (by decide) (fun r2 q1 H locs hw hP hD hS => ?_)
      have hw : r2 = 1 := hw
      subst hw
      have hP : va_P G.1 pxCl [(a131, .inl (G.2.1 6, 3, .inr (.inr (.inr (.inr (va_up (va_up (va_up (fun _ => none) 0 (some a132)) 1 (some a135)) 2 (some a138))))))), (a132, .inr (0, [.ref a133, .ref a134, .int 0, .int 0])), (a133, .inl (G.2.1 0, 6, .inl (fun _ => 0))), (a135, .inr (0, [.ref a136, .ref a137, .int 0, .int 0])), (a136, .inl (G.2.1 0, 6, .inl (fun _ => 0))), (a138, .inr (0, [.ref a139, .ref a140, .int 0, .int 0])), (a139, .inl (G.2.1 0, 6, .inl (fun _ => 0))), (a149, .inr (6, [.ref a150, .ref a151, .ref a152, .int 0, .ref a153, .int 0, .int 0, .int 0, .int 0, .ref a154, .int 0, .ref a155, .int 0, .int 0, .int 0, .int (-1), .ref a156, .ref a157, .int 0, .ref a158, .ref a159, .ref a160])), (a158, .inl (G.2.1 0, 3, .inl (fun _ => 0))), (a159, .inl (G.2.1 0, 3, .inl (fun _ => 0))), (a160, .inl (G.2.1 0, 36, .inl (fun _ => 0))), (a161, .inl (G.2.1 1, 1, .inr (.inl (fun _ => 0))))] H := hP
      have hD : va_D (fun q : Nat => s.heap.size ≤ q) [(a131, .inl (G.2.1 6, 3, .inr (.inr (.inr (.inr (va_up (va_up (va_up (fun _ => none) 0 (some a132)) 1 (some a135)) 2 (some a138))))))), (a132, .inr (0, [.ref a133, .ref a134, .int 0, .int 0])), (a133, .inl (G.2.1 0, 6, .inl (fun _ => 0))), (a135, .inr (0, [.ref a136, .ref a137, .int 0, .int 0])), (a136, .inl (G.2.1 0, 6, .inl (fun _ => 0))), (a138, .inr (0, [.ref a139, .ref a140, .int 0, .int 0])), (a139, .inl (G.2.1 0, 6, .inl (fun _ => 0))), (a149, .inr (6, [.ref a150, .ref a151, .ref a152, .int 0, .ref a153, .int 0, .int 0, .int 0, .int 0, .ref a154, .int 0, .ref a155, .int 0, .int 0, .int 0, .int (-1), .ref a156, .ref a157, .int 0, .ref a158, .ref a159, .ref a160])), (a158, .inl (G.2.1 0, 3, .inl (fun _ => 0))), (a159, .inl (G.2.1 0, 3, .inl (fun _ => 0))), (a160, .inl (G.2.1 0, 36, .inl (fun _ => 0))), (a161, .inl (G.2.1 1, 1, .inr (.inl (fun _ => 0))))] := hD
      refine W.widen (k := 483) (n := 60059) (Nat.le_of_ble_eq_true rfl) (Nat.le_of_ble_eq_true rfl) ?_
      refine lv_istore (lv' := [(6, .int 1), (5, .int 0), (4, .ref a162), (3, .ref a161), (2, .ref a149), (1, .ref a1), (0, .ref b)]) hx hb dL_law_2188 hl (by decide) rfl (fun ls hl => ?_)
      refine lv_aload_n hx hb dL_law_2190 rfl (lv_at hl 4 rfl) ?_
      refine lv_aload_n hx hb dL_law_2191 rfl (lv_at hl 6 rfl) ?_
      refine lv_iload hx hb dL_law_2192 (lv_at hl 1 rfl) ?_
      refine lv_iconst (v := 1) hx hb dL_law_2194 (by decide) ?_
      refine lv_iadd hx hb dL_law_2195 ?_
      refine pxTop (w := .int 1) (congrArg Value.int (by decide)) ?_
      refine va_sld hx hb hX hbl hbA hS (show ¬ ((1 : Int32) < 0 ∨ 5 ≤ (1 : Int32).toNatClampNeg) by decide +kernel) dL_law_2196 ?_
      refine pxTop (w := .int p1) (congrArg Value.int hp1) ?_
      refine lv_aload_n hx hb dL_law_2197 rfl (lv_at hl 6 rfl) ?_
      refine lv_iload hx hb dL_law_2198 (lv_at hl 1 rfl) ?_
      refine lv_iconst (v := 2) hx hb dL_law_2200 (by decide) ?_
      refine lv_iadd hx hb dL_law_2201 ?_
      refine pxTop (w := .int 2) (congrArg Value.int (by decide)) ?_
      refine va_sld hx hb hX hbl hbA hS (show ¬ ((2 : Int32) < 0 ∨ 5 ≤ (2 : Int32).toNatClampNeg) by decide +kernel) dL_law_2202 ?_
      refine pxTop (w := .int p2) (congrArg Value.int hp2) ?_
      refine lv_aload_n hx hb dL_law_2203 rfl (lv_at hl 6 rfl) ?_
      refine lv_iload hx hb dL_law_2204 (lv_at hl 1 rfl) ?_
      refine lv_iconst (v := 3) hx hb dL_law_2206 (by decide) ?_
      refine lv_iadd hx hb dL_law_2207 ?_
      refine pxTop (w := .int 3) (congrArg Value.int (by decide)) ?_
      refine va_sld hx hb hX hbl hbA hS (show ¬ ((3 : Int32) < 0 ∨ 5 ≤ (3 : Int32).toNatClampNeg) by decide +kernel) dL_law_2208 ?_
      refine pxTop (w := .int p3) (congrArg Value.int hp3) ?_
      refine pxCi (va_runV (As := [.int p1, .int p2, .int p3]) (rest := []) ⟨hx, hb, hml, hown, hts⟩ (k295_X7_newDrawer l G H.size a149 a150 a151 a152 a153 a154 a155 a156 a157 a158 a159 a160 p1 p2 p3 ⟨by omega, by omega⟩) (cwV 3 hts (pxGV pm646 pm647 pm648 pm71 pm649) rfl rfl rfl (by decide +kernel) ⟨(Nat.le_of_ble_eq_true rfl), (Nat.le_of_ble_eq_true rfl)⟩) (pxV (ci := 6) (q0 := 7) hG hZ hP hD hS hA [7] rfl (by decide) rfl rfl) rfl rfl hl.1 rfl (lv_room (Nat.le_of_ble_eq_true rfl)) dL_law_2209 ⟨(Nat.le_of_ble_eq_true rfl), (Nat.le_of_ble_eq_true rfl)⟩) hP hD hS hA [7] [0, 1, 2, 3, 4, 5, 6, 8, 9, 10, 11] rfl rfl (by decide) (by decide) (fun r4 q3 H locs hw hP hD hS => ?_)
      have hw : r4 = 0 := hw
      subst hw
      have hP : va_P G.1 pxCl [(a131, .inl (G.2.1 6, 3, .inr (.inr (.inr (.inr (va_up (va_up (va_up (fun _ => none) 0 (some a132)) 1 (some a135)) 2 (some a138))))))), (a132, .inr (0, [.ref a133, .ref a134, .int 0, .int 0])), (a133, .inl (G.2.1 0, 6, .inl (fun _ => 0))), (a135, .inr (0, [.ref a136, .ref a137, .int 0, .int 0])), (a136, .inl (G.2.1 0, 6, .inl (fun _ => 0))), (a138, .inr (0, [.ref a139, .ref a140, .int 0, .int 0])), (a139, .inl (G.2.1 0, 6, .inl (fun _ => 0))), (a158, .inl (G.2.1 0, 3, .inl (fun _ => 0))), (a159, .inl (G.2.1 0, 3, .inl (fun _ => 0))), (a160, .inl (G.2.1 0, 36, .inl (fun _ => 0))), (a161, .inl (G.2.1 1, 1, .inr (.inl (fun _ => 0)))), (a149, .inr (6, [.ref a150, .ref a151, .ref a152, .int 0, .ref a153, .int 0, .int 0, .int 1, .int 0, .ref a154, .int 0, .ref a155, .int 0, .int 0, .int 0, .int (-1), .ref a156, .ref a157, .int 0, .ref a158, .ref a159, .ref a160]))] H := hP
      have hD : va_D (fun q : Nat => s.heap.size ≤ q) [(a131, .inl (G.2.1 6, 3, .inr (.inr (.inr (.inr (va_up (va_up (va_up (fun _ => none) 0 (some a132)) 1 (some a135)) 2 (some a138))))))), (a132, .inr (0, [.ref a133, .ref a134, .int 0, .int 0])), (a133, .inl (G.2.1 0, 6, .inl (fun _ => 0))), (a135, .inr (0, [.ref a136, .ref a137, .int 0, .int 0])), (a136, .inl (G.2.1 0, 6, .inl (fun _ => 0))), (a138, .inr (0, [.ref a139, .ref a140, .int 0, .int 0])), (a139, .inl (G.2.1 0, 6, .inl (fun _ => 0))), (a158, .inl (G.2.1 0, 3, .inl (fun _ => 0))), (a159, .inl (G.2.1 0, 3, .inl (fun _ => 0))), (a160, .inl (G.2.1 0, 36, .inl (fun _ => 0))), (a161, .inl (G.2.1 1, 1, .inr (.inl (fun _ => 0)))), (a149, .inr (6, [.ref a150, .ref a151, .ref a152, .int 0, .ref a153, .int 0, .int 0, .int 1, .int 0, .ref a154, .int 0, .ref a155, .int 0, .int 0, .int 0, .int (-1), .ref a156, .ref a157, .int 0, .ref a158, .ref a159, .ref a160]))] := hD
      refine lv_istore (lv' := [(7, .int 0), (6, .int 1), (5, .int 0), (4, .ref a162), (3, .ref a161), (2, .ref a149), (1, .ref a1), (0, .ref b)]) hx hb dL_law_2212 hl (by decide) rfl (fun ls hl => ?_)
      refine lv_aload_n hx hb dL_law_2214 rfl (lv_at hl 5 rfl) ?_
      refine pxCi (va_runV (As := []) (rest := []) ⟨hx, hb, hml, hown, hts⟩ (k158_X7_thrown l G H.size a149 a150 a151 a152 a153 a154 a155 a156 a157 a158 a159 a160) (cwV 0 hts (pxGV pm160 pm161 pm162 pm71 pm163) rfl rfl rfl (by decide +kernel) ⟨(Nat.le_of_ble_eq_true rfl), (Nat.le_of_ble_eq_true rfl)⟩) (pxV (ci := 6) (q0 := 11) hG hZ hP hD hS hA [11] rfl (by decide) rfl rfl) rfl rfl hl.1 rfl (lv_room (Nat.le_of_ble_eq_true rfl)) dL_law_2215 ⟨(Nat.le_of_ble_eq_true rfl), (Nat.le_of_ble_eq_true rfl)⟩) hP hD hS hA [11] [0, 1, 2, 3, 4, 5, 6, 7, 8, 9, 10] rfl rfl (by decide) (by decide) (fun r6 q5 H locs hw hP hD hS => ?_)
      have hw : r6 = 1 := hw
      subst hw
      have hP : va_P G.1 pxCl [(a131, .inl (G.2.1 6, 3, .inr (.inr (.inr (.inr (va_up (va_up (va_up (fun _ => none) 0 (some a132)) 1 (some a135)) 2 (some a138))))))), (a132, .inr (0, [.ref a133, .ref a134, .int 0, .int 0])), (a133, .inl (G.2.1 0, 6, .inl (fun _ => 0))), (a135, .inr (0, [.ref a136, .ref a137, .int 0, .int 0])), (a136, .inl (G.2.1 0, 6, .inl (fun _ => 0))), (a138, .inr (0, [.ref a139, .ref a140, .int 0, .int 0])), (a139, .inl (G.2.1 0, 6, .inl (fun _ => 0))), (a158, .inl (G.2.1 0, 3, .inl (fun _ => 0))), (a159, .inl (G.2.1 0, 3, .inl (fun _ => 0))), (a160, .inl (G.2.1 0, 36, .inl (fun _ => 0))), (a161, .inl (G.2.1 1, 1, .inr (.inl (fun _ => 0)))), (a149, .inr (6, [.ref a150, .ref a151, .ref a152, .int 0, .ref a153, .int 0, .int 0, .int 1, .int 0, .ref a154, .int 0, .ref a155, .int 0, .int 0, .int 0, .int (-1), .ref a156, .ref a157, .int 0, .ref a158, .ref a159, .ref a160]))] H := hP
      have hD : va_D (fun q : Nat => s.heap.size ≤ q) [(a131, .inl (G.2.1 6, 3, .inr (.inr (.inr (.inr (va_up (va_up (va_up (fun _ => none) 0 (some a132)) 1 (some a135)) 2 (some a138))))))), (a132, .inr (0, [.ref a133, .ref a134, .int 0, .int 0])), (a133, .inl (G.2.1 0, 6, .inl (fun _ => 0))), (a135, .inr (0, [.ref a136, .ref a137, .int 0, .int 0])), (a136, .inl (G.2.1 0, 6, .inl (fun _ => 0))), (a138, .inr (0, [.ref a139, .ref a140, .int 0, .int 0])), (a139, .inl (G.2.1 0, 6, .inl (fun _ => 0))), (a158, .inl (G.2.1 0, 3, .inl (fun _ => 0))), (a159, .inl (G.2.1 0, 3, .inl (fun _ => 0))), (a160, .inl (G.2.1 0, 36, .inl (fun _ => 0))), (a161, .inl (G.2.1 1, 1, .inr (.inl (fun _ => 0)))), (a149, .inr (6, [.ref a150, .ref a151, .ref a152, .int 0, .ref a153, .int 0, .int 0, .int 1, .int 0, .ref a154, .int 0, .ref a155, .int 0, .int 0, .int 0, .int (-1), .ref a156, .ref a157, .int 0, .ref a158, .ref a159, .ref a160]))] := hD
      refine lv_iload hx hb dL_law_2218 (lv_at hl 1 rfl) ?_
      refine lv_icmp_eq (tgt := 2225) hx hb dL_law_2220 (by decide) (fun _ => ?_) (fun h9 => absurd (by decide) h9)
      refine lv_iload hx hb dL_law_2225 (lv_at hl 1 rfl) ?_
      refine lv_if_ne (tgt := 2242) hx hb dL_law_2227 (by decide) (fun _ => ?_) (fun h9 => absurd h9 (by decide))
      refine lv_goto (tgt := 2658) hx hb dL_law_2242 (by decide) ?_
      refine W.widen (k := 2000) (n := 200000) (Nat.le_of_ble_eq_true rfl) (Nat.le_of_ble_eq_true rfl) ?_
      exact law_tail hl9 G C0 hG hZ H locs hS ls (lv_sub hl [2, 7] rfl)
