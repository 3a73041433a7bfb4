theorem pm609 : Cond.methodLink RL 112 yX6_account ∈ pxAll := pxM 1142 (by decide +kernel) rfl
theorem pm610 : Cond.instanceMethod yX6_account ∈ pxAll := pxM 1143 (by decide +kernel) rfl
theorem pm611 : Cond.selects RX6 yX6_account yX6_account ∈ pxAll := pxM 1144 (by decide +kernel) rfl
set_option maxRecDepth 100000 in
theorem pm612 : Cond.code yX6_account cX6_account 2 (some .long) ∈ pxAll := pxM 1145 rfl rfl
theorem pm613 : Cond.methodLink RL 239 yL_account ∈ pxAll := pxM 1139 (by decide +kernel) rfl
theorem pm614 : Cond.static yL_account ∈ pxAll := pxM 1140 (by decide +kernel) rfl
set_option maxRecDepth 100000 in
theorem pm615 : Cond.codeWith yL_account cL_account 4 (some .int) [(0, 8, 11, 51)] ∈ pxAll := pxM 1141 rfl rfl
theorem pm616 : Cond.methodLink RL 241 yX7_account ∈ pxAll := pxM 1736 (by decide +kernel) rfl
theorem pm617 : Cond.instanceMethod yX7_account ∈ pxAll := pxM 1737 (by decide +kernel) rfl
theorem pm618 : Cond.selects RX7 yX7_account yX7_account ∈ pxAll := pxM 1738 (by decide +kernel) rfl
set_option maxRecDepth 100000 in
theorem pm619 : Cond.code yX7_account cX7_account 2 (some .long) ∈ pxAll := pxM 1739 rfl rfl
theorem pm620 : Cond.methodLink RX3 172 yX3_owed ∈ pxAll := pxM 1106 (by decide +kernel) rfl
theorem pm621 : Cond.instanceMethod yX3_owed ∈ pxAll := pxM 1108 (by decide +kernel) rfl
theorem pm622 : Cond.selects RX3 yX3_owed yX3_owed ∈ pxAll := pxM 24 (by decide +kernel) rfl
set_option maxRecDepth 100000 in
theorem pm623 : Cond.code yX3_owed cX3_owed 4 (some .long) ∈ pxAll := pxM 1109 rfl rfl
theorem pm624 : Cond.methodLink RX6 269 yX3_balance ∈ pxAll := pxM 1147 (by decide +kernel) rfl
theorem pm625 : Cond.instanceMethod yX3_balance ∈ pxAll := pxM 1148 (by decide +kernel) rfl
theorem pm626 : Cond.selects RX3 yX3_balance yX3_balance ∈ pxAll := pxM 1149 (by decide +kernel) rfl
set_option maxRecDepth 100000 in
theorem pm627 : Cond.code yX3_balance cX3_balance 2 (some .long) ∈ pxAll := pxM 1150 rfl rfl
theorem pm628 : Cond.methodLink RX7 288 yX7_debts ∈ pxAll := pxM 1713 (by decide +kernel) rfl
theorem pm629 : Cond.instanceMethod yX7_debts ∈ pxAll := pxM 1715 (by decide +kernel) rfl
theorem pm630 : Cond.selects RX7 yX7_debts yX7_debts ∈ pxAll := pxM 80 (by decide +kernel) rfl
set_option maxRecDepth 100000 in
theorem pm631 : Cond.code yX7_debts cX7_debts 3 (some .int) ∈ pxAll := pxM 1716 rfl rfl
theorem dL_law_2110 : decode cL_law 2110 = .ok (.aload_n 1, 1) := by decide +kernel
theorem dL_law_2111 : decode cL_law 2111 = .ok (.aload_n 0, 1) := by decide +kernel
theorem dL_law_2112 : decode cL_law 2112 = .ok (.iload 5, 2) := by decide +kernel
theorem dL_law_2114 : decode cL_law 2114 = .ok (.iconst 1, 1) := by decide +kernel
theorem dL_law_2115 : decode cL_law 2115 = .ok (.iadd, 1) := by decide +kernel
theorem dL_law_2116 : decode cL_law 2116 = .ok (.iaload, 1) := by decide +kernel
theorem dL_law_2117 : decode cL_law 2117 = .ok (.aload_n 3, 1) := by decide +kernel
theorem dL_account_0 : decode cL_account 0 = .ok (.aload_n 2, 1) := by decide +kernel
theorem dL_account_1 : decode cL_account 1 = .ok (.iconst 0, 1) := by decide +kernel
theorem dL_account_2 : decode cL_account 2 = .ok (.aload_n 0, 1) := by decide +kernel
theorem dL_account_3 : decode cL_account 3 = .ok (.iload_n 1, 1) := by decide +kernel
theorem dX6_account_0 : decode cX6_account 0 = .ok (.iload_n 1, 1) := by decide +kernel
theorem dX6_account_1 : decode cX6_account 1 = .ok (.ifCond .lt 9, 3) := by decide +kernel
theorem dX6_account_10 : decode cX6_account 10 = .ok (.new 105, 3) := by decide +kernel
theorem dX6_account_13 : decode cX6_account 13 = .ok (.dup, 1) := by decide +kernel
theorem dX6_account_14 : decode cX6_account 14 = .ok (.ldc_w 267, 3) := by decide +kernel
theorem dX6_account_17 : decode cX6_account 17 = .ok (.invokespecial 109, 3) := by decide +kernel
theorem dX6_account_20 : decode cX6_account 20 = .ok (.athrow, 1) := by decide +kernel
theorem dL_account_4 : decode cL_account 4 = .ok (.invokevirtual 112, 3) := by decide +kernel
theorem dL_account_11 : decode cL_account 11 = .ok (.astore_n 3, 1) := by decide +kernel
theorem dL_account_12 : decode cL_account 12 = .ok (.iconst 1, 1) := by decide +kernel
theorem dL_account_13 : decode cL_account 13 = .ok (.ireturn, 1) := by decide +kernel
theorem dL_law_2118 : decode cL_law 2118 = .ok (.invokestatic 239, 3) := by decide +kernel
theorem dL_law_2121 : decode cL_law 2121 = .ok (.istore 6, 2) := by decide +kernel
theorem dL_law_2123 : decode cL_law 2123 = .ok (.aload_n 2, 1) := by decide +kernel
theorem dL_law_2124 : decode cL_law 2124 = .ok (.aload_n 0, 1) := by decide +kernel
theorem dL_law_2125 : decode cL_law 2125 = .ok (.iload 5, 2) := by decide +kernel
theorem dL_law_2127 : decode cL_law 2127 = .ok (.iconst 1, 1) := by decide +kernel
theorem dL_law_2128 : decode cL_law 2128 = .ok (.iadd, 1) := by decide +kernel
theorem dL_law_2129 : decode cL_law 2129 = .ok (.iaload, 1) := by decide +kernel
theorem dX7_account_0 : decode cX7_account 0 = .ok (.aload_n 0, 1) := by decide +kernel
theorem dX7_account_1 : decode cX7_account 1 = .ok (.iload_n 1, 1) := by decide +kernel
theorem dX7_account_2 : decode cX7_account 2 = .ok (.iconst 0, 1) := by decide +kernel
theorem dX7_account_3 : decode cX7_account 3 = .ok (.bipush 8, 2) := by decide +kernel
theorem dX7_account_5 : decode cX7_account 5 = .ok (.invokestatic 61, 3) := by decide +kernel
theorem dX7_account_8 : decode cX7_account 8 = .ok (.ifCond .eq 7, 3) := by decide +kernel
theorem dX7_account_15 : decode cX7_account 15 = .ok (.iconst 1, 1) := by decide +kernel
theorem dX7_account_16 : decode cX7_account 16 = .ok (.putfield 48, 3) := by decide +kernel
theorem dX7_account_19 : decode cX7_account 19 = .ok (.aload_n 0, 1) := by decide +kernel
theorem dX7_account_20 : decode cX7_account 20 = .ok (.getfield 48, 3) := by decide +kernel
theorem dX7_account_23 : decode cX7_account 23 = .ok (.ifCond .le 7, 3) := by decide +kernel
theorem dX7_account_26 : decode cX7_account 26 = .ok (.lconst 0, 1) := by decide +kernel
theorem dX7_account_27 : decode cX7_account 27 = .ok (.goto 25, 3) := by decide +kernel
theorem dX7_account_52 : decode cX7_account 52 = .ok (.lreturn, 1) := by decide +kernel
theorem dL_law_2130 : decode cL_law 2130 = .ok (.invokevirtual 241, 3) := by decide +kernel
theorem dL_law_2133 : decode cL_law 2133 = .ok (.lstore 7, 2) := by decide +kernel
theorem dL_law_2135 : decode cL_law 2135 = .ok (.aload_n 2, 1) := by decide +kernel
theorem dL_law_2136 : decode cL_law 2136 = .ok (.invokevirtual 147, 3) := by decide +kernel
theorem dL_law_2139 : decode cL_law 2139 = .ok (.iload 6, 2) := by decide +kernel
theorem dL_law_2141 : decode cL_law 2141 = .ok (.if_icmp .eq 5, 3) := by decide +kernel
theorem dL_law_2146 : decode cL_law 2146 = .ok (.iload 6, 2) := by decide +kernel
theorem dL_law_2148 : decode cL_law 2148 = .ok (.ifCond .ne 14, 3) := by decide +kernel
theorem dL_law_2162 : decode cL_law 2162 = .ok (.goto 496, 3) := by decide +kernel
theorem dX6_account_4 : decode cX6_account 4 = .ok (.iload_n 1, 1) := by decide +kernel
theorem dX6_account_5 : decode cX6_account 5 = .ok (.bipush 9, 2) := by decide +kernel
theorem dX6_account_7 : decode cX6_account 7 = .ok (.if_icmp .lt 14, 3) := by decide +kernel
theorem dX6_account_21 : decode cX6_account 21 = .ok (.aload_n 0, 1) := by decide +kernel
theorem dX6_account_22 : decode cX6_account 22 = .ok (.getfield 10, 3) := by decide +kernel
theorem dX6_account_25 : decode cX6_account 25 = .ok (.iload_n 1, 1) := by decide +kernel
theorem dX3_balance_0 : decode cX3_balance 0 = .ok (.iload_n 1, 1) := by decide +kernel
theorem dX3_balance_1 : decode cX3_balance 1 = .ok (.iconst 1, 1) := by decide +kernel
theorem dX3_balance_2 : decode cX3_balance 2 = .ok (.if_icmp .ne 10, 3) := by decide +kernel
theorem dX3_balance_12 : decode cX3_balance 12 = .ok (.aload_n 0, 1) := by decide +kernel
theorem dX3_balance_13 : decode cX3_balance 13 = .ok (.getfield 36, 3) := by decide +kernel
theorem dX3_balance_16 : decode cX3_balance 16 = .ok (.iload_n 1, 1) := by decide +kernel
theorem dX3_balance_17 : decode cX3_balance 17 = .ok (.laload, 1) := by decide +kernel
theorem dX3_balance_5 : decode cX3_balance 5 = .ok (.aload_n 0, 1) := by decide +kernel
theorem dX3_owed_0 : decode cX3_owed 0 = .ok (.lconst 0, 1) := by decide +kernel
theorem dX3_owed_1 : decode cX3_owed 1 = .ok (.lstore_n 1, 1) := by decide +kernel
theorem dX3_owed_2 : decode cX3_owed 2 = .ok (.iconst 0, 1) := by decide +kernel
theorem dX3_owed_3 : decode cX3_owed 3 = .ok (.istore_n 3, 1) := by decide +kernel
theorem dX3_owed_4 : decode cX3_owed 4 = .ok (.iload_n 3, 1) := by decide +kernel
theorem dX3_owed_5 : decode cX3_owed 5 = .ok (.aload_n 0, 1) := by decide +kernel
theorem dX3_owed_6 : decode cX3_owed 6 = .ok (.getfield 55, 3) := by decide +kernel
theorem dX3_owed_9 : decode cX3_owed 9 = .ok (.if_icmp .ge 19, 3) := by decide +kernel
theorem dX3_owed_28 : decode cX3_owed 28 = .ok (.lload_n 1, 1) := by decide +kernel
theorem dX3_owed_29 : decode cX3_owed 29 = .ok (.lreturn, 1) := by decide +kernel
theorem dX3_balance_6 : decode cX3_balance 6 = .ok (.invokevirtual 172, 3) := by decide +kernel
theorem dX3_balance_9 : decode cX3_balance 9 = .ok (.goto 9, 3) := by decide +kernel
theorem dX3_balance_18 : decode cX3_balance 18 = .ok (.lreturn, 1) := by decide +kernel
theorem dX6_account_26 : decode cX6_account 26 = .ok (.invokevirtual 269, 3) := by decide +kernel
theorem dX6_account_29 : decode cX6_account 29 = .ok (.lreturn, 1) := by decide +kernel
theorem dL_account_7 : decode cL_account 7 = .ok (.lastore, 1) := by decide +kernel
theorem dL_account_8 : decode cL_account 8 = .ok (.goto 6, 3) := by decide +kernel
theorem dL_account_14 : decode cL_account 14 = .ok (.iconst 0, 1) := by decide +kernel
theorem dL_account_15 : decode cL_account 15 = .ok (.ireturn, 1) := by decide +kernel
theorem dX7_account_11 : decode cX7_account 11 = .ok (.iconst 0, 1) := by decide +kernel
theorem dX7_account_12 : decode cX7_account 12 = .ok (.goto 4, 3) := by decide +kernel
theorem dX7_account_30 : decode cX7_account 30 = .ok (.iload_n 1, 1) := by decide +kernel
theorem dX7_account_31 : decode cX7_account 31 = .ok (.iconst 1, 1) := by decide +kernel
theorem dX7_account_32 : decode cX7_account 32 = .ok (.if_icmp .ne 11, 3) := by decide +kernel
theorem dX7_account_43 : decode cX7_account 43 = .ok (.aload_n 0, 1) := by decide +kernel
theorem dX7_account_44 : decode cX7_account 44 = .ok (.getfield 9, 3) := by decide +kernel
theorem dX7_account_47 : decode cX7_account 47 = .ok (.iconst 2, 1) := by decide +kernel
theorem dX7_account_48 : decode cX7_account 48 = .ok (.iload_n 1, 1) := by decide +kernel
theorem dX7_account_49 : decode cX7_account 49 = .ok (.iadd, 1) := by decide +kernel
theorem dX7_account_50 : decode cX7_account 50 = .ok (.iaload, 1) := by decide +kernel
theorem dX7_account_51 : decode cX7_account 51 = .ok (.i2l, 1) := by decide +kernel
theorem dX7_account_35 : decode cX7_account 35 = .ok (.aload_n 0, 1) := by decide +kernel
theorem dX7_debts_0 : decode cX7_debts 0 = .ok (.iconst 0, 1) := by decide +kernel
theorem dX7_debts_1 : decode cX7_debts 1 = .ok (.istore_n 1, 1) := by decide +kernel
theorem dX7_debts_2 : decode cX7_debts 2 = .ok (.iconst 0, 1) := by decide +kernel
theorem dX7_debts_3 : decode cX7_debts 3 = .ok (.istore_n 2, 1) := by decide +kernel
theorem dX7_debts_4 : decode cX7_debts 4 = .ok (.iload_n 2, 1) := by decide +kernel
theorem dX7_debts_5 : decode cX7_debts 5 = .ok (.aload_n 0, 1) := by decide +kernel
theorem dX7_debts_6 : decode cX7_debts 6 = .ok (.getfield 9, 3) := by decide +kernel
theorem dX7_debts_9 : decode cX7_debts 9 = .ok (.iconst 1, 1) := by decide +kernel
theorem dX7_debts_10 : decode cX7_debts 10 = .ok (.iaload, 1) := by decide +kernel
theorem dX7_debts_11 : decode cX7_debts 11 = .ok (.if_icmp .ge 17, 3) := by decide +kernel
theorem dX7_debts_28 : decode cX7_debts 28 = .ok (.iload_n 1, 1) := by decide +kernel
theorem dX7_debts_29 : decode cX7_debts 29 = .ok (.ireturn, 1) := by decide +kernel
theorem dX7_account_36 : decode cX7_account 36 = .ok (.invokevirtual 288, 3) := by decide +kernel
theorem dX7_account_39 : decode cX7_account 39 = .ok (.i2l, 1) := by decide +kernel
theorem dX7_account_40 : decode cX7_account 40 = .ok (.goto 12, 3) := by decide +kernel
theorem dL_law_2151 : decode cL_law 2151 = .ok (.aload_n 3, 1) := by decide +kernel
theorem dL_law_2152 : decode cL_law 2152 = .ok (.iconst 0, 1) := by decide +kernel
theorem dL_law_2153 : decode cL_law 2153 = .ok (.laload, 1) := by decide +kernel
theorem dL_law_2154 : decode cL_law 2154 = .ok (.lload 7, 2) := by decide +kernel
theorem dL_law_2156 : decode cL_law 2156 = .ok (.lcmp, 1) := by decide +kernel
theorem dL_law_2157 : decode cL_law 2157 = .ok (.ifCond .eq 5, 3) := by decide +kernel
set_option maxHeartbeats 4000000 in
set_option maxRecDepth 100000 in
theorem k211_X6_account (l : Launch) (hl9 : l.stackTraces = false) (G : pxG) (sz : Nat) (a0 : Nat) (i0 : Int32) (h0 : (-2147483648 : Int) ≤ i0.toInt ∧ i0.toInt ≤ (-1)) : vx_Met l yX6_account (Cond.code yX6_account cX6_account 2 (some .long) :: pxAll) ({ frames := 6, cells := 1, slots := 6, locals := 90 } : Room) (va_Pc [.ref a0, .int i0] (pxPre G [] sz)) pxF (pxXC "java/lang/IllegalArgumentException" (va_A [] sz)) 1 6 (va_A [] sz) := by
  refine vx_ofW (cc := cX6_account) (maxL := 2) (ret := (some .long)) (by decide) rfl ?_
  intro p e s m args below meth c s₁ B hml hEx hv
  obtain ⟨rfl, hsz, hG, hZ, hP, hD0⟩ := hv
  have hx := B.exec
  have hb := B.bytes
  have hr := B.returns
  have hts0 := atoms_spec (ws := Cond.code yX6_account cX6_account 2 (some .long) :: pxAll) B.pre
  have hts : ∀ w ∈ pxAll, w.before _ s = true := fun w h => hts0 w (List.mem_cons_of_mem _ h)
  have hown : s.vm.findClass RX6 = some m.cls := findClass_of_methodNamed B.named
  have hlocks := B.notSynchronized
  subst hsz
  have hK := hG.1
  have hD := hD0.self (sz := s.heap.size)
  generalize hAe : va_A [] s.heap.size = A at hD hZ ⊢
  have hA : ∀ q : Nat, s.heap.size ≤ q → A q := fun q h => by rw [← hAe]; exact Or.inr h
  have hS : va_S A s.heap s.heap [] := va_S.rf
  have hl := lv_entry ([.ref a0, .int i0]) (n := 2) (Nat.le_of_ble_eq_true rfl)
  rw [lg_entry_eq]
  generalize (lg_sl ([.ref a0, .int i0]) ++ List.replicate (2 - (lg_sl ([.ref a0, .int i0])).length) Slot.unset).toArray = ls at hl ⊢
  have hl : lv_has ls 2 [(0, .ref a0), (1, .int i0)] := hl
  refine lv_iload_n hx hb dX6_account_0 rfl (lv_at hl 1 rfl) ?_
  refine lv_if_lt (tgt := 10) hx hb dX6_account_1 (by decide) (fun _ => ?_) (fun h9 => absurd (pxLt 0 (by decide) (by omega)) h9)
  exact vx_throwSW (own := RX6) (cls := "java/lang/IllegalArgumentException") (names := ["java/lang/RuntimeException", "java/lang/Exception"]) hx hb hl9 hown (by decide +kernel) (by decide +kernel) (hts _ pm591) (hts _ pm592) (hG.2.2.2.2.1 7 _ rfl) (pxThr (own := RX6) (ic := 109) (by simp [pxBadC]) hts hG wsL_law_x3 pxh_x3) pxg_x3 hZ.1 hZ.2 hS (hl.1.trans hml.symm) dX6_account_10 dX6_account_13 dX6_account_14 dX6_account_17 dX6_account_20 (fun x hx => (hEx x hx).elim) (Nat.le_of_ble_eq_true rfl) (Nat.le_of_ble_eq_true rfl) (Nat.le_of_ble_eq_true rfl) (Nat.le_of_ble_eq_true rfl) hlocks (pxXe hS) hS.2.2 (Nat.le_of_ble_eq_true rfl) (Nat.le_of_ble_eq_true rfl)
set_option maxHeartbeats 4000000 in
set_option maxRecDepth 100000 in
theorem k211_L_account (l : Launch) (hl9 : l.stackTraces = false) (G : pxG) (sz : Nat) (a0 a1 a2 a3 a4 a5 a6 : Nat) (i0 : Int32) (h0 : (-2147483648 : Int) ≤ i0.toInt ∧ i0.toInt ≤ (-1)) : Met l yL_account (Cond.codeWith yL_account cL_account 4 (some .int) [(0, 8, 11, 51)] :: pxAll) ({ frames := 7, cells := 1, slots := 6, locals := 111 } : Room) (va_Pc [.ref a0, .int i0, .ref a1] (pxPre G [(a0, .inr (5, [.ref a2, .ref a3, .ref a4, .ref a5, .ref a6, .int 0, .int 0, .int (-1)]))] sz)) (pxQi G (fun r => r = 1) (fun q => []) (va_A [(a0, .inr (5, [.ref a2, .ref a3, .ref a4, .ref a5, .ref a6, .int 0, .int 0, .int (-1)]))] sz)) 1 6 (va_A [(a0, .inr (5, [.ref a2, .ref a3, .ref a4, .ref a5, .ref a6, .int 0, .int 0, .int (-1)]))] sz) := by
  refine va_MetW (cc := cL_account) (maxL := 4) (ret := (some .int)) (hh := [(0, 8, 11, 51)]) (by decide) rfl ?_
  intro p e s m args below meth c s₁ B hml hv
  obtain ⟨rfl, hsz, hG, hZ, hP, hD0⟩ := hv
  have hx := B.exec
  have hb := B.bytes
  have hr := B.returns
  have hts0 := atoms_spec (ws := Cond.codeWith yL_account cL_account 4 (some .int) [(0, 8, 11, 51)] :: pxAll) B.pre
  have hts : ∀ w ∈ pxAll, w.before _ s = true := fun w h => hts0 w (List.mem_cons_of_mem _ h)
  have hown : s.vm.findClass RL = some m.cls := findClass_of_methodNamed B.named
  have hlocks := B.notSynchronized
  have hTab := vx_table (x := yL_account) B (hts0 _ List.mem_cons_self)
  subst hsz
  have hK := hG.1
  have hD := hD0.self (sz := s.heap.size)
  generalize hAe : va_A [(a0, .inr (5, [.ref a2, .ref a3, .ref a4, .ref a5, .ref a6, .int 0, .int 0, .int (-1)]))] s.heap.size = A at hD hZ ⊢
  have hA : ∀ q : Nat, s.heap.size ≤ q → A q := fun q h => by rw [← hAe]; exact Or.inr h
  have hS : va_S A s.heap s.heap [] := va_S.rf
  have hl := lv_entry ([.ref a0, .int i0, .ref a1]) (n := 4) (Nat.le_of_ble_eq_true rfl)
  rw [lg_entry_eq]
  generalize (lg_sl ([.ref a0, .int i0, .ref a1]) ++ List.replicate (4 - (lg_sl ([.ref a0, .int i0, .ref a1])).length) Slot.unset).toArray = ls at hl ⊢
  have hl : lv_has ls 4 [(0, .ref a0), (1, .int i0), (2, .ref a1)] := hl
  refine lv_aload_n hx hb dL_account_0 rfl (lv_at hl 2 rfl) ?_
  refine lv_iconst (v := 0) hx hb dL_account_1 (by decide) ?_
  refine lv_aload_n hx hb dL_account_2 rfl (lv_at hl 0 rfl) ?_
  refine lv_iload_n hx hb dL_account_3 rfl (lv_at hl 1 rfl) ?_
  refine pxCx (vx_runV (As := [.int i0]) (rest := [.int 0, .ref a1]) ⟨hx, hb, hml, hown, hts⟩ (k211_X6_account l hl9 G s.heap.size a0 i0 ⟨by omega, by omega⟩) (cwV 1 hts (pxGV pm609 pm610 pm611 pm2 pm612) rfl rfl rfl (by decide +kernel) ⟨(Nat.le_of_ble_eq_true rfl), (Nat.le_of_ble_eq_true rfl)⟩) (pxV (ci := 5) (q0 := 0) hG hZ hP hD hS hA [] rfl (by decide) rfl rfl) rfl rfl hl.1 rfl (lv_room (Nat.le_of_ble_eq_true rfl)) dL_account_4 ⟨(Nat.le_of_ble_eq_true rfl), (Nat.le_of_ble_eq_true rfl)⟩) hD hS hA [] rfl (fun ce q9 H locs hS hce hcv hcl => ?_)
  refine vx_catch (own := RL) (name := "java/lang/IllegalArgumentException") (E := "java/lang/IllegalArgumentException") hown [] ⟨0, 8, 11, 51⟩ [] (by rw [hTab]; rfl) (fun z hz => nomatch hz) (by decide) (by decide) (hts _ pm597) (va_Nw.use rfl (hG.2.2.1 "java/lang/IllegalArgumentException" (by simp [pxBadC]))) hce hcv hcl ?_
  have hP : va_P G.1 pxCl [] H := fun k q h => by simp at h
  have hD : va_D A [] := ⟨fun i j p q h => by simp at h, fun k q h => by simp at h⟩
  refine lv_astore_n (lv' := [(3, .ref q9), (0, .ref a0), (1, .int i0), (2, .ref a1)]) hx hb dL_account_11 rfl hl (by decide) rfl (fun ls hl => ?_)
  refine lv_iconst (v := 1) hx hb dL_account_12 (by decide) ?_
  refine W.widen (k := 1) (n := 6) (Nat.le_of_ble_eq_true rfl) (Nat.le_of_ble_eq_true rfl) ?_
  exact W.iret (v := 1) hx hb hr (fun t ht hW => ⟨⟨1, (fun _ => 0), rfl, rfl, by rw [ht]; exact hP, hD⟩, hS.F ht⟩) hS.2.2 dL_account_13
set_option maxHeartbeats 4000000 in
set_option maxRecDepth 100000 in
theorem k213_X7_in (l : Launch) (G : pxG) (sz : Nat) (i0 : Int32) (h0 : (-2147483648 : Int) ≤ i0.toInt ∧ i0.toInt ≤ (-1)) : Met l yX7_in (Cond.code yX7_in cX7_in 3 (some .boolean) :: pxAll) ({ frames := 0, cells := 0, slots := 0, locals := 0 } : Room) (va_Pc [.int i0, .int 0, .int 8] (pxPre G [] sz)) (pxQi G (fun r => r = 0) (fun q => []) (va_A [] sz)) 0 0 (va_A [] sz) := by
  refine Met.ofW (cc := cX7_in) (maxL := 3) (ret := (some .boolean)) (by decide) rfl ?_
  intro p e s m args below meth c s₁ B hml hv
  obtain ⟨rfl, hsz, hG, hZ, hP, hD0⟩ := hv
  have hx := B.exec
  have hb := B.bytes
  have hr := B.returns
  have hts0 := atoms_spec (ws := Cond.code yX7_in cX7_in 3 (some .boolean) :: pxAll) B.pre
  have hts : ∀ w ∈ pxAll, w.before _ s = true := fun w h => hts0 w (List.mem_cons_of_mem _ h)
  have hown : s.vm.findClass RX7 = some m.cls := findClass_of_methodNamed B.named
  have hlocks := B.notSynchronized
  subst hsz
  have hK := hG.1
  have hD := hD0.self (sz := s.heap.size)
  generalize hAe : va_A [] s.heap.size = A at hD hZ ⊢
  have hA : ∀ q : Nat, s.heap.size ≤ q → A q := fun q h => by rw [← hAe]; exact Or.inr h
  have hS : va_S A s.heap s.heap [] := va_S.rf
  have hl := lv_entry ([.int i0, .int 0, .int 8]) (n := 3) (Nat.le_of_ble_eq_true rfl)
  rw [lg_entry_eq]
  generalize (lg_sl ([.int i0, .int 0, .int 8]) ++ List.replicate (3 - (lg_sl ([.int i0, .int 0, .int 8])).length) Slot.unset).toArray = ls at hl ⊢
  have hl : lv_has ls 3 [(0, .int i0), (1, .int 0), (2, .int 8)] := hl
  refine lv_iload_n hx hb dX7_in_0 rfl (lv_at hl 0 rfl) ?_
  refine lv_iload_n hx hb dX7_in_1 rfl (lv_at hl 1 rfl) ?_
  refine lv_icmp_lt (tgt := 14) hx hb dX7_in_2 (by decide) (fun _ => ?_) (fun h9 => absurd (pxLt 0 (by decide) (by omega)) h9)
  refine lv_iconst (v := 0) hx hb dX7_in_14 (by decide) ?_
  refine W.widen (k := 0) (n := 0) (Nat.le_of_ble_eq_true rfl) (Nat.le_of_ble_eq_true rfl) ?_
  exact W.zret (ty := .boolean) (v := 0) hx hb hr rfl (fun t ht hW => ⟨⟨0, (fun _ => 0), rfl, rfl, by rw [ht]; exact hP, hD⟩, hS.F ht⟩) hS.2.2 dX7_in_15
set_option maxHeartbeats 4000000 in
set_option maxRecDepth 100000 in
theorem k213_X7_account (l : Launch) (G : pxG) (sz : Nat) (a0 a1 a2 a3 a4 a5 a6 a7 a8 a9 a10 a11 : Nat) (i0 : Int32) (h0 : (-2147483648 : Int) ≤ i0.toInt ∧ i0.toInt ≤ (-1)) : Met l yX7_account (Cond.code yX7_account cX7_account 2 (some .long) :: pxAll) ({ frames := 1, cells := 0, slots := 0, locals := 22 } : Room) (va_Pc [.ref a0, .int i0] (pxPre G [(a0, .inr (6, [.ref a1, .ref a2, .ref a3, .int 0, .ref a4, .int 0, .int 0, .int 0, .int 0, .ref a5, .int 0, .ref a6, .int 0, .int 0, .int 0, .int (-1), .ref a7, .ref a8, .int 0, .ref a9, .ref a10, .ref a11]))] sz)) (pxQl G (fun r => r = 0) (fun q => [(a0, .inr (6, [.ref a1, .ref a2, .ref a3, .int 0, .ref a4, .int 0, .int 0, .int 1, .int 0, .ref a5, .int 0, .ref a6, .int 0, .int 0, .int 0, .int (-1), .ref a7, .ref a8, .int 0, .ref a9, .ref a10, .ref a11]))]) (va_A [(a0, .inr (6, [.ref a1, .ref a2, .ref a3, .int 0, .ref a4, .int 0, .int 0, .int 0, .int 0, .ref a5, .int 0, .ref a6, .int 0, .int 0, .int 0, .int (-1), .ref a7, .ref a8, .int 0, .ref a9, .ref a10, .ref a11]))] sz)) 0 0 (va_A [(a0, .inr (6, [.ref a1, .ref a2, .ref a3, .int 0, .ref a4, .int 0, .int 0, .int 0, .int 0, .ref a5, .int 0, .ref a6, .int 0, .int 0, .int 0, .int (-1), .ref a7, .ref a8, .int 0, .ref a9, .ref a10, .ref a11]))] sz) := by
  refine Met.ofW (cc := cX7_account) (maxL := 2) (ret := (some .long)) (by decide) rfl ?_
  intro p e s m args below meth c s₁ B hml hv
  obtain ⟨rfl, hsz, hG, hZ, hP, hD0⟩ := hv
  have hx := B.exec
  have hb := B.bytes
  have hr := B.returns
  have hts0 := atoms_spec (ws := Cond.code yX7_account cX7_account 2 (some .long) :: pxAll) B.pre
  have hts : ∀ w ∈ pxAll, w.before _ s = true := fun w h => hts0 w (List.mem_cons_of_mem _ h)
  have hown : s.vm.findClass RX7 = some m.cls := findClass_of_methodNamed B.named
  have hlocks := B.notSynchronized
  subst hsz
  have hK := hG.1
  have hD := hD0.self (sz := s.heap.size)
  generalize hAe : va_A [(a0, .inr (6, [.ref a1, .ref a2, .ref a3, .int 0, .ref a4, .int 0, .int 0, .int 0, .int 0, .ref a5, .int 0, .ref a6, .int 0, .int 0, .int 0, .int (-1), .ref a7, .ref a8, .int 0, .ref a9, .ref a10, .ref a11]))] s.heap.size = A at hD hZ ⊢
  have hA : ∀ q : Nat, s.heap.size ≤ q → A q := fun q h => by rw [← hAe]; exact Or.inr h
  have hS : va_S A s.heap s.heap [] := va_S.rf
  have hl := lv_entry ([.ref a0, .int i0]) (n := 2) (Nat.le_of_ble_eq_true rfl)
  rw [lg_entry_eq]
  generalize (lg_sl ([.ref a0, .int i0]) ++ List.replicate (2 - (lg_sl ([.ref a0, .int i0])).length) Slot.unset).toArray = ls at hl ⊢
  have hl : lv_has ls 2 [(0, .ref a0), (1, .int i0)] := hl
  refine lv_aload_n hx hb dX7_account_0 rfl (lv_at hl 0 rfl) ?_
  refine lv_iload_n hx hb dX7_account_1 rfl (lv_at hl 1 rfl) ?_
  refine lv_iconst (v := 0) hx hb dX7_account_2 (by decide) ?_
  refine lv_bipush (v := 8) hx hb dX7_account_3 (by decide) ?_
  refine pxCi (va_runS (As := [.int i0, .int 0, .int 8]) (rest := [.ref a0]) ⟨hx, hb, hml, hown, hts⟩ (k213_X7_in l G s.heap.size i0 ⟨by omega, by omega⟩) (va_cwS 3 hts (pxGS pm143 pm144 pm71 pm145) rfl rfl rfl (by decide +kernel) ⟨(Nat.le_of_ble_eq_true rfl), (Nat.le_of_ble_eq_true rfl)⟩) (pxS hG hZ hP hD hS hA [] rfl (by decide)) rfl rfl hl.1 rfl (lv_room (Nat.le_of_ble_eq_true rfl)) dX7_account_5 ⟨(Nat.le_of_ble_eq_true rfl), (Nat.le_of_ble_eq_true rfl)⟩) hP hD hS hA [] [0] rfl rfl (by decide) (by decide) (fun r2 q1 H locs hw hP hD hS => ?_)
  have hw : r2 = 0 := hw
  subst hw
  have hP : va_P G.1 pxCl [(a0, .inr (6, [.ref a1, .ref a2, .ref a3, .int 0, .ref a4, .int 0, .int 0, .int 0, .int 0, .ref a5, .int 0, .ref a6, .int 0, .int 0, .int 0, .int (-1), .ref a7, .ref a8, .int 0, .ref a9, .ref a10, .ref a11]))] H := hP
  have hD : va_D A [(a0, .inr (6, [.ref a1, .ref a2, .ref a3, .int 0, .ref a4, .int 0, .int 0, .int 0, .int 0, .ref a5, .int 0, .ref a6, .int 0, .int 0, .int 0, .int (-1), .ref a7, .ref a8, .int 0, .ref a9, .ref a10, .ref a11]))] := hD
  refine lv_if_eq (tgt := 15) hx hb dX7_account_8 (by decide) (fun _ => ?_) (fun h9 => absurd (by decide) h9)
  refine lv_iconst (v := 1) hx hb dX7_account_15 (by decide) ?_
  refine va_put (D := G.1) (ci := 6) (v := .int 1) (ty := .int) (C := RX7) (T := TX7) (N := 22) hx hb hts piX7 tyX7 tyX7_ok nmX7 hown hK hP hD hS 0 rfl rfl 7 (by decide) (hts _ pm150) (fun _ h9 => h9) rfl (by decide +kernel) rfl rfl (Nat.le_of_ble_eq_true rfl) dX7_account_16 (fun H locs hP hD hS => ?_)
  have hP : va_P G.1 pxCl [(a0, .inr (6, [.ref a1, .ref a2, .ref a3, .int 0, .ref a4, .int 0, .int 0, .int 1, .int 0, .ref a5, .int 0, .ref a6, .int 0, .int 0, .int 0, .int (-1), .ref a7, .ref a8, .int 0, .ref a9, .ref a10, .ref a11]))] H := hP
  have hD : va_D A [(a0, .inr (6, [.ref a1, .ref a2, .ref a3, .int 0, .ref a4, .int 0, .int 0, .int 1, .int 0, .ref a5, .int 0, .ref a6, .int 0, .int 0, .int 0, .int (-1), .ref a7, .ref a8, .int 0, .ref a9, .ref a10, .ref a11]))] := hD
  refine lv_aload_n hx hb dX7_account_19 rfl (lv_at hl 0 rfl) ?_
  refine va_get (D := G.1) (ci := 6) (v := .int 1) (C := RX7) (T := TX7) (N := 22) hx hb hts piX7 hown hK hP 0 rfl rfl 7 (by decide) (hts _ pm150) (fun _ h9 => h9) rfl dX7_account_20 ?_
  refine lv_if_le (tgt := 30) hx hb dX7_account_23 (by decide) (fun h9 => absurd h9 (by decide)) (fun _ => ?_)
  refine lv_lconst (v := 0) hx hb dX7_account_26 (by decide) ?_
  refine lv_goto (tgt := 52) hx hb dX7_account_27 (by decide) ?_
  refine W.widen (k := 0) (n := 0) (Nat.le_of_ble_eq_true rfl) (Nat.le_of_ble_eq_true rfl) ?_
  exact W.lret (v := 0) hx hb hr (fun t ht hW => ⟨⟨0, (fun _ => 0), rfl, rfl, by rw [ht]; exact hP, hD⟩, hS.F ht⟩) hS.2.2 dX7_account_52
set_option maxHeartbeats 4000000 in
set_option maxRecDepth 100000 in
theorem k215_X3_owed (l : Launch) (G : pxG) (sz : Nat) (a0 a1 a2 a3 a4 a5 a6 a7 a8 : Nat) : Met l yX3_owed (Cond.code yX3_owed cX3_owed 4 (some .long) :: pxAll) ({ frames := 0, cells := 0, slots := 0, locals := 0 } : Room) (va_Pc [.ref a0] (pxPre G [(a0, .inr (2, [.ref a1, .ref a2, .ref a3, .ref a4, .ref a5, .ref a6, .ref a7, .ref a8, .int 0, .int 0]))] sz)) (pxQl G (fun r => r = 0) (fun q => [(a0, .inr (2, [.ref a1, .ref a2, .ref a3, .ref a4, .ref a5, .ref a6, .ref a7, .ref a8, .int 0, .int 0]))]) (va_A [(a0, .inr (2, [.ref a1, .ref a2, .ref a3, .ref a4, .ref a5, .ref a6, .ref a7, .ref a8, .int 0, .int 0]))] sz)) 0 0 (va_A [(a0, .inr (2, [.ref a1, .ref a2, .ref a3, .ref a4, .ref a5, .ref a6, .ref a7, .ref a8, .int 0, .int 0]))] sz) := by
  refine Met.ofW (cc := cX3_owed) (maxL := 4) (ret := (some .long)) (by decide) rfl ?_
  intro p e s m args below meth c s₁ B hml hv
  obtain ⟨rfl, hsz, hG, hZ, hP, hD0⟩ := hv
  have hx := B.exec
  have hb := B.bytes
  have hr := B.returns
  have hts0 := atoms_spec (ws := Cond.code yX3_owed cX3_owed 4 (some .long) :: pxAll) B.pre
  have hts : ∀ w ∈ pxAll, w.before _ s = true := fun w h => hts0 w (List.mem_cons_of_mem _ h)
  have hown : s.vm.findClass RX3 = some m.cls := findClass_of_methodNamed B.named
  have hlocks := B.notSynchronized
  subst hsz
  have hK := hG.1
  have hD := hD0.self (sz := s.heap.size)
  generalize hAe : va_A [(a0, .inr (2, [.ref a1, .ref a2, .ref a3, .ref a4, .ref a5, .ref a6, .ref a7, .ref a8, .int 0, .int 0]))] s.heap.size = A at hD hZ ⊢
  have hA : ∀ q : Nat, s.heap.size ≤ q → A q := fun q h => by rw [← hAe]; exact Or.inr h
  have hS : va_S A s.heap s.heap [] := va_S.rf
  have hl := lv_entry ([.ref a0]) (n := 4) (Nat.le_of_ble_eq_true rfl)
  rw [lg_entry_eq]
  generalize (lg_sl ([.ref a0]) ++ List.replicate (4 - (lg_sl ([.ref a0])).length) Slot.unset).toArray = ls at hl ⊢
  have hl : lv_has ls 4 [(0, .ref a0)] := hl
  refine lv_lconst (v := 0) hx hb dX3_owed_0 (by decide) ?_
  refine lv_lstore_n (lv' := [(1, .long 0), (0, .ref a0)]) hx hb dX3_owed_1 rfl hl (by decide) rfl (fun ls hl => ?_)
  refine lv_iconst (v := 0) hx hb dX3_owed_2 (by decide) ?_
  refine lv_istore_n (lv' := [(3, .int 0), (1, .long 0), (0, .ref a0)]) hx hb dX3_owed_3 rfl hl (by decide) rfl (fun ls hl => ?_)
  refine lv_iload_n hx hb dX3_owed_4 rfl (lv_at hl 0 rfl) ?_
  refine lv_aload_n hx hb dX3_owed_5 rfl (lv_at hl 2 rfl) ?_
  refine va_get (D := G.1) (ci := 2) (v := .int 0) (C := RX3) (T := TX3) (N := 10) hx hb hts piX3 hown hK hP 0 rfl rfl 9 (by decide) (hts _ pm106) (fun _ h9 => h9) rfl dX3_owed_6 ?_
  refine lv_icmp_ge (tgt := 28) hx hb dX3_owed_9 (by decide) (fun _ => ?_) (fun h9 => absurd (by decide) h9)
  refine lv_lload_n hx hb dX3_owed_28 rfl (lv_at hl 1 rfl) ?_
  refine W.widen (k := 0) (n := 0) (Nat.le_of_ble_eq_true rfl) (Nat.le_of_ble_eq_true rfl) ?_
  exact W.lret (v := 0) hx hb hr (fun t ht hW => ⟨⟨0, (fun _ => 0), rfl, rfl, by rw [ht]; exact hP, hD⟩, hS.F ht⟩) hS.2.2 dX3_owed_29
set_option maxHeartbeats 4000000 in
set_option maxRecDepth 100000 in
theorem k215_X3_balance (l : Launch) (G : pxG) (sz : Nat) (a0 a1 a2 a3 a4 a5 a6 a7 a8 : Nat) (i0 : Int32) (h0 : 0 ≤ i0.toInt ∧ i0.toInt ≤ 8) : Met l yX3_balance (Cond.code yX3_balance cX3_balance 2 (some .long) :: pxAll) ({ frames := 1, cells := 0, slots := 0, locals := 23 } : Room) (va_Pc [.ref a0, .int i0] (pxPre G [(a0, .inr (2, [.ref a2, .ref a3, .ref a4, .ref a5, .ref a6, .ref a7, .ref a8, .ref a1, .int 0, .int 0])), (a1, .inl (G.2.1 1, 9, .inr (.inl (fun _ => 0))))] sz)) (pxQl G (fun r => r = 0) (fun q => [(a0, .inr (2, [.ref a2, .ref a3, .ref a4, .ref a5, .ref a6, .ref a7, .ref a8, .ref a1, .int 0, .int 0])), (a1, .inl (G.2.1 1, 9, .inr (.inl (fun _ => 0))))]) (va_A [(a0, .inr (2, [.ref a2, .ref a3, .ref a4, .ref a5, .ref a6, .ref a7, .ref a8, .ref a1, .int 0, .int 0])), (a1, .inl (G.2.1 1, 9, .inr (.inl (fun _ => 0))))] sz)) 0 0 (va_A [(a0, .inr (2, [.ref a2, .ref a3, .ref a4, .ref a5, .ref a6, .ref a7, .ref a8, .ref a1, .int 0, .int 0])), (a1, .inl (G.2.1 1, 9, .inr (.inl (fun _ => 0))))] sz) := by
  refine Met.ofW (cc := cX3_balance) (maxL := 2) (ret := (some .long)) (by decide) rfl ?_
  intro p e s m args below meth c s₁ B hml hv
  obtain ⟨rfl, hsz, hG, hZ, hP, hD0⟩ := hv
  have hx := B.exec
  have hb := B.bytes
  have hr := B.returns
  have hts0 := atoms_spec (ws := Cond.code yX3_balance cX3_balance 2 (some .long) :: pxAll) B.pre
  have hts : ∀ w ∈ pxAll, w.before _ s = true := fun w h => hts0 w (List.mem_cons_of_mem _ h)
  have hown : s.vm.findClass RX3 = some m.cls := findClass_of_methodNamed B.named
  have hlocks := B.notSynchronized
  subst hsz
  have hK := hG.1
  have hD := hD0.self (sz := s.heap.size)
  generalize hAe : va_A [(a0, .inr (2, [.ref a2, .ref a3, .ref a4, .ref a5, .ref a6, .ref a7, .ref a8, .ref a1, .int 0, .int 0])), (a1, .inl (G.2.1 1, 9, .inr (.inl (fun _ => 0))))] s.heap.size = A at hD hZ ⊢
  have hA : ∀ q : Nat, s.heap.size ≤ q → A q := fun q h => by rw [← hAe]; exact Or.inr h
  have hS : va_S A s.heap s.heap [] := va_S.rf
  have hl := lv_entry ([.ref a0, .int i0]) (n := 2) (Nat.le_of_ble_eq_true rfl)
  rw [lg_entry_eq]
  generalize (lg_sl ([.ref a0, .int i0]) ++ List.replicate (2 - (lg_sl ([.ref a0, .int i0])).length) Slot.unset).toArray = ls at hl ⊢
  have hl : lv_has ls 2 [(0, .ref a0), (1, .int i0)] := hl
  have r0 := pxRng i0
  refine lv_iload_n hx hb dX3_balance_0 rfl (lv_at hl 1 rfl) ?_
  refine lv_iconst (v := 1) hx hb dX3_balance_1 (by decide) ?_
  rcases Int.lt_or_le i0.toInt 1 with f1 | f1
  · skip
    obtain rfl : i0 = 0 := pxEq 0 (by have h9 : (0 : Int32).toInt = 0 := (by decide); omega)
    refine lv_icmp_ne (tgt := 12) hx hb dX3_balance_2 (by decide) (fun _ => ?_) (fun h9 => absurd h9 (by decide))
    refine lv_aload_n hx hb dX3_balance_12 rfl (lv_at hl 0 rfl) ?_
    refine va_get (D := G.1) (ci := 2) (v := .ref a1) (C := RX3) (T := TX3) (N := 10) hx hb hts piX3 hown hK hP 0 rfl rfl 7 (by decide) (hts _ pm20) (fun _ h9 => h9) rfl dX3_balance_13 ?_
    refine lv_iload_n hx hb dX3_balance_16 rfl (lv_at hl 1 rfl) ?_
    refine va_lald hx hb hK hP 1 1 rfl rfl (show ¬ ((0 : Int32) < 0 ∨ 9 ≤ (0 : Int32).toNatClampNeg) by decide +kernel) dX3_balance_17 ?_
    refine pxTop (w := .long 0) rfl ?_
    refine W.widen (k := 0) (n := 0) (Nat.le_of_ble_eq_true rfl) (Nat.le_of_ble_eq_true rfl) ?_
    exact W.lret (v := 0) hx hb hr (fun t ht hW => ⟨⟨0, (fun _ => 0), rfl, rfl, by rw [ht]; exact hP, hD⟩, hS.F ht⟩) hS.2.2 dX3_balance_18
  · skip
    rcases Int.lt_or_le i0.toInt 2 with f2 | f2
    · skip
      obtain rfl : i0 = 1 := pxEq 1 (by have h9 : (1 : Int32).toInt = 1 := (by decide); omega)
      refine lv_icmp_ne (tgt := 12) hx hb dX3_balance_2 (by decide) (fun h9 => absurd h9 (by decide)) (fun _ => ?_)
      refine lv_aload_n hx hb dX3_balance_5 rfl (lv_at hl 0 rfl) ?_
      refine pxCl' (va_runV (As := []) (rest := []) ⟨hx, hb, hml, hown, hts⟩ (k215_X3_owed l G s.heap.size a0 a2 a3 a4 a5 a6 a7 a8 a1) (cwV 0 hts (pxGV pm620 pm621 pm622 pm8 pm623) rfl rfl rfl (by decide +kernel) ⟨(Nat.le_of_ble_eq_true rfl), (Nat.le_of_ble_eq_true rfl)⟩) (pxV (ci := 2) (q0 := 0) hG hZ hP hD hS hA [0] rfl (by decide) rfl rfl) rfl rfl hl.1 rfl (lv_room (Nat.le_of_ble_eq_true rfl)) dX3_balance_6 ⟨(Nat.le_of_ble_eq_true rfl), (Nat.le_of_ble_eq_true rfl)⟩) hP hD hS hA [0] [1] rfl rfl (by decide) (by decide) (fun r2 q1 H locs hw hP hD hS => ?_)
      have hw : r2 = 0 := hw
      subst hw
      have hP : va_P G.1 pxCl [(a1, .inl (G.2.1 1, 9, .inr (.inl (fun _ => 0)))), (a0, .inr (2, [.ref a2, .ref a3, .ref a4, .ref a5, .ref a6, .ref a7, .ref a8, .ref a1, .int 0, .int 0]))] H := hP
      have hD : va_D A [(a1, .inl (G.2.1 1, 9, .inr (.inl (fun _ => 0)))), (a0, .inr (2, [.ref a2, .ref a3, .ref a4, .ref a5, .ref a6, .ref a7, .ref a8, .ref a1, .int 0, .int 0]))] := hD
      refine lv_goto (tgt := 18) hx hb dX3_balance_9 (by decide) ?_
      have hD : va_D A [(a0, .inr (2, [.ref a2, .ref a3, .ref a4, .ref a5, .ref a6, .ref a7, .ref a8, .ref a1, .int 0, .int 0])), (a1, .inl (G.2.1 1, 9, .inr (.inl (fun _ => 0))))] := hD.sub [1, 0] (by decide) rfl
      have hP : va_P G.1 pxCl [(a0, .inr (2, [.ref a2, .ref a3, .ref a4, .ref a5, .ref a6, .ref a7, .ref a8, .ref a1, .int 0, .int 0])), (a1, .inl (G.2.1 1, 9, .inr (.inl (fun _ => 0))))] H := hP.sub [1, 0] rfl
      refine W.widen (k := 0) (n := 0) (Nat.le_of_ble_eq_true rfl) (Nat.le_of_ble_eq_true rfl) ?_
      exact W.lret (v := 0) hx hb hr (fun t ht hW => ⟨⟨0, (fun _ => 0), rfl, rfl, by rw [ht]; exact hP, hD⟩, hS.F ht⟩) hS.2.2 dX3_balance_18
    · skip
      refine lv_icmp_ne (tgt := 12) hx hb dX3_balance_2 (by decide) (fun _ => ?_) (fun h9 => absurd h9 (pxNe 1 (by decide) (by omega)))
      refine lv_aload_n hx hb dX3_balance_12 rfl (lv_at hl 0 rfl) ?_
      refine va_get (D := G.1) (ci := 2) (v := .ref a1) (C := RX3) (T := TX3) (N := 10) hx hb hts piX3 hown hK hP 0 rfl rfl 7 (by decide) (hts _ pm20) (fun _ h9 => h9) rfl dX3_balance_13 ?_
      refine lv_iload_n hx hb dX3_balance_16 rfl (lv_at hl 1 rfl) ?_
      refine va_lald hx hb hK hP 1 1 rfl rfl (vp_in_iff.mpr ⟨by omega, by omega⟩) dX3_balance_17 ?_
      refine pxTop (w := .long 0) rfl ?_
      refine W.widen (k := 0) (n := 0) (Nat.le_of_ble_eq_true rfl) (Nat.le_of_ble_eq_true rfl) ?_
      exact W.lret (v := 0) hx hb hr (fun t ht hW => ⟨⟨0, (fun _ => 0), rfl, rfl, by rw [ht]; exact hP, hD⟩, hS.F ht⟩) hS.2.2 dX3_balance_18
set_option maxHeartbeats 4000000 in
set_option maxRecDepth 100000 in
theorem k215_X6_account (l : Launch) (G : pxG) (sz : Nat) (a0 a1 a2 a3 a4 a5 a6 a7 a8 a9 a10 a11 a12 a13 : Nat) (i0 : Int32) (h0 : 0 ≤ i0.toInt ∧ i0.toInt ≤ 8) : Met l yX6_account (Cond.code yX6_account cX6_account 2 (some .long) :: pxAll) ({ frames := 2, cells := 0, slots := 0, locals := 44 } : Room) (va_Pc [.ref a0, .int i0] (pxPre G [(a0, .inr (5, [.ref a1, .ref a3, .ref a4, .ref a5, .ref a6, .int 0, .int 0, .int (-1)])), (a1, .inr (2, [.ref a7, .ref a8, .ref a9, .ref a10, .ref a11, .ref a12, .ref a13, .ref a2, .int 0, .int 0])), (a2, .inl (G.2.1 1, 9, .inr (.inl (fun _ => 0))))] sz)) (pxQl G (fun r => r = 0) (fun q => []) (va_A [(a0, .inr (5, [.ref a1, .ref a3, .ref a4, .ref a5, .ref a6, .int 0, .int 0, .int (-1)])), (a1, .inr (2, [.ref a7, .ref a8, .ref a9, .ref a10, .ref a11, .ref a12, .ref a13, .ref a2, .int 0, .int 0])), (a2, .inl (G.2.1 1, 9, .inr (.inl (fun _ => 0))))] sz)) 0 0 (va_A [(a0, .inr (5, [.ref a1, .ref a3, .ref a4, .ref a5, .ref a6, .int 0, .int 0, .int (-1)])), (a1, .inr (2, [.ref a7, .ref a8, .ref a9, .ref a10, .ref a11, .ref a12, .ref a13, .ref a2, .int 0, .int 0])), (a2, .inl (G.2.1 1, 9, .inr (.inl (fun _ => 0))))] sz) := by
  refine Met.ofW (cc := cX6_account) (maxL := 2) (ret := (some .long)) (by decide) rfl ?_
  intro p e s m args below meth c s₁ B hml hv
  obtain ⟨rfl, hsz, hG, hZ, hP, hD0⟩ := hv
  have hx := B.exec
  have hb := B.bytes
  have hr := B.returns
  have hts0 := atoms_spec (ws := Cond.code yX6_account cX6_account 2 (some .long) :: pxAll) B.pre
  have hts : ∀ w ∈ pxAll, w.before _ s = true := fun w h => hts0 w (List.mem_cons_of_mem _ h)
  have hown : s.vm.findClass RX6 = some m.cls := findClass_of_methodNamed B.named
  have hlocks := B.notSynchronized
  subst hsz
  have hK := hG.1
  have hD := hD0.self (sz := s.heap.size)
  generalize hAe : va_A [(a0, .inr (5, [.ref a1, .ref a3, .ref a4, .ref a5, .ref a6, .int 0, .int 0, .int (-1)])), (a1, .inr (2, [.ref a7, .ref a8, .ref a9, .ref a10, .ref a11, .ref a12, .ref a13, .ref a2, .int 0, .int 0])), (a2, .inl (G.2.1 1, 9, .inr (.inl (fun _ => 0))))] s.heap.size = A at hD hZ ⊢
  have hA : ∀ q : Nat, s.heap.size ≤ q → A q := fun q h => by rw [← hAe]; exact Or.inr h
  have hS : va_S A s.heap s.heap [] := va_S.rf
  have hl := lv_entry ([.ref a0, .int i0]) (n := 2) (Nat.le_of_ble_eq_true rfl)
  rw [lg_entry_eq]
  generalize (lg_sl ([.ref a0, .int i0]) ++ List.replicate (2 - (lg_sl ([.ref a0, .int i0])).length) Slot.unset).toArray = ls at hl ⊢
  have hl : lv_has ls 2 [(0, .ref a0), (1, .int i0)] := hl
  refine lv_iload_n hx hb dX6_account_0 rfl (lv_at hl 1 rfl) ?_
  refine lv_if_lt (tgt := 10) hx hb dX6_account_1 (by decide) (fun h9 => absurd h9 (pxNlt 0 (by decide) (by omega))) (fun _ => ?_)
  refine lv_iload_n hx hb dX6_account_4 rfl (lv_at hl 1 rfl) ?_
  refine lv_bipush (v := 9) hx hb dX6_account_5 (by decide) ?_
  refine lv_icmp_lt (tgt := 21) hx hb dX6_account_7 (by decide) (fun _ => ?_) (fun h9 => absurd (pxLt 9 (by decide) (by omega)) h9)
  refine lv_aload_n hx hb dX6_account_21 rfl (lv_at hl 0 rfl) ?_
  refine va_get (D := G.1) (ci := 5) (v := .ref a1) (C := RX6) (T := TX6) (N := 8) hx hb hts piX6 hown hK hP 0 rfl rfl 0 (by decide) (hts _ pm32) (fun _ h9 => h9) rfl dX6_account_22 ?_
  refine lv_iload_n hx hb dX6_account_25 rfl (lv_at hl 1 rfl) ?_
  refine pxCl' (va_runV (As := [.int i0]) (rest := []) ⟨hx, hb, hml, hown, hts⟩ (k215_X3_balance l G s.heap.size a1 a2 a7 a8 a9 a10 a11 a12 a13 i0 ⟨by omega, by omega⟩) (cwV 1 hts (pxGV pm624 pm625 pm626 pm8 pm627) rfl rfl rfl (by decide +kernel) ⟨(Nat.le_of_ble_eq_true rfl), (Nat.le_of_ble_eq_true rfl)⟩) (pxV (ci := 2) (q0 := 1) hG hZ hP hD hS hA [1, 2] rfl (by decide) rfl rfl) rfl rfl hl.1 rfl (lv_room (Nat.le_of_ble_eq_true rfl)) dX6_account_26 ⟨(Nat.le_of_ble_eq_true rfl), (Nat.le_of_ble_eq_true rfl)⟩) hP hD hS hA [1, 2] [0] rfl rfl (by decide) (by decide) (fun r2 q1 H locs hw hP hD hS => ?_)
  have hw : r2 = 0 := hw
  subst hw
  have hP : va_P G.1 pxCl [(a0, .inr (5, [.ref a1, .ref a3, .ref a4, .ref a5, .ref a6, .int 0, .int 0, .int (-1)])), (a1, .inr (2, [.ref a7, .ref a8, .ref a9, .ref a10, .ref a11, .ref a12, .ref a13, .ref a2, .int 0, .int 0])), (a2, .inl (G.2.1 1, 9, .inr (.inl (fun _ => 0))))] H := hP
  have hD : va_D A [(a0, .inr (5, [.ref a1, .ref a3, .ref a4, .ref a5, .ref a6, .int 0, .int 0, .int (-1)])), (a1, .inr (2, [.ref a7, .ref a8, .ref a9, .ref a10, .ref a11, .ref a12, .ref a13, .ref a2, .int 0, .int 0])), (a2, .inl (G.2.1 1, 9, .inr (.inl (fun _ => 0))))] := hD
  have hD : va_D A [] := hD.sub [] (by decide) rfl
  have hP : va_P G.1 pxCl [] H := hP.sub [] rfl
  refine W.widen (k := 0) (n := 0) (Nat.le_of_ble_eq_true rfl) (Nat.le_of_ble_eq_true rfl) ?_
  exact W.lret (v := 0) hx hb hr (fun t ht hW => ⟨⟨0, (fun _ => 0), rfl, rfl, by rw [ht]; exact hP, hD⟩, hS.F ht⟩) hS.2.2 dX6_account_29
set_option maxHeartbeats 4000000 in
set_option maxRecDepth 100000 in
theorem k215_L_account (l : Launch) (G : pxG) (sz : Nat) (a0 a1 a2 a3 a4 a5 a6 a7 a8 a9 a10 a11 a12 a13 a14 : Nat) (i0 : Int32) (h0 : 0 ≤ i0.toInt ∧ i0.toInt ≤ 8) : Met l yL_account (Cond.codeWith yL_account cL_account 4 (some .int) [(0, 8, 11, 51)] :: pxAll) ({ frames := 3, cells := 0, slots := 0, locals := 65 } : Room) (va_Pc [.ref a0, .int i0, .ref a3] (pxPre G [(a0, .inr (5, [.ref a1, .ref a4, .ref a5, .ref a6, .ref a7, .int 0, .int 0, .int (-1)])), (a1, .inr (2, [.ref a8, .ref a9, .ref a10, .ref a11, .ref a12, .ref a13, .ref a14, .ref a2, .int 0, .int 0])), (a2, .inl (G.2.1 1, 9, .inr (.inl (fun _ => 0)))), (a3, .inl (G.2.1 1, 1, .inr (.inl (fun _ => 0))))] sz)) (pxQi G (fun r => r = 0) (fun q => [(a3, .inl (G.2.1 1, 1, .inr (.inl (vp_updL (fun _ => 0) 0 0))))]) (va_A [(a0, .inr (5, [.ref a1, .ref a4, .ref a5, .ref a6, .ref a7, .int 0, .int 0, .int (-1)])), (a1, .inr (2, [.ref a8, .ref a9, .ref a10, .ref a11, .ref a12, .ref a13, .ref a14, .ref a2, .int 0, .int 0])), (a2, .inl (G.2.1 1, 9, .inr (.inl (fun _ => 0)))), (a3, .inl (G.2.1 1, 1, .inr (.inl (fun _ => 0))))] sz)) 0 0 (va_A [(a0, .inr (5, [.ref a1, .ref a4, .ref a5, .ref a6, .ref a7, .int 0, .int 0, .int (-1)])), (a1, .inr (2, [.ref a8, .ref a9, .ref a10, .ref a11, .ref a12, .ref a13, .ref a14, .ref a2, .int 0, .int 0])), (a2, .inl (G.2.1 1, 9, .inr (.inl (fun _ => 0)))), (a3, .inl (G.2.1 1, 1, .inr (.inl (fun _ => 0))))] sz) := by
  refine va_MetW (cc := cL_account) (maxL := 4) (ret := (some .int)) (hh := [(0, 8, 11, 51)]) (by decide) rfl ?_
  intro p e s m args below meth c s₁ B hml hv
  obtain ⟨rfl, hsz, hG, hZ, hP, hD0⟩ := hv
  have hx := B.exec
  have hb := B.bytes
  have hr := B.returns
  have hts0 := atoms_spec (ws := Cond.codeWith yL_account cL_account 4 (some .int) [(0, 8, 11, 51)] :: pxAll) B.pre
  have hts : ∀ w ∈ pxAll, w.before _ s = true := fun w h => hts0 w (List.mem_cons_of_mem _ h)
  have hown : s.vm.findClass RL = some m.cls := findClass_of_methodNamed B.named
  have hlocks := B.notSynchronized
  have hTab := vx_table (x := yL_account) B (hts0 _ List.mem_cons_self)
  subst hsz
  have hK := hG.1
  have hD := hD0.self (sz := s.heap.size)
  generalize hAe : va_A [(a0, .inr (5, [.ref a1, .ref a4, .ref a5, .ref a6, .ref a7, .int 0, .int 0, .int (-1)])), (a1, .inr (2, [.ref a8, .ref a9, .ref a10, .ref a11, .ref a12, .ref a13, .ref a14, .ref a2, .int 0, .int 0])), (a2, .inl (G.2.1 1, 9, .inr (.inl (fun _ => 0)))), (a3, .inl (G.2.1 1, 1, .inr (.inl (fun _ => 0))))] s.heap.size = A at hD hZ ⊢
  have hA : ∀ q : Nat, s.heap.size ≤ q → A q := fun q h => by rw [← hAe]; exact Or.inr h
  have hS : va_S A s.heap s.heap [] := va_S.rf
  have hl := lv_entry ([.ref a0, .int i0, .ref a3]) (n := 4) (Nat.le_of_ble_eq_true rfl)
  rw [lg_entry_eq]
  generalize (lg_sl ([.ref a0, .int i0, .ref a3]) ++ List.replicate (4 - (lg_sl ([.ref a0, .int i0, .ref a3])).length) Slot.unset).toArray = ls at hl ⊢
  have hl : lv_has ls 4 [(0, .ref a0), (1, .int i0), (2, .ref a3)] := hl
  refine lv_aload_n hx hb dL_account_0 rfl (lv_at hl 2 rfl) ?_
  refine lv_iconst (v := 0) hx hb dL_account_1 (by decide) ?_
  refine lv_aload_n hx hb dL_account_2 rfl (lv_at hl 0 rfl) ?_
  refine lv_iload_n hx hb dL_account_3 rfl (lv_at hl 1 rfl) ?_
  refine pxCl' (va_runV (As := [.int i0]) (rest := [.int 0, .ref a3]) ⟨hx, hb, hml, hown, hts⟩ (k215_X6_account l G s.heap.size a0 a1 a2 a4 a5 a6 a7 a8 a9 a10 a11 a12 a13 a14 i0 ⟨by omega, by omega⟩) (cwV 1 hts (pxGV pm609 pm610 pm611 pm2 pm612) rfl rfl rfl (by decide +kernel) ⟨(Nat.le_of_ble_eq_true rfl), (Nat.le_of_ble_eq_true rfl)⟩) (pxV (ci := 5) (q0 := 0) hG hZ hP hD hS hA [0, 1, 2] rfl (by decide) rfl rfl) rfl rfl hl.1 rfl (lv_room (Nat.le_of_ble_eq_true rfl)) dL_account_4 ⟨(Nat.le_of_ble_eq_true rfl), (Nat.le_of_ble_eq_true rfl)⟩) hP hD hS hA [0, 1, 2] [3] rfl rfl (by decide) (by decide) (fun r2 q1 H locs hw hP hD hS => ?_)
  have hw : r2 = 0 := hw
  subst hw
  have hP : va_P G.1 pxCl [(a3, .inl (G.2.1 1, 1, .inr (.inl (fun _ => 0))))] H := hP
  have hD : va_D A [(a3, .inl (G.2.1 1, 1, .inr (.inl (fun _ => 0))))] := hD
  refine va_last hx hb hK hP hD hS 0 1 rfl rfl (show ¬ ((0 : Int32) < 0 ∨ 1 ≤ (0 : Int32).toNatClampNeg) by decide +kernel) dL_account_7 (fun H locs hP hD hS => ?_)
  have hP : va_P G.1 pxCl [(a3, .inl (G.2.1 1, 1, .inr (.inl (vp_updL (fun _ => 0) 0 0))))] H := hP
  have hD : va_D A [(a3, .inl (G.2.1 1, 1, .inr (.inl (vp_updL (fun _ => 0) 0 0))))] := hD
  refine lv_goto (tgt := 14) hx hb dL_account_8 (by decide) ?_
  refine lv_iconst (v := 0) hx hb dL_account_14 (by decide) ?_
  refine W.widen (k := 0) (n := 0) (Nat.le_of_ble_eq_true rfl) (Nat.le_of_ble_eq_true rfl) ?_
  exact W.iret (v := 0) hx hb hr (fun t ht hW => ⟨⟨0, (fun _ => 0), rfl, rfl, by rw [ht]; exact hP, hD⟩, hS.F ht⟩) hS.2.2 dL_account_15
set_option maxHeartbeats 4000000 in
set_option maxRecDepth 100000 in
theorem k219_X7_in (l : Launch) (G : pxG) (sz : Nat) (i0 : Int32) (h0 : 0 ≤ i0.toInt ∧ i0.toInt ≤ 8) : Met l yX7_in (Cond.code yX7_in cX7_in 3 (some .boolean) :: pxAll) ({ frames := 0, cells := 0, slots := 0, locals := 0 } : Room) (va_Pc [.int i0, .int 0, .int 8] (pxPre G [] sz)) (pxQi G (fun r => r = 1) (fun q => []) (va_A [] sz)) 0 0 (va_A [] sz) := by
  refine Met.ofW (cc := cX7_in) (maxL := 3) (ret := (some .boolean)) (by decide) rfl ?_
  intro p e s m args below meth c s₁ B hml hv
  obtain ⟨rfl, hsz, hG, hZ, hP, hD0⟩ := hv
  have hx := B.exec
  have hb := B.bytes
  have hr := B.returns
  have hts0 := atoms_spec (ws := Cond.code yX7_in cX7_in 3 (some .boolean) :: pxAll) B.pre
  have hts : ∀ w ∈ pxAll, w.before _ s = true := fun w h => hts0 w (List.mem_cons_of_mem _ h)
  have hown : s.vm.findClass RX7 = some m.cls := findClass_of_methodNamed B.named
  have hlocks := B.notSynchronized
  subst hsz
  have hK := hG.1
  have hD := hD0.self (sz := s.heap.size)
  generalize hAe : va_A [] s.heap.size = A at hD hZ ⊢
  have hA : ∀ q : Nat, s.heap.size ≤ q → A q := fun q h => by rw [← hAe]; exact Or.inr h
  have hS : va_S A s.heap s.heap [] := va_S.rf
  have hl := lv_entry ([.int i0, .int 0, .int 8]) (n := 3) (Nat.le_of_ble_eq_true rfl)
  rw [lg_entry_eq]
  generalize (lg_sl ([.int i0, .int 0, .int 8]) ++ List.replicate (3 - (lg_sl ([.int i0, .int 0, .int 8])).length) Slot.unset).toArray = ls at hl ⊢
  have hl : lv_has ls 3 [(0, .int i0), (1, .int 0), (2, .int 8)] := hl
  refine lv_iload_n hx hb dX7_in_0 rfl (lv_at hl 0 rfl) ?_
  refine lv_iload_n hx hb dX7_in_1 rfl (lv_at hl 1 rfl) ?_
  refine lv_icmp_lt (tgt := 14) hx hb dX7_in_2 (by decide) (fun h9 => absurd h9 (pxNlt 0 (by decide) (by omega))) (fun _ => ?_)
  refine lv_iload_n hx hb dX7_in_5 rfl (lv_at hl 0 rfl) ?_
  refine lv_iload_n hx hb dX7_in_6 rfl (lv_at hl 2 rfl) ?_
  refine lv_icmp_gt (tgt := 14) hx hb dX7_in_7 (by decide) (fun h9 => absurd h9 (pxNlt2 8 (by decide) (by omega))) (fun _ => ?_)
  refine lv_iconst (v := 1) hx hb dX7_in_10 (by decide) ?_
  refine lv_goto (tgt := 15) hx hb dX7_in_11 (by decide) ?_
  refine W.widen (k := 0) (n := 0) (Nat.le_of_ble_eq_true rfl) (Nat.le_of_ble_eq_true rfl) ?_
  exact W.zret (ty := .boolean) (v := 1) hx hb hr rfl (fun t ht hW => ⟨⟨1, (fun _ => 0), rfl, rfl, by rw [ht]; exact hP, hD⟩, hS.F ht⟩) hS.2.2 dX7_in_15
set_option maxHeartbeats 4000000 in
set_option maxRecDepth 100000 in
theorem k220_X7_debts (l : Launch) (G : pxG) (sz : Nat) (a0 a1 a2 a3 a4 a5 a6 a7 a8 a9 a10 a11 : Nat) : Met l yX7_debts (Cond.code yX7_debts cX7_debts 3 (some .int) :: pxAll) ({ frames := 0, cells := 0, slots := 0, locals := 0 } : Room) (va_Pc [.ref a0] (pxPre G [(a0, .inr (6, [.ref a1, .ref a2, .ref a3, .int 0, .ref a4, .int 0, .int 0, .int 0, .int 0, .ref a5, .int 0, .ref a6, .int 0, .int 0, .int 0, .int (-1), .ref a7, .ref a8, .int 0, .ref a9, .ref a10, .ref a11])), (a1, .inl (G.2.1 0, 4891, .inl (fun _ => 0)))] sz)) (pxQi G (fun r => r = 0) (fun q => [(a0, .inr (6, [.ref a1, .ref a2, .ref a3, .int 0, .ref a4, .int 0, .int 0, .int 0, .int 0, .ref a5, .int 0, .ref a6, .int 0, .int 0, .int 0, .int (-1), .ref a7, .ref a8, .int 0, .ref a9, .ref a10, .ref a11])), (a1, .inl (G.2.1 0, 4891, .inl (fun _ => 0)))]) (va_A [(a0, .inr (6, [.ref a1, .ref a2, .ref a3, .int 0, .ref a4, .int 0, .int 0, .int 0, .int 0, .ref a5, .int 0, .ref a6, .int 0, .int 0, .int 0, .int (-1), .ref a7, .ref a8, .int 0, .ref a9, .ref a10, .ref a11])), (a1, .inl (G.2.1 0, 4891, .inl (fun _ => 0)))] sz)) 0 0 (va_A [(a0, .inr (6, [.ref a1, .ref a2, .ref a3, .int 0, .ref a4, .int 0, .int 0, .int 0, .int 0, .ref a5, .int 0, .ref a6, .int 0, .int 0, .int 0, .int (-1), .ref a7, .ref a8, .int 0, .ref a9, .ref a10, .ref a11])), (a1, .inl (G.2.1 0, 4891, .inl (fun _ => 0)))] sz) := by
  refine Met.ofW (cc := cX7_debts) (maxL := 3) (ret := (some .int)) (by decide) rfl ?_
  intro p e s m args below meth c s₁ B hml hv
  obtain ⟨rfl, hsz, hG, hZ, hP, hD0⟩ := hv
  have hx := B.exec
  have hb := B.bytes
  have hr := B.returns
  have hts0 := atoms_spec (ws := Cond.code yX7_debts cX7_debts 3 (some .int) :: pxAll) B.pre
  have hts : ∀ w ∈ pxAll, w.before _ s = true := fun w h => hts0 w (List.mem_cons_of_mem _ h)
  have hown : s.vm.findClass RX7 = some m.cls := findClass_of_methodNamed B.named
  have hlocks := B.notSynchronized
  subst hsz
  have hK := hG.1
  have hD := hD0.self (sz := s.heap.size)
  generalize hAe : va_A [(a0, .inr (6, [.ref a1, .ref a2, .ref a3, .int 0, .ref a4, .int 0, .int 0, .int 0, .int 0, .ref a5, .int 0, .ref a6, .int 0, .int 0, .int 0, .int (-1), .ref a7, .ref a8, .int 0, .ref a9, .ref a10, .ref a11])), (a1, .inl (G.2.1 0, 4891, .inl (fun _ => 0)))] s.heap.size = A at hD hZ ⊢
  have hA : ∀ q : Nat, s.heap.size ≤ q → A q := fun q h => by rw [← hAe]; exact Or.inr h
  have hS : va_S A s.heap s.heap [] := va_S.rf
  have hl := lv_entry ([.ref a0]) (n := 3) (Nat.le_of_ble_eq_true rfl)
  rw [lg_entry_eq]
  generalize (lg_sl ([.ref a0]) ++ List.replicate (3 - (lg_sl ([.ref a0])).length) Slot.unset).toArray = ls at hl ⊢
  have hl : lv_has ls 3 [(0, .ref a0)] := hl
  refine lv_iconst (v := 0) hx hb dX7_debts_0 (by decide) ?_
  refine lv_istore_n (lv' := [(1, .int 0), (0, .ref a0)]) hx hb dX7_debts_1 rfl hl (by decide) rfl (fun ls hl => ?_)
  refine lv_iconst (v := 0) hx hb dX7_debts_2 (by decide) ?_
  refine lv_istore_n (lv' := [(2, .int 0), (1, .int 0), (0, .ref a0)]) hx hb dX7_debts_3 rfl hl (by decide) rfl (fun ls hl => ?_)
  refine lv_iload_n hx hb dX7_debts_4 rfl (lv_at hl 0 rfl) ?_
  refine lv_aload_n hx hb dX7_debts_5 rfl (lv_at hl 2 rfl) ?_
  refine va_get (D := G.1) (ci := 6) (v := .ref a1) (C := RX7) (T := TX7) (N := 22) hx hb hts piX7 hown hK hP 0 rfl rfl 0 (by decide) (hts _ pm73) (fun _ h9 => h9) rfl dX7_debts_6 ?_
  refine lv_iconst (v := 1) hx hb dX7_debts_9 (by decide) ?_
  refine va_iald hx hb hK hP 1 0 rfl rfl (show ¬ ((1 : Int32) < 0 ∨ 4891 ≤ (1 : Int32).toNatClampNeg) by decide +kernel) dX7_debts_10 ?_
  refine pxTop (w := .int 0) rfl ?_
  refine lv_icmp_ge (tgt := 28) hx hb dX7_debts_11 (by decide) (fun _ => ?_) (fun h9 => absurd (by decide) h9)
  refine lv_iload_n hx hb dX7_debts_28 rfl (lv_at hl 1 rfl) ?_
  refine W.widen (k := 0) (n := 0) (Nat.le_of_ble_eq_true rfl) (Nat.le_of_ble_eq_true rfl) ?_
  exact W.iret (v := 0) hx hb hr (fun t ht hW => ⟨⟨0, (fun _ => 0), rfl, rfl, by rw [ht]; exact hP, hD⟩, hS.F ht⟩) hS.2.2 dX7_debts_29
set_option maxHeartbeats 4000000 in
set_option maxRecDepth 100000 in
theorem k219_X7_account (l : Launch) (G : pxG) (sz : Nat) (a0 a1 a2 a3 a4 a5 a6 a7 a8 a9 a10 a11 : Nat) (i0 : Int32) (h0 : 0 ≤ i0.toInt ∧ i0.toInt ≤ 8) : Met l yX7_account (Cond.code yX7_account cX7_account 2 (some .long) :: pxAll) ({ frames := 1, cells := 0, slots := 0, locals := 22 } : Room) (va_Pc [.ref a0, .int i0] (pxPre G [(a0, .inr (6, [.ref a1, .ref a2, .ref a3, .int 0, .ref a4, .int 0, .int 0, .int 0, .int 0, .ref a5, .int 0, .ref a6, .int 0, .int 0, .int 0, .int (-1), .ref a7, .ref a8, .int 0, .ref a9, .ref a10, .ref a11])), (a1, .inl (G.2.1 0, 4891, .inl (fun _ => 0)))] sz)) (pxQl G (fun r => r = 0) (fun q => [(a0, .inr (6, [.ref a1, .ref a2, .ref a3, .int 0, .ref a4, .int 0, .int 0, .int 0, .int 0, .ref a5, .int 0, .ref a6, .int 0, .int 0, .int 0, .int (-1), .ref a7, .ref a8, .int 0, .ref a9, .ref a10, .ref a11]))]) (va_A [(a0, .inr (6, [.ref a1, .ref a2, .ref a3, .int 0, .ref a4, .int 0, .int 0, .int 0, .int 0, .ref a5, .int 0, .ref a6, .int 0, .int 0, .int 0, .int (-1), .ref a7, .ref a8, .int 0, .ref a9, .ref a10, .ref a11])), (a1, .inl (G.2.1 0, 4891, .inl (fun _ => 0)))] sz)) 0 0 (va_A [(a0, .inr (6, [.ref a1, .ref a2, .ref a3, .int 0, .ref a4, .int 0, .int 0, .int 0, .int 0, .ref a5, .int 0, .ref a6, .int 0, .int 0, .int 0, .int (-1), .ref a7, .ref a8, .int 0, .ref a9, .ref a10, .ref a11])), (a1, .inl (G.2.1 0, 4891, .inl (fun _ => 0)))] sz) := by
  refine Met.ofW (cc := cX7_account) (maxL := 2) (ret := (some .long)) (by decide) rfl ?_
  intro p e s m args below meth c s₁ B hml hv
  obtain ⟨rfl, hsz, hG, hZ, hP, hD0⟩ := hv
  have hx := B.exec
  have hb := B.bytes
  have hr := B.returns
  have hts0 := atoms_spec (ws := Cond.code yX7_account cX7_account 2 (some .long) :: pxAll) B.pre
  have hts : ∀ w ∈ pxAll, w.before _ s = true := fun w h => hts0 w (List.mem_cons_of_mem _ h)
  have hown : s.vm.findClass RX7 = some m.cls := findClass_of_methodNamed B.named
  have hlocks := B.notSynchronized
  subst hsz
  have hK := hG.1
  have hD := hD0.self (sz := s.heap.size)
  generalize hAe : va_A [(a0, .inr (6, [.ref a1, .ref a2, .ref a3, .int 0, .ref a4, .int 0, .int 0, .int 0, .int 0, .ref a5, .int 0, .ref a6, .int 0, .int 0, .int 0, .int (-1), .ref a7, .ref a8, .int 0, .ref a9, .ref a10, .ref a11])), (a1, .inl (G.2.1 0, 4891, .inl (fun _ => 0)))] s.heap.size = A at hD hZ ⊢
  have hA : ∀ q : Nat, s.heap.size ≤ q → A q := fun q h => by rw [← hAe]; exact Or.inr h
  have hS : va_S A s.heap s.heap [] := va_S.rf
  have hl := lv_entry ([.ref a0, .int i0]) (n := 2) (Nat.le_of_ble_eq_true rfl)
  rw [lg_entry_eq]
  generalize (lg_sl ([.ref a0, .int i0]) ++ List.replicate (2 - (lg_sl ([.ref a0, .int i0])).length) Slot.unset).toArray = ls at hl ⊢
  have hl : lv_has ls 2 [(0, .ref a0), (1, .int i0)] := hl
  have r0 := pxRng i0
  refine lv_aload_n hx hb dX7_account_0 rfl (lv_at hl 0 rfl) ?_
  refine lv_iload_n hx hb dX7_account_1 rfl (lv_at hl 1 rfl) ?_
  refine lv_iconst (v := 0) hx hb dX7_account_2 (by decide) ?_
  refine lv_bipush (v := 8) hx hb dX7_account_3 (by decide) ?_
  refine pxCi (va_runS (As := [.int i0, .int 0, .int 8]) (rest := [.ref a0]) ⟨hx, hb, hml, hown, hts⟩ (k219_X7_in l G s.heap.size i0 ⟨by omega, by omega⟩) (va_cwS 3 hts (pxGS pm143 pm144 pm71 pm145) rfl rfl rfl (by decide +kernel) ⟨(Nat.le_of_ble_eq_true rfl), (Nat.le_of_ble_eq_true rfl)⟩) (pxS hG hZ hP hD hS hA [] rfl (by decide)) rfl rfl hl.1 rfl (lv_room (Nat.le_of_ble_eq_true rfl)) dX7_account_5 ⟨(Nat.le_of_ble_eq_true rfl), (Nat.le_of_ble_eq_true rfl)⟩) hP hD hS hA [] [0, 1] rfl rfl (by decide) (by decide) (fun r2 q1 H locs hw hP hD hS => ?_)
  have hw : r2 = 1 := hw
  subst hw
  have hP : va_P G.1 pxCl [(a0, .inr (6, [.ref a1, .ref a2, .ref a3, .int 0, .ref a4, .int 0, .int 0, .int 0, .int 0, .ref a5, .int 0, .ref a6, .int 0, .int 0, .int 0, .int (-1), .ref a7, .ref a8, .int 0, .ref a9, .ref a10, .ref a11])), (a1, .inl (G.2.1 0, 4891, .inl (fun _ => 0)))] H := hP
  have hD : va_D A [(a0, .inr (6, [.ref a1, .ref a2, .ref a3, .int 0, .ref a4, .int 0, .int 0, .int 0, .int 0, .ref a5, .int 0, .ref a6, .int 0, .int 0, .int 0, .int (-1), .ref a7, .ref a8, .int 0, .ref a9, .ref a10, .ref a11])), (a1, .inl (G.2.1 0, 4891, .inl (fun _ => 0)))] := hD
  refine lv_if_eq (tgt := 15) hx hb dX7_account_8 (by decide) (fun h9 => absurd h9 (by decide)) (fun _ => ?_)
  refine lv_iconst (v := 0) hx hb dX7_account_11 (by decide) ?_
  refine lv_goto (tgt := 16) hx hb dX7_account_12 (by decide) ?_
  refine va_put (D := G.1) (ci := 6) (v := .int 0) (ty := .int) (C := RX7) (T := TX7) (N := 22) hx hb hts piX7 tyX7 tyX7_ok nmX7 hown hK hP hD hS 0 rfl rfl 7 (by decide) (hts _ pm150) (fun _ h9 => h9) rfl (by decide +kernel) rfl rfl (Nat.le_of_ble_eq_true rfl) dX7_account_16 (fun H locs hP hD hS => ?_)
  have hP : va_P G.1 pxCl [(a0, .inr (6, [.ref a1, .ref a2, .ref a3, .int 0, .ref a4, .int 0, .int 0, .int 0, .int 0, .ref a5, .int 0, .ref a6, .int 0, .int 0, .int 0, .int (-1), .ref a7, .ref a8, .int 0, .ref a9, .ref a10, .ref a11])), (a1, .inl (G.2.1 0, 4891, .inl (fun _ => 0)))] H := hP
  have hD : va_D A [(a0, .inr (6, [.ref a1, .ref a2, .ref a3, .int 0, .ref a4, .int 0, .int 0, .int 0, .int 0, .ref a5, .int 0, .ref a6, .int 0, .int 0, .int 0, .int (-1), .ref a7, .ref a8, .int 0, .ref a9, .ref a10, .ref a11])), (a1, .inl (G.2.1 0, 4891, .inl (fun _ => 0)))] := hD
  refine lv_aload_n hx hb dX7_account_19 rfl (lv_at hl 0 rfl) ?_
  refine va_get (D := G.1) (ci := 6) (v := .int 0) (C := RX7) (T := TX7) (N := 22) hx hb hts piX7 hown hK hP 0 rfl rfl 7 (by decide) (hts _ pm150) (fun _ h9 => h9) rfl dX7_account_20 ?_
  refine lv_if_le (tgt := 30) hx hb dX7_account_23 (by decide) (fun _ => ?_) (fun h9 => absurd (by decide) h9)
  refine lv_iload_n hx hb dX7_account_30 rfl (lv_at hl 1 rfl) ?_
  refine lv_iconst (v := 1) hx hb dX7_account_31 (by decide) ?_
  rcases Int.lt_or_le i0.toInt 1 with f1 | f1
  · skip
    obtain rfl : i0 = 0 := pxEq 0 (by have h9 : (0 : Int32).toInt = 0 := (by decide); omega)
    refine lv_icmp_ne (tgt := 43) hx hb dX7_account_32 (by decide) (fun _ => ?_) (fun h9 => absurd h9 (by decide))
    refine lv_aload_n hx hb dX7_account_43 rfl (lv_at hl 0 rfl) ?_
    refine va_get (D := G.1) (ci := 6) (v := .ref a1) (C := RX7) (T := TX7) (N := 22) hx hb hts piX7 hown hK hP 0 rfl rfl 0 (by decide) (hts _ pm73) (fun _ h9 => h9) rfl dX7_account_44 ?_
    refine lv_iconst (v := 2) hx hb dX7_account_47 (by decide) ?_
    refine lv_iload_n hx hb dX7_account_48 rfl (lv_at hl 1 rfl) ?_
    refine lv_iadd hx hb dX7_account_49 ?_
    refine pxTop (w := .int 2) (congrArg Value.int (by decide)) ?_
    refine va_iald hx hb hK hP 1 0 rfl rfl (show ¬ ((2 : Int32) < 0 ∨ 4891 ≤ (2 : Int32).toNatClampNeg) by decide +kernel) dX7_account_50 ?_
    refine pxTop (w := .int 0) rfl ?_
    refine lv_i2l (v := 0) hx hb dX7_account_51 (by decide) ?_
    have hD : va_D A [(a0, .inr (6, [.ref a1, .ref a2, .ref a3, .int 0, .ref a4, .int 0, .int 0, .int 0, .int 0, .ref a5, .int 0, .ref a6, .int 0, .int 0, .int 0, .int (-1), .ref a7, .ref a8, .int 0, .ref a9, .ref a10, .ref a11]))] := hD.sub [0] (by decide) rfl
    have hP : va_P G.1 pxCl [(a0, .inr (6, [.ref a1, .ref a2, .ref a3, .int 0, .ref a4, .int 0, .int 0, .int 0, .int 0, .ref a5, .int 0, .ref a6, .int 0, .int 0, .int 0, .int (-1), .ref a7, .ref a8, .int 0, .ref a9, .ref a10, .ref a11]))] H := hP.sub [0] rfl
    refine W.widen (k := 0) (n := 0) (Nat.le_of_ble_eq_true rfl) (Nat.le_of_ble_eq_true rfl) ?_
    exact W.lret (v := 0) hx hb hr (fun t ht hW => ⟨⟨0, (fun _ => 0), rfl, rfl, by rw [ht]; exact hP, hD⟩, hS.F ht⟩) hS.2.2 dX7_account_52
  · skip
    rcases Int.lt_or_le i0.toInt 2 with f2 | f2
    · skip
      obtain rfl : i0 = 1 := pxEq 1 (by have h9 : (1 : Int32).toInt = 1 := (by decide); omega)
      refine lv_icmp_ne (tgt := 43) hx hb dX7_account_32 (by decide) (fun h9 => absurd h9 (by decide)) (fun _ => ?_)
      refine lv_aload_n hx hb dX7_account_35 rfl (lv_at hl 0 rfl) ?_
      refine pxCi (va_runV (As := []) (rest := []) ⟨hx, hb, hml, hown, hts⟩ (k220_X7_debts l G H.size a0 a1 a2 a3 a4 a5 a6 a7 a8 a9 a10 a11) (cwV 0 hts (pxGV pm628 pm629 pm630 pm71 pm631) rfl rfl rfl (by decide +kernel) ⟨(Nat.le_of_ble_eq_true rfl), (Nat.le_of_ble_eq_true rfl)⟩) (pxV (ci := 6) (q0 := 0) hG hZ hP hD hS hA [0, 1] rfl (by decide) rfl rfl) rfl rfl hl.1 rfl (lv_room (Nat.le_of_ble_eq_true rfl)) dX7_account_36 ⟨(Nat.le_of_ble_eq_true rfl), (Nat.le_of_ble_eq_true rfl)⟩) hP hD hS hA [0, 1] [] rfl rfl (by decide) (by decide) (fun r4 q3 H locs hw hP hD hS => ?_)
      have hw : r4 = 0 := hw
      subst hw
      have hP : va_P G.1 pxCl [(a0, .inr (6, [.ref a1, .ref a2, .ref a3, .int 0, .ref a4, .int 0, .int 0, .int 0, .int 0, .ref a5, .int 0, .ref a6, .int 0, .int 0, .int 0, .int (-1), .ref a7, .ref a8, .int 0, .ref a9, .ref a10, .ref a11])), (a1, .inl (G.2.1 0, 4891, .inl (fun _ => 0)))] H := hP
      have hD : va_D A [(a0, .inr (6, [.ref a1, .ref a2, .ref a3, .int 0, .ref a4, .int 0, .int 0, .int 0, .int 0, .ref a5, .int 0, .ref a6, .int 0, .int 0, .int 0, .int (-1), .ref a7, .ref a8, .int 0, .ref a9, .ref a10, .ref a11])), (a1, .inl (G.2.1 0, 4891, .inl (fun _ => 0)))] := hD
      refine lv_i2l (v := 0) hx hb dX7_account_39 (by decide) ?_
      refine lv_goto (tgt := 52) hx hb dX7_account_40 (by decide) ?_
      have hD : va_D A [(a0, .inr (6, [.ref a1, .ref a2, .ref a3, .int 0, .ref a4, .int 0, .int 0, .int 0, .int 0, .ref a5, .int 0, .ref a6, .int 0, .int 0, .int 0, .int (-1), .ref a7, .ref a8, .int 0, .ref a9, .ref a10, .ref a11]))] := hD.sub [0] (by decide) rfl
      have hP : va_P G.1 pxCl [(a0, .inr (6, [.ref a1, .ref a2, .ref a3, .int 0, .ref a4, .int 0, .int 0, .int 0, .int 0, .ref a5, .int 0, .ref a6, .int 0, .int 0, .int 0, .int (-1), .ref a7, .ref a8, .int 0, .ref a9, .ref a10, .ref a11]))] H := hP.sub [0] rfl
      refine W.widen (k := 0) (n := 0) (Nat.le_of_ble_eq_true rfl) (Nat.le_of_ble_eq_true rfl) ?_
      exact W.lret (v := 0) hx hb hr (fun t ht hW => ⟨⟨0, (fun _ => 0), rfl, rfl, by rw [ht]; exact hP, hD⟩, hS.F ht⟩) hS.2.2 dX7_account_52
    · skip
      refine lv_icmp_ne (tgt := 43) hx hb dX7_account_32 (by decide) (fun _ => ?_) (fun h9 => absurd h9 (pxNe 1 (by decide) (by omega)))
      refine lv_aload_n hx hb dX7_account_43 rfl (lv_at hl 0 rfl) ?_
      refine va_get (D := G.1) (ci := 6) (v := .ref a1) (C := RX7) (T := TX7) (N := 22) hx hb hts piX7 hown hK hP 0 rfl rfl 0 (by decide) (hts _ pm73) (fun _ h9 => h9) rfl dX7_account_44 ?_
      refine lv_iconst (v := 2) hx hb dX7_account_47 (by decide) ?_
      refine lv_iload_n hx hb dX7_account_48 rfl (lv_at hl 1 rfl) ?_
      rcases Int.lt_or_le i0.toInt 3 with f3 | f3
      · skip
        obtain rfl : i0 = 2 := pxEq 2 (by have h9 : (2 : Int32).toInt = 2 := (by decide); omega)
        refine lv_iadd hx hb dX7_account_49 ?_
        refine pxTop (w := .int 4) (congrArg Value.int (by decide)) ?_
        refine va_iald hx hb hK hP 1 0 rfl rfl (show ¬ ((4 : Int32) < 0 ∨ 4891 ≤ (4 : Int32).toNatClampNeg) by decide +kernel) dX7_account_50 ?_
        refine pxTop (w := .int 0) rfl ?_
        refine lv_i2l (v := 0) hx hb dX7_account_51 (by decide) ?_
        have hD : va_D A [(a0, .inr (6, [.ref a1, .ref a2, .ref a3, .int 0, .ref a4, .int 0, .int 0, .int 0, .int 0, .ref a5, .int 0, .ref a6, .int 0, .int 0, .int 0, .int (-1), .ref a7, .ref a8, .int 0, .ref a9, .ref a10, .ref a11]))] := hD.sub [0] (by decide) rfl
        have hP : va_P G.1 pxCl [(a0, .inr (6, [.ref a1, .ref a2, .ref a3, .int 0, .ref a4, .int 0, .int 0, .int 0, .int 0, .ref a5, .int 0, .ref a6, .int 0, .int 0, .int 0, .int (-1), .ref a7, .ref a8, .int 0, .ref a9, .ref a10, .ref a11]))] H := hP.sub [0] rfl
        refine W.widen (k := 0) (n := 0) (Nat.le_of_ble_eq_true rfl) (Nat.le_of_ble_eq_true rfl) ?_
        exact W.lret (v := 0) hx hb hr (fun t ht hW => ⟨⟨0, (fun _ => 0), rfl, rfl, by rw [ht]; exact hP, hD⟩, hS.F ht⟩) hS.2.2 dX7_account_52
      · skip
        rcases Int.lt_or_le i0.toInt 4 with f4 | f4
        · skip
          obtain rfl : i0 = 3 := pxEq 3 (by have h9 : (3 : Int32).toInt = 3 := (by decide); omega)
          refine lv_iadd hx hb dX7_account_49 ?_
          refine pxTop (w := .int 5) (congrArg Value.int (by decide)) ?_
          refine va_iald hx hb hK hP 1 0 rfl rfl (show ¬ ((5 : Int32) < 0 ∨ 4891 ≤ (5 : Int32).toNatClampNeg) by decide +kernel) dX7_account_50 ?_
          refine pxTop (w := .int 0) rfl ?_
          refine lv_i2l (v := 0) hx hb dX7_account_51 (by decide) ?_
          have hD : va_D A [(a0, .inr (6, [.ref a1, .ref a2, .ref a3, .int 0, .ref a4, .int 0, .int 0, .int 0, .int 0, .ref a5, .int 0, .ref a6, .int 0, .int 0, .int 0, .int (-1), .ref a7, .ref a8, .int 0, .ref a9, .ref a10, .ref a11]))] := hD.sub [0] (by decide) rfl
          have hP : va_P G.1 pxCl [(a0, .inr (6, [.ref a1, .ref a2, .ref a3, .int 0, .ref a4, .int 0, .int 0, .int 0, .int 0, .ref a5, .int 0, .ref a6, .int 0, .int 0, .int 0, .int (-1), .ref a7, .ref a8, .int 0, .ref a9, .ref a10, .ref a11]))] H := hP.sub [0] rfl
          refine W.widen (k := 0) (n := 0) (Nat.le_of_ble_eq_true rfl) (Nat.le_of_ble_eq_true rfl) ?_
          exact W.lret (v := 0) hx hb hr (fun t ht hW => ⟨⟨0, (fun _ => 0), rfl, rfl, by rw [ht]; exact hP, hD⟩, hS.F ht⟩) hS.2.2 dX7_account_52
        · skip
          rcases Int.lt_or_le i0.toInt 5 with f5 | f5
          · skip
            obtain rfl : i0 = 4 := pxEq 4 (by have h9 : (4 : Int32).toInt = 4 := (by decide); omega)
            refine lv_iadd hx hb dX7_account_49 ?_
            refine pxTop (w := .int 6) (congrArg Value.int (by decide)) ?_
            refine va_iald hx hb hK hP 1 0 rfl rfl (show ¬ ((6 : Int32) < 0 ∨ 4891 ≤ (6 : Int32).toNatClampNeg) by decide +kernel) dX7_account_50 ?_
            refine pxTop (w := .int 0) rfl ?_
            refine lv_i2l (v := 0) hx hb dX7_account_51 (by decide) ?_
            have hD : va_D A [(a0, .inr (6, [.ref a1, .ref a2, .ref a3, .int 0, .ref a4, .int 0, .int 0, .int 0, .int 0, .ref a5, .int 0, .ref a6, .int 0, .int 0, .int 0, .int (-1), .ref a7, .ref a8, .int 0, .ref a9, .ref a10, .ref a11]))] := hD.sub [0] (by decide) rfl
            have hP : va_P G.1 pxCl [(a0, .inr (6, [.ref a1, .ref a2, .ref a3, .int 0, .ref a4, .int 0, .int 0, .int 0, .int 0, .ref a5, .int 0, .ref a6, .int 0, .int 0, .int 0, .int (-1), .ref a7, .ref a8, .int 0, .ref a9, .ref a10, .ref a11]))] H := hP.sub [0] rfl
            refine W.widen (k := 0) (n := 0) (Nat.le_of_ble_eq_true rfl) (Nat.le_of_ble_eq_true rfl) ?_
            exact W.lret (v := 0) hx hb hr (fun t ht hW => ⟨⟨0, (fun _ => 0), rfl, rfl, by rw [ht]; exact hP, hD⟩, hS.F ht⟩) hS.2.2 dX7_account_52
          · skip
            rcases Int.lt_or_le i0.toInt 6 with f6 | f6
            · skip
              obtain rfl : i0 = 5 := pxEq 5 (by have h9 : (5 : Int32).toInt = 5 := (by decide); omega)
              refine lv_iadd hx hb dX7_account_49 ?_
              refine pxTop (w := .int 7) (congrArg Value.int (by decide)) ?_
              refine va_iald hx hb hK hP 1 0 rfl rfl (show ¬ ((7 : Int32) < 0 ∨ 4891 ≤ (7 : Int32).toNatClampNeg) by decide +kernel) dX7_account_50 ?_
              refine pxTop (w := .int 0) rfl ?_
              refine lv_i2l (v := 0) hx hb dX7_account_51 (by decide) ?_
              have hD : va_D A [(a0, .inr (6, [.ref a1, .ref a2, .ref a3, .int 0, .ref a4, .int 0, .int 0, .int 0, .int 0, .ref a5, .int 0, .ref a6, .int 0, .int 0, .int 0, .int (-1), .ref a7, .ref a8, .int 0, .ref a9, .ref a10, .ref a11]))] := hD.sub [0] (by decide) rfl
              have hP : va_P G.1 pxCl [(a0, .inr (6, [.ref a1, .ref a2, .ref a3, .int 0, .ref a4, .int 0, .int 0, .int 0, .int 0, .ref a5, .int 0, .ref a6, .int 0, .int 0, .int 0, .int (-1), .ref a7, .ref a8, .int 0, .ref a9, .ref a10, .ref a11]))] H := hP.sub [0] rfl
              refine W.widen (k := 0) (n := 0) (Nat.le_of_ble_eq_true rfl) (Nat.le_of_ble_eq_true rfl) ?_
              exact W.lret (v := 0) hx hb hr (fun t ht hW => ⟨⟨0, (fun _ => 0), rfl, rfl, by rw [ht]; exact hP, hD⟩, hS.F ht⟩) hS.2.2 dX7_account_52
            · skip
              rcases Int.lt_or_le i0.toInt 7 with f7 | f7
              · skip
                obtain rfl : i0 = 6 := pxEq 6 (by have h9 : (6 : Int32).toInt = 6 := (by decide); omega)
                refine lv_iadd hx hb dX7_account_49 ?_
                refine pxTop (w := .int 8) (congrArg Value.int (by decide)) ?_
                refine va_iald hx hb hK hP 1 0 rfl rfl (show ¬ ((8 : Int32) < 0 ∨ 4891 ≤ (8 : Int32).toNatClampNeg) by decide +kernel) dX7_account_50 ?_
                refine pxTop (w := .int 0) rfl ?_
                refine lv_i2l (v := 0) hx hb dX7_account_51 (by decide) ?_
                have hD : va_D A [(a0, .inr (6, [.ref a1, .ref a2, .ref a3, .int 0, .ref a4, .int 0, .int 0, .int 0, .int 0, .ref a5, .int 0, .ref a6, .int 0, .int 0, .int 0, .int (-1), .ref a7, .ref a8, .int 0, .ref a9, .ref a10, .ref a11]))] := hD.sub [0] (by decide) rfl
                have hP : va_P G.1 pxCl [(a0, .inr (6, [.ref a1, .ref a2, .ref a3, .int 0, .ref a4, .int 0, .int 0, .int 0, .int 0, .ref a5, .int 0, .ref a6, .int 0, .int 0, .int 0, .int (-1), .ref a7, .ref a8, .int 0, .ref a9, .ref a10, .ref a11]))] H := hP.sub [0] rfl
                refine W.widen (k := 0) (n := 0) (Nat.le_of_ble_eq_true rfl) (Nat.le_of_ble_eq_true rfl) ?_
                exact W.lret (v := 0) hx hb hr (fun t ht hW => ⟨⟨0, (fun _ => 0), rfl, rfl, by rw [ht]; exact hP, hD⟩, hS.F ht⟩) hS.2.2 dX7_account_52
              · skip
                rcases Int.lt_or_le i0.toInt 8 with f8 | f8
                · skip
                  obtain rfl : i0 = 7 := pxEq 7 (by have h9 : (7 : Int32).toInt = 7 := (by decide); omega)
                  refine lv_iadd hx hb dX7_account_49 ?_
                  refine pxTop (w := .int 9) (congrArg Value.int (by decide)) ?_
                  refine va_iald hx hb hK hP 1 0 rfl rfl (show ¬ ((9 : Int32) < 0 ∨ 4891 ≤ (9 : Int32).toNatClampNeg) by decide +kernel) dX7_account_50 ?_
                  refine pxTop (w := .int 0) rfl ?_
                  refine lv_i2l (v := 0) hx hb dX7_account_51 (by decide) ?_
                  have hD : va_D A [(a0, .inr (6, [.ref a1, .ref a2, .ref a3, .int 0, .ref a4, .int 0, .int 0, .int 0, .int 0, .ref a5, .int 0, .ref a6, .int 0, .int 0, .int 0, .int (-1), .ref a7, .ref a8, .int 0, .ref a9, .ref a10, .ref a11]))] := hD.sub [0] (by decide) rfl
                  have hP : va_P G.1 pxCl [(a0, .inr (6, [.ref a1, .ref a2, .ref a3, .int 0, .ref a4, .int 0, .int 0, .int 0, .int 0, .ref a5, .int 0, .ref a6, .int 0, .int 0, .int 0, .int (-1), .ref a7, .ref a8, .int 0, .ref a9, .ref a10, .ref a11]))] H := hP.sub [0] rfl
                  refine W.widen (k := 0) (n := 0) (Nat.le_of_ble_eq_true rfl) (Nat.le_of_ble_eq_true rfl) ?_
                  exact W.lret (v := 0) hx hb hr (fun t ht hW => ⟨⟨0, (fun _ => 0), rfl, rfl, by rw [ht]; exact hP, hD⟩, hS.F ht⟩) hS.2.2 dX7_account_52
                · skip
                  obtain rfl : i0 = 8 := pxEq 8 (by have h9 : (8 : Int32).toInt = 8 := (by decide); omega)
                  refine lv_iadd hx hb dX7_account_49 ?_
                  refine pxTop (w := .int 10) (congrArg Value.int (by decide)) ?_
                  refine va_iald hx hb hK hP 1 0 rfl rfl (show ¬ ((10 : Int32) < 0 ∨ 4891 ≤ (10 : Int32).toNatClampNeg) by decide +kernel) dX7_account_50 ?_
                  refine pxTop (w := .int 0) rfl ?_
                  refine lv_i2l (v := 0) hx hb dX7_account_51 (by decide) ?_
                  have hD : va_D A [(a0, .inr (6, [.ref a1, .ref a2, .ref a3, .int 0, .ref a4, .int 0, .int 0, .int 0, .int 0, .ref a5, .int 0, .ref a6, .int 0, .int 0, .int 0, .int (-1), .ref a7, .ref a8, .int 0, .ref a9, .ref a10, .ref a11]))] := hD.sub [0] (by decide) rfl
                  have hP : va_P G.1 pxCl [(a0, .inr (6, [.ref a1, .ref a2, .ref a3, .int 0, .ref a4, .int 0, .int 0, .int 0, .int 0, .ref a5, .int 0, .ref a6, .int 0, .int 0, .int 0, .int (-1), .ref a7, .ref a8, .int 0, .ref a9, .ref a10, .ref a11]))] H := hP.sub [0] rfl
                  refine W.widen (k := 0) (n := 0) (Nat.le_of_ble_eq_true rfl) (Nat.le_of_ble_eq_true rfl) ?_
                  exact W.lret (v := 0) hx hb hr (fun t ht hW => ⟨⟨0, (fun _ => 0), rfl, rfl, by rw [ht]; exact hP, hD⟩, hS.F ht⟩) hS.2.2 dX7_account_52
set_option maxHeartbeats 4000000 in
set_option maxRecDepth 100000 in
theorem k222_X6_account (l : Launch) (hl9 : l.stackTraces = false) (G : pxG) (sz : Nat) (a0 : Nat) (i0 : Int32) (h0 : 9 ≤ i0.toInt ∧ i0.toInt ≤ 2147483647) : vx_Met l yX6_account (Cond.code yX6_account cX6_account 2 (some .long) :: pxAll) ({ frames := 6, cells := 1, slots := 6, locals := 90 } : Room) (va_Pc [.ref a0, .int i0] (pxPre G [] sz)) pxF (pxXC "java/lang/IllegalArgumentException" (va_A [] sz)) 1 6 (va_A [] sz) := by
  refine vx_ofW (cc := cX6_account) (maxL := 2) (ret := (some .long)) (by decide) rfl ?_
  intro p e s m args below meth c s₁ B hml hEx hv
  obtain ⟨rfl, hsz, hG, hZ, hP, hD0⟩ := hv
  have hx := B.exec
  have hb := B.bytes
  have hr := B.returns
  have hts0 := atoms_spec (ws := Cond.code yX6_account cX6_account 2 (some .long) :: pxAll) B.pre
  have hts : ∀ w ∈ pxAll, w.before _ s = true := fun w h => hts0 w (List.mem_cons_of_mem _ h)
  have hown : s.vm.findClass RX6 = some m.cls := findClass_of_methodNamed B.named
  have hlocks := B.notSynchronized
  subst hsz
  have hK := hG.1
  have hD := hD0.self (sz := s.heap.size)
  generalize hAe : va_A [] s.heap.size = A at hD hZ ⊢
  have hA : ∀ q : Nat, s.heap.size ≤ q → A q := fun q h => by rw [← hAe]; exact Or.inr h
  have hS : va_S A s.heap s.heap [] := va_S.rf
  have hl := lv_entry ([.ref a0, .int i0]) (n := 2) (Nat.le_of_ble_eq_true rfl)
  rw [lg_entry_eq]
  generalize (lg_sl ([.ref a0, .int i0]) ++ List.replicate (2 - (lg_sl ([.ref a0, .int i0])).length) Slot.unset).toArray = ls at hl ⊢
  have hl : lv_has ls 2 [(0, .ref a0), (1, .int i0)] := hl
  refine lv_iload_n hx hb dX6_account_0 rfl (lv_at hl 1 rfl) ?_
  refine lv_if_lt (tgt := 10) hx hb dX6_account_1 (by decide) (fun h9 => absurd h9 (pxNlt 0 (by decide) (by omega))) (fun _ => ?_)
  refine lv_iload_n hx hb dX6_account_4 rfl (lv_at hl 1 rfl) ?_
  refine lv_bipush (v := 9) hx hb dX6_account_5 (by decide) ?_
  refine lv_icmp_lt (tgt := 21) hx hb dX6_account_7 (by decide) (fun h9 => absurd h9 (pxNlt 9 (by decide) (by omega))) (fun _ => ?_)
  exact vx_throwSW (own := RX6) (cls := "java/lang/IllegalArgumentException") (names := ["java/lang/RuntimeException", "java/lang/Exception"]) hx hb hl9 hown (by decide +kernel) (by decide +kernel) (hts _ pm591) (hts _ pm592) (hG.2.2.2.2.1 7 _ rfl) (pxThr (own := RX6) (ic := 109) (by simp [pxBadC]) hts hG wsL_law_x3 pxh_x3) pxg_x3 hZ.1 hZ.2 hS (hl.1.trans hml.symm) dX6_account_10 dX6_account_13 dX6_account_14 dX6_account_17 dX6_account_20 (fun x hx => (hEx x hx).elim) (Nat.le_of_ble_eq_true rfl) (Nat.le_of_ble_eq_true rfl) (Nat.le_of_ble_eq_true rfl) (Nat.le_of_ble_eq_true rfl) hlocks (pxXe hS) hS.2.2 (Nat.le_of_ble_eq_true rfl) (Nat.le_of_ble_eq_true rfl)
set_option maxHeartbeats 4000000 in
set_option maxRecDepth 100000 in
theorem k222_L_account (l : Launch) (hl9 : l.stackTraces = false) (G : pxG) (sz : Nat) (a0 a1 a2 a3 a4 a5 a6 : Nat) (i0 : Int32) (h0 : 9 ≤ i0.toInt ∧ i0.toInt ≤ 2147483647) : Met l yL_account (Cond.codeWith yL_account cL_account 4 (some .int) [(0, 8, 11, 51)] :: pxAll) ({ frames := 7, cells := 1, slots := 6, locals := 111 } : Room) (va_Pc [.ref a0, .int i0, .ref a1] (pxPre G [(a0, .inr (5, [.ref a2, .ref a3, .ref a4, .ref a5, .ref a6, .int 0, .int 0, .int (-1)]))] sz)) (pxQi G (fun r => r = 1) (fun q => []) (va_A [(a0, .inr (5, [.ref a2, .ref a3, .ref a4, .ref a5, .ref a6, .int 0, .int 0, .int (-1)]))] sz)) 1 6 (va_A [(a0, .inr (5, [.ref a2, .ref a3, .ref a4, .ref a5, .ref a6, .int 0, .int 0, .int (-1)]))] sz) := by
  refine va_MetW (cc := cL_account) (maxL := 4) (ret := (some .int)) (hh := [(0, 8, 11, 51)]) (by decide) rfl ?_
  intro p e s m args below meth c s₁ B hml hv
  obtain ⟨rfl, hsz, hG, hZ, hP, hD0⟩ := hv
  have hx := B.exec
  have hb := B.bytes
  have hr := B.returns
  have hts0 := atoms_spec (ws := Cond.codeWith yL_account cL_account 4 (some .int) [(0, 8, 11, 51)] :: pxAll) B.pre
  have hts : ∀ w ∈ pxAll, w.before _ s = true := fun w h => hts0 w (List.mem_cons_of_mem _ h)
  have hown : s.vm.findClass RL = some m.cls := findClass_of_methodNamed B.named
  have hlocks := B.notSynchronized
  have hTab := vx_table (x := yL_account) B (hts0 _ List.mem_cons_self)
  subst hsz
  have hK := hG.1
  have hD := hD0.self (sz := s.heap.size)
  generalize hAe : va_A [(a0, .inr (5, [.ref a2, .ref a3, .ref a4, .ref a5, .ref a6, .int 0, .int 0, .int (-1)]))] s.heap.size = A at hD hZ ⊢
  have hA : ∀ q : Nat, s.heap.size ≤ q → A q := fun q h => by rw [← hAe]; exact Or.inr h
  have hS : va_S A s.heap s.heap [] := va_S.rf
  have hl := lv_entry ([.ref a0, .int i0, .ref a1]) (n := 4) (Nat.le_of_ble_eq_true rfl)
  rw [lg_entry_eq]
  generalize (lg_sl ([.ref a0, .int i0, .ref a1]) ++ List.replicate (4 - (lg_sl ([.ref a0, .int i0, .ref a1])).length) Slot.unset).toArray = ls at hl ⊢
  have hl : lv_has ls 4 [(0, .ref a0), (1, .int i0), (2, .ref a1)] := hl
  refine lv_aload_n hx hb dL_account_0 rfl (lv_at hl 2 rfl) ?_
  refine lv_iconst (v := 0) hx hb dL_account_1 (by decide) ?_
  refine lv_aload_n hx hb dL_account_2 rfl (lv_at hl 0 rfl) ?_
  refine lv_iload_n hx hb dL_account_3 rfl (lv_at hl 1 rfl) ?_
  refine pxCx (vx_runV (As := [.int i0]) (rest := [.int 0, .ref a1]) ⟨hx, hb, hml, hown, hts⟩ (k222_X6_account l hl9 G s.heap.size a0 i0 ⟨by omega, by omega⟩) (cwV 1 hts (pxGV pm609 pm610 pm611 pm2 pm612) rfl rfl rfl (by decide +kernel) ⟨(Nat.le_of_ble_eq_true rfl), (Nat.le_of_ble_eq_true rfl)⟩) (pxV (ci := 5) (q0 := 0) hG hZ hP hD hS hA [] rfl (by decide) rfl rfl) rfl rfl hl.1 rfl (lv_room (Nat.le_of_ble_eq_true rfl)) dL_account_4 ⟨(Nat.le_of_ble_eq_true rfl), (Nat.le_of_ble_eq_true rfl)⟩) hD hS hA [] rfl (fun ce q9 H locs hS hce hcv hcl => ?_)
  refine vx_catch (own := RL) (name := "java/lang/IllegalArgumentException") (E := "java/lang/IllegalArgumentException") hown [] ⟨0, 8, 11, 51⟩ [] (by rw [hTab]; rfl) (fun z hz => nomatch hz) (by decide) (by decide) (hts _ pm597) (va_Nw.use rfl (hG.2.2.1 "java/lang/IllegalArgumentException" (by simp [pxBadC]))) hce hcv hcl ?_
  have hP : va_P G.1 pxCl [] H := fun k q h => by simp at h
  have hD : va_D A [] := ⟨fun i j p q h => by simp at h, fun k q h => by simp at h⟩
  refine lv_astore_n (lv' := [(3, .ref q9), (0, .ref a0), (1, .int i0), (2, .ref a1)]) hx hb dL_account_11 rfl hl (by decide) rfl (fun ls hl => ?_)
  refine lv_iconst (v := 1) hx hb dL_account_12 (by decide) ?_
  refine W.widen (k := 1) (n := 6) (Nat.le_of_ble_eq_true rfl) (Nat.le_of_ble_eq_true rfl) ?_
  exact W.iret (v := 1) hx hb hr (fun t ht hW => ⟨⟨1, (fun _ => 0), rfl, rfl, by rw [ht]; exact hP, hD⟩, hS.F ht⟩) hS.2.2 dL_account_13
set_option maxHeartbeats 4000000 in
set_option maxRecDepth 100000 in
theorem k224_X7_in (l : Launch) (G : pxG) (sz : Nat) (i0 : Int32) (h0 : 9 ≤ i0.toInt ∧ i0.toInt ≤ 2147483647) : Met l yX7_in (Cond.code yX7_in cX7_in 3 (some .boolean) :: pxAll) ({ frames := 0, cells := 0, slots := 0, locals := 0 } : Room) (va_Pc [.int i0, .int 0, .int 8] (pxPre G [] sz)) (pxQi G (fun r => r = 0) (fun q => []) (va_A [] sz)) 0 0 (va_A [] sz) := by
  refine Met.ofW (cc := cX7_in) (maxL := 3) (ret := (some .boolean)) (by decide) rfl ?_
  intro p e s m args below meth c s₁ B hml hv
  obtain ⟨rfl, hsz, hG, hZ, hP, hD0⟩ := hv
  have hx := B.exec
  have hb := B.bytes
  have hr := B.returns
  have hts0 := atoms_spec (ws := Cond.code yX7_in cX7_in 3 (some .boolean) :: pxAll) B.pre
  have hts : ∀ w ∈ pxAll, w.before _ s = true := fun w h => hts0 w (List.mem_cons_of_mem _ h)
  have hown : s.vm.findClass RX7 = some m.cls := findClass_of_methodNamed B.named
  have hlocks := B.notSynchronized
  subst hsz
  have hK := hG.1
  have hD := hD0.self (sz := s.heap.size)
  generalize hAe : va_A [] s.heap.size = A at hD hZ ⊢
  have hA : ∀ q : Nat, s.heap.size ≤ q → A q := fun q h => by rw [← hAe]; exact Or.inr h
  have hS : va_S A s.heap s.heap [] := va_S.rf
  have hl := lv_entry ([.int i0, .int 0, .int 8]) (n := 3) (Nat.le_of_ble_eq_true rfl)
  rw [lg_entry_eq]
  generalize (lg_sl ([.int i0, .int 0, .int 8]) ++ List.replicate (3 - (lg_sl ([.int i0, .int 0, .int 8])).length) Slot.unset).toArray = ls at hl ⊢
  have hl : lv_has ls 3 [(0, .int i0), (1, .int 0), (2, .int 8)] := hl
  refine lv_iload_n hx hb dX7_in_0 rfl (lv_at hl 0 rfl) ?_
  refine lv_iload_n hx hb dX7_in_1 rfl (lv_at hl 1 rfl) ?_
  refine lv_icmp_lt (tgt := 14) hx hb dX7_in_2 (by decide) (fun h9 => absurd h9 (pxNlt 0 (by decide) (by omega))) (fun _ => ?_)
  refine lv_iload_n hx hb dX7_in_5 rfl (lv_at hl 0 rfl) ?_
  refine lv_iload_n hx hb dX7_in_6 rfl (lv_at hl 2 rfl) ?_
  refine lv_icmp_gt (tgt := 14) hx hb dX7_in_7 (by decide) (fun _ => ?_) (fun h9 => absurd (pxLt2 8 (by decide) (by omega)) h9)
  refine lv_iconst (v := 0) hx hb dX7_in_14 (by decide) ?_
  refine W.widen (k := 0) (n := 0) (Nat.le_of_ble_eq_true rfl) (Nat.le_of_ble_eq_true rfl) ?_
  exact W.zret (ty := .boolean) (v := 0) hx hb hr rfl (fun t ht hW => ⟨⟨0, (fun _ => 0), rfl, rfl, by rw [ht]; exact hP, hD⟩, hS.F ht⟩) hS.2.2 dX7_in_15
set_option maxHeartbeats 4000000 in
set_option maxRecDepth 100000 in
theorem k224_X7_account (l : Launch) (G : pxG) (sz : Nat) (a0 a1 a2 a3 a4 a5 a6 a7 a8 a9 a10 a11 : Nat) (i0 : Int32) (h0 : 9 ≤ i0.toInt ∧ i0.toInt ≤ 2147483647) : Met l yX7_account (Cond.code yX7_account cX7_account 2 (some .long) :: pxAll) ({ frames := 1, cells := 0, slots := 0, locals := 22 } : Room) (va_Pc [.ref a0, .int i0] (pxPre G [(a0, .inr (6, [.ref a1, .ref a2, .ref a3, .int 0, .ref a4, .int 0, .int 0, .int 0, .int 0, .ref a5, .int 0, .ref a6, .int 0, .int 0, .int 0, .int (-1), .ref a7, .ref a8, .int 0, .ref a9, .ref a10, .ref a11]))] sz)) (pxQl G (fun r => r = 0) (fun q => [(a0, .inr (6, [.ref a1, .ref a2, .ref a3, .int 0, .ref a4, .int 0, .int 0, .int 1, .int 0, .ref a5, .int 0, .ref a6, .int 0, .int 0, .int 0, .int (-1), .ref a7, .ref a8, .int 0, .ref a9, .ref a10, .ref a11]))]) (va_A [(a0, .inr (6, [.ref a1, .ref a2, .ref a3, .int 0, .ref a4, .int 0, .int 0, .int 0, .int 0, .ref a5, .int 0, .ref a6, .int 0, .int 0, .int 0, .int (-1), .ref a7, .ref a8, .int 0, .ref a9, .ref a10, .ref a11]))] sz)) 0 0 (va_A [(a0, .inr (6, [.ref a1, .ref a2, .ref a3, .int 0, .ref a4, .int 0, .int 0, .int 0, .int 0, .ref a5, .int 0, .ref a6, .int 0, .int 0, .int 0, .int (-1), .ref a7, .ref a8, .int 0, .ref a9, .ref a10, .ref a11]))] sz) := by
  refine Met.ofW (cc := cX7_account) (maxL := 2) (ret := (some .long)) (by decide) rfl ?_
  intro p e s m args below meth c s₁ B hml hv
  obtain ⟨rfl, hsz, hG, hZ, hP, hD0⟩ := hv
  have hx := B.exec
  have hb := B.bytes
  have hr := B.returns
  have hts0 := atoms_spec (ws := Cond.code yX7_account cX7_account 2 (some .long) :: pxAll) B.pre
  have hts : ∀ w ∈ pxAll, w.before _ s = true := fun w h => hts0 w (List.mem_cons_of_mem _ h)
  have hown : s.vm.findClass RX7 = some m.cls := findClass_of_methodNamed B.named
  have hlocks := B.notSynchronized
  subst hsz
  have hK := hG.1
  have hD := hD0.self (sz := s.heap.size)
  generalize hAe : va_A [(a0, .inr (6, [.ref a1, .ref a2, .ref a3, .int 0, .ref a4, .int 0, .int 0, .int 0, .int 0, .ref a5, .int 0, .ref a6, .int 0, .int 0, .int 0, .int (-1), .ref a7, .ref a8, .int 0, .ref a9, .ref a10, .ref a11]))] s.heap.size = A at hD hZ ⊢
  have hA : ∀ q : Nat, s.heap.size ≤ q → A q := fun q h => by rw [← hAe]; exact Or.inr h
  have hS : va_S A s.heap s.heap [] := va_S.rf
  have hl := lv_entry ([.ref a0, .int i0]) (n := 2) (Nat.le_of_ble_eq_true rfl)
  rw [lg_entry_eq]
  generalize (lg_sl ([.ref a0, .int i0]) ++ List.replicate (2 - (lg_sl ([.ref a0, .int i0])).length) Slot.unset).toArray = ls at hl ⊢
  have hl : lv_has ls 2 [(0, .ref a0), (1, .int i0)] := hl
  refine lv_aload_n hx hb dX7_account_0 rfl (lv_at hl 0 rfl) ?_
  refine lv_iload_n hx hb dX7_account_1 rfl (lv_at hl 1 rfl) ?_
  refine lv_iconst (v := 0) hx hb dX7_account_2 (by decide) ?_
  refine lv_bipush (v := 8) hx hb dX7_account_3 (by decide) ?_
  refine pxCi (va_runS (As := [.int i0, .int 0, .int 8]) (rest := [.ref a0]) ⟨hx, hb, hml, hown, hts⟩ (k224_X7_in l G s.heap.size i0 ⟨by omega, by omega⟩) (va_cwS 3 hts (pxGS pm143 pm144 pm71 pm145) rfl rfl rfl (by decide +kernel) ⟨(Nat.le_of_ble_eq_true rfl), (Nat.le_of_ble_eq_true rfl)⟩) (pxS hG hZ hP hD hS hA [] rfl (by decide)) rfl rfl hl.1 rfl (lv_room (Nat.le_of_ble_eq_true rfl)) dX7_account_5 ⟨(Nat.le_of_ble_eq_true rfl), (Nat.le_of_ble_eq_true rfl)⟩) hP hD hS hA [] [0] rfl rfl (by decide) (by decide) (fun r2 q1 H locs hw hP hD hS => ?_)
  have hw : r2 = 0 := hw
  subst hw
  have hP : va_P G.1 pxCl [(a0, .inr (6, [.ref a1, .ref a2, .ref a3, .int 0, .ref a4, .int 0, .int 0, .int 0, .int 0, .ref a5, .int 0, .ref a6, .int 0, .int 0, .int 0, .int (-1), .ref a7, .ref a8, .int 0, .ref a9, .ref a10, .ref a11]))] H := hP
  have hD : va_D A [(a0, .inr (6, [.ref a1, .ref a2, .ref a3, .int 0, .ref a4, .int 0, .int 0, .int 0, .int 0, .ref a5, .int 0, .ref a6, .int 0, .int 0, .int 0, .int (-1), .ref a7, .ref a8, .int 0, .ref a9, .ref a10, .ref a11]))] := hD
  refine lv_if_eq (tgt := 15) hx hb dX7_account_8 (by decide) (fun _ => ?_) (fun h9 => absurd (by decide) h9)
  refine lv_iconst (v := 1) hx hb dX7_account_15 (by decide) ?_
  refine va_put (D := G.1) (ci := 6) (v := .int 1) (ty := .int) (C := RX7) (T := TX7) (N := 22) hx hb hts piX7 tyX7 tyX7_ok nmX7 hown hK hP hD hS 0 rfl rfl 7 (by decide) (hts _ pm150) (fun _ h9 => h9) rfl (by decide +kernel) rfl rfl (Nat.le_of_ble_eq_true rfl) dX7_account_16 (fun H locs hP hD hS => ?_)
  have hP : va_P G.1 pxCl [(a0, .inr (6, [.ref a1, .ref a2, .ref a3, .int 0, .ref a4, .int 0, .int 0, .int 1, .int 0, .ref a5, .int 0, .ref a6, .int 0, .int 0, .int 0, .int (-1), .ref a7, .ref a8, .int 0, .ref a9, .ref a10, .ref a11]))] H := hP
  have hD : va_D A [(a0, .inr (6, [.ref a1, .ref a2, .ref a3, .int 0, .ref a4, .int 0, .int 0, .int 1, .int 0, .ref a5, .int 0, .ref a6, .int 0, .int 0, .int 0, .int (-1), .ref a7, .ref a8, .int 0, .ref a9, .ref a10, .ref a11]))] := hD
  refine lv_aload_n hx hb dX7_account_19 rfl (lv_at hl 0 rfl) ?_
  refine va_get (D := G.1) (ci := 6) (v := .int 1) (C := RX7) (T := TX7) (N := 22) hx hb hts piX7 hown hK hP 0 rfl rfl 7 (by decide) (hts _ pm150) (fun _ h9 => h9) rfl dX7_account_20 ?_
  refine lv_if_le (tgt := 30) hx hb dX7_account_23 (by decide) (fun h9 => absurd h9 (by decide)) (fun _ => ?_)
  refine lv_lconst (v := 0) hx hb dX7_account_26 (by decide) ?_
  refine lv_goto (tgt := 52) hx hb dX7_account_27 (by decide) ?_
  refine W.widen (k := 0) (n := 0) (Nat.le_of_ble_eq_true rfl) (Nat.le_of_ble_eq_true rfl) ?_
  exact W.lret (v := 0) hx hb hr (fun t ht hW => ⟨⟨0, (fun _ => 0), rfl, rfl, by rw [ht]; exact hP, hD⟩, hS.F ht⟩) hS.2.2 dX7_account_52
set_option maxHeartbeats 4000000 in
set_option maxRecDepth 100000 in
theorem lc28 {p : Program} {l : Launch} {e : Env} {s : State} {m : MethodId} {below : List Frame} {meth : Method} {c : Code} {b : Nat} {xs : Nat → Int32} (hl9 : l.stackTraces = false) (G : pxG) (C0 : lw_At p s m meth c b 5 xs) (hG : pxOk G s) (hZ : pxZ (fun q : Nat => s.heap.size ≤ q) s s.heap) (a1 a2 a3 a4 a5 a6 a7 a8 a9 a10 a43 a86 a127 a131 a149 a150 a151 a152 a153 a154 a155 a156 a157 a158 a159 a160 a161 a162 : Nat) (H : Heap) (locs : List Loc) (hP : va_P G.1 pxCl [(a1, .inr (5, [.ref a2, .ref a43, .ref a86, .ref a127, .ref a131, .int 0, .int 0, .int (-1)])), (a2, .inr (2, [.ref a3, .ref a4, .ref a5, .ref a6, .ref a7, .ref a8, .ref a9, .ref a10, .int 0, .int 0])), (a10, .inl (G.2.1 1, 9, .inr (.inl (fun _ => 0)))), (a149, .inr (6, [.ref a150, .ref a151, .ref a152, .int 0, .ref a153, .int 0, .int 0, .int 0, .int 0, .ref a154, .int 0, .ref a155, .int 0, .int 0, .int 0, .int (-1), .ref a156, .ref a157, .int 0, .ref a158, .ref a159, .ref a160])), (a150, .inl (G.2.1 0, 4891, .inl (fun _ => 0))), (a161, .inl (G.2.1 1, 1, .inr (.inl (fun _ => 0))))] H) (hD : va_D (fun q : Nat => s.heap.size ≤ q) [(a1, .inr (5, [.ref a2, .ref a43, .ref a86, .ref a127, .ref a131, .int 0, .int 0, .int (-1)])), (a2, .inr (2, [.ref a3, .ref a4, .ref a5, .ref a6, .ref a7, .ref a8, .ref a9, .ref a10, .int 0, .int 0])), (a10, .inl (G.2.1 1, 9, .inr (.inl (fun _ => 0)))), (a149, .inr (6, [.ref a150, .ref a151, .ref a152, .int 0, .ref a153, .int 0, .int 0, .int 0, .int 0, .ref a154, .int 0, .ref a155, .int 0, .int 0, .int 0, .int (-1), .ref a156, .ref a157, .int 0, .ref a158, .ref a159, .ref a160])), (a150, .inl (G.2.1 0, 4891, .inl (fun _ => 0))), (a161, .inl (G.2.1 1, 1, .inr (.inl (fun _ => 0))))]) (hS : va_S (fun q : Nat => s.heap.size ≤ q) s.heap H locs) (ls : Array Slot) (hl : lv_has ls 9 [(5, .int 0), (4, .ref a162), (3, .ref a161), (2, .ref a149), (1, .ref a1), (0, .ref b)]) : W p l e room_1 s m #[Value.ref b] below meth c H locs 482 60053 (lw_Z below #[Value.ref b] s) (F0 m 2110 ls []) := by
  obtain ⟨hx, hb, hr, hml, hown, hts0, hX, hbl, hlocks, hgv⟩ := id C0
  have hts : ∀ w ∈ pxAll, w.before #[Value.ref b] s = true := fun w h => hts0 w (List.mem_filter.mp h).1
  have hA : ∀ q : Nat, s.heap.size ≤ q → (fun q : Nat => s.heap.size ≤ q) q := fun _ h => h
  have hbA : ¬ (fun q : Nat => s.heap.size ≤ q) b := Nat.not_le.mpr hbl
  have hK := hG.1
  obtain ⟨p1, hp1⟩ : ∃ z : Int32, xs 1 = z := ⟨_, rfl⟩
  have r1 := pxRng p1
  refine lv_aload_n hx hb dL_law_2110 rfl (lv_at hl 4 rfl) ?_
  refine lv_aload_n hx hb dL_law_2111 rfl (lv_at hl 5 rfl) ?_
  refine lv_iload hx hb dL_law_2112 (lv_at hl 0 rfl) ?_
  refine lv_iconst (v := 1) hx hb dL_law_2114 (by decide) ?_
  refine lv_iadd hx hb dL_law_2115 ?_
  refine pxTop (w := .int 1) (congrArg Value.int (by decide)) ?_
  refine va_sld hx hb hX hbl hbA hS (show ¬ ((1 : Int32) < 0 ∨ 5 ≤ (1 : Int32).toNatClampNeg) by decide +kernel) dL_law_2116 ?_
  refine pxTop (w := .int p1) (congrArg Value.int hp1) ?_
  refine lv_aload_n hx hb dL_law_2117 rfl (lv_at hl 2 rfl) ?_
  rcases Int.lt_or_le p1.toInt 0 with f1 | f1
  · skip
    refine pxCi (vx_runSW (As := [.ref a1, .int p1, .ref a161]) (rest := []) ⟨hx, hb, hml, hown, hts⟩ (k211_L_account l hl9 G H.size a1 a161 a2 a43 a86 a127 a131 p1 ⟨by omega, by omega⟩) (vx_cwSW 3 hts (pxGS pm613 pm614 pm136 pm615) rfl rfl rfl (by decide +kernel) ⟨(Nat.le_of_ble_eq_true rfl), (Nat.le_of_ble_eq_true rfl)⟩) (pxS hG hZ hP hD hS hA [0] rfl (by decide)) rfl rfl hl.1 rfl (lv_room (Nat.le_of_ble_eq_true rfl)) dL_law_2118 ⟨(Nat.le_of_ble_eq_true rfl), (Nat.le_of_ble_eq_true rfl)⟩) hP hD hS hA [0] [1, 2, 3, 4, 5] rfl rfl (by decide) (by decide) (fun r2 q1 H locs hw hP hD hS => ?_)
    have hw : r2 = 1 := hw
    subst hw
    have hP : va_P G.1 pxCl [(a2, .inr (2, [.ref a3, .ref a4, .ref a5, .ref a6, .ref a7, .ref a8, .ref a9, .ref a10, .int 0, .int 0])), (a10, .inl (G.2.1 1, 9, .inr (.inl (fun _ => 0)))), (a149, .inr (6, [.ref a150, .ref a151, .ref a152, .int 0, .ref a153, .int 0, .int 0, .int 0, .int 0, .ref a154, .int 0, .ref a155, .int 0, .int 0, .int 0, .int (-1), .ref a156, .ref a157, .int 0, .ref a158, .ref a159, .ref a160])), (a150, .inl (G.2.1 0, 4891, .inl (fun _ => 0))), (a161, .inl (G.2.1 1, 1, .inr (.inl (fun _ => 0))))] H := hP
    have hD : va_D (fun q : Nat => s.heap.size ≤ q) [(a2, .inr (2, [.ref a3, .ref a4, .ref a5, .ref a6, .ref a7, .ref a8, .ref a9, .ref a10, .int 0, .int 0])), (a10, .inl (G.2.1 1, 9, .inr (.inl (fun _ => 0)))), (a149, .inr (6, [.ref a150, .ref a151, .ref a152, .int 0, .ref a153, .int 0, .int 0, .int 0, .int 0, .ref a154, .int 0, .ref a155, .int 0, .int 0, .int 0, .int (-1), .ref a156, .ref a157, .int 0, .ref a158, .ref a159, .ref a160])), (a150, .inl (G.2.1 0, 4891, .inl (fun _ => 0))), (a161, .inl (G.2.1 1, 1, .inr (.inl (fun _ => 0))))] := hD
    refine W.widen (k := 483) (n := 60059) (Nat.le_of_ble_eq_true rfl) (Nat.le_of_ble_eq_true rfl) ?_
    refine lv_istore (lv' := [(6, .int 1), (5, .int 0), (4, .ref a162), (3, .ref a161), (2, .ref a149), (1, .ref a1), (0, .ref b)]) hx hb dL_law_2121 hl (by decide) rfl (fun ls hl => ?_)
    refine lv_aload_n hx hb dL_law_2123 rfl (lv_at hl 4 rfl) ?_
    refine lv_aload_n hx hb dL_law_2124 rfl (lv_at hl 6 rfl) ?_
    refine lv_iload hx hb dL_law_2125 (lv_at hl 1 rfl) ?_
    refine lv_iconst (v := 1) hx hb dL_law_2127 (by decide) ?_
    refine lv_iadd hx hb dL_law_2128 ?_
    refine pxTop (w := .int 1) (congrArg Value.int (by decide)) ?_
    refine va_sld hx hb hX hbl hbA hS (show ¬ ((1 : Int32) < 0 ∨ 5 ≤ (1 : Int32).toNatClampNeg) by decide +kernel) dL_law_2129 ?_
    refine pxTop (w := .int p1) (congrArg Value.int hp1) ?_
    refine pxCl' (va_runV (As := [.int p1]) (rest := []) ⟨hx, hb, hml, hown, hts⟩ (k213_X7_account l G H.size a149 a150 a151 a152 a153 a154 a155 a156 a157 a158 a159 a160 p1 ⟨by omega, by omega⟩) (cwV 1 hts (pxGV pm616 pm617 pm618 pm71 pm619) rfl rfl rfl (by decide +kernel) ⟨(Nat.le_of_ble_eq_true rfl), (Nat.le_of_ble_eq_true rfl)⟩) (pxV (ci := 6) (q0 := 2) hG hZ hP hD hS hA [2] rfl (by decide) rfl rfl) rfl rfl hl.1 rfl (lv_room (Nat.le_of_ble_eq_true rfl)) dL_law_2130 ⟨(Nat.le_of_ble_eq_true rfl), (Nat.le_of_ble_eq_true rfl)⟩) hP hD hS hA [2] [0, 1, 3, 4] rfl rfl (by decide) (by decide) (fun r4 q3 H locs hw hP hD hS => ?_)
    have hw : r4 = 0 := hw
    subst hw
    have hP : va_P G.1 pxCl [(a2, .inr (2, [.ref a3, .ref a4, .ref a5, .ref a6, .ref a7, .ref a8, .ref a9, .ref a10, .int 0, .int 0])), (a10, .inl (G.2.1 1, 9, .inr (.inl (fun _ => 0)))), (a150, .inl (G.2.1 0, 4891, .inl (fun _ => 0))), (a161, .inl (G.2.1 1, 1, .inr (.inl (fun _ => 0)))), (a149, .inr (6, [.ref a150, .ref a151, .ref a152, .int 0, .ref a153, .int 0, .int 0, .int 1, .int 0, .ref a154, .int 0, .ref a155, .int 0, .int 0, .int 0, .int (-1), .ref a156, .ref a157, .int 0, .ref a158, .ref a159, .ref a160]))] H := hP
    have hD : va_D (fun q : Nat => s.heap.size ≤ q) [(a2, .inr (2, [.ref a3, .ref a4, .ref a5, .ref a6, .ref a7, .ref a8, .ref a9, .ref a10, .int 0, .int 0])), (a10, .inl (G.2.1 1, 9, .inr (.inl (fun _ => 0)))), (a150, .inl (G.2.1 0, 4891, .inl (fun _ => 0))), (a161, .inl (G.2.1 1, 1, .inr (.inl (fun _ => 0)))), (a149, .inr (6, [.ref a150, .ref a151, .ref a152, .int 0, .ref a153, .int 0, .int 0, .int 1, .int 0, .ref a154, .int 0, .ref a155, .int 0, .int 0, .int 0, .int (-1), .ref a156, .ref a157, .int 0, .ref a158, .ref a159, .ref a160]))] := hD
    refine lv_lstore (lv' := [(7, .long 0), (6, .int 1), (5, .int 0), (4, .ref a162), (3, .ref a161), (2, .ref a149), (1, .ref a1), (0, .ref b)]) hx hb dL_law_2133 hl (by decide) rfl (fun ls hl => ?_)
    refine lv_aload_n hx hb dL_law_2135 rfl (lv_at hl 5 rfl) ?_
    refine pxCi (va_runV (As := []) (rest := []) ⟨hx, hb, hml, hown, hts⟩ (k158_X7_thrown l G H.size a149 a150 a151 a152 a153 a154 a155 a156 a157 a158 a159 a160) (cwV 0 hts (pxGV pm160 pm161 pm162 pm71 pm163) rfl rfl rfl (by decide +kernel) ⟨(Nat.le_of_ble_eq_true rfl), (Nat.le_of_ble_eq_true rfl)⟩) (pxV (ci := 6) (q0 := 4) hG hZ hP hD hS hA [4] rfl (by decide) rfl rfl) rfl rfl hl.1 rfl (lv_room (Nat.le_of_ble_eq_true rfl)) dL_law_2136 ⟨(Nat.le_of_ble_eq_true rfl), (Nat.le_of_ble_eq_true rfl)⟩) hP hD hS hA [4] [0, 1, 2, 3] rfl rfl (by decide) (by decide) (fun r6 q5 H locs hw hP hD hS => ?_)
    have hw : r6 = 1 := hw
    subst hw
    have hP : va_P G.1 pxCl [(a2, .inr (2, [.ref a3, .ref a4, .ref a5, .ref a6, .ref a7, .ref a8, .ref a9, .ref a10, .int 0, .int 0])), (a10, .inl (G.2.1 1, 9, .inr (.inl (fun _ => 0)))), (a150, .inl (G.2.1 0, 4891, .inl (fun _ => 0))), (a161, .inl (G.2.1 1, 1, .inr (.inl (fun _ => 0)))), (a149, .inr (6, [.ref a150, .ref a151, .ref a152, .int 0, .ref a153, .int 0, .int 0, .int 1, .int 0, .ref a154, .int 0, .ref a155, .int 0, .int 0, .int 0, .int (-1), .ref a156, .ref a157, .int 0, .ref a158, .ref a159, .ref a160]))] H := hP
    have hD : va_D (fun q : Nat => s.heap.size ≤ q) [(a2, .inr (2, [.ref a3, .ref a4, .ref a5, .ref a6, .ref a7, .ref a8, .ref a9, .ref a10, .int 0, .int 0])), (a10, .inl (G.2.1 1, 9, .inr (.inl (fun _ => 0)))), (a150, .inl (G.2.1 0, 4891, .inl (fun _ => 0))), (a161, .inl (G.2.1 1, 1, .inr (.inl (fun _ => 0)))), (a149, .inr (6, [.ref a150, .ref a151, .ref a152, .int 0, .ref a153, .int 0, .int 0, .int 1, .int 0, .ref a154, .int 0, .ref a155, .int 0, .int 0, .int 0, .int (-1), .ref a156, .ref a157, .int 0, .ref a158, .ref a159, .ref a160]))] := hD
    refine lv_iload hx hb dL_law_2139 (lv_at hl 1 rfl) ?_
    refine lv_icmp_eq (tgt := 2146) hx hb dL_law_2141 (by decide) (fun _ => ?_) (fun h9 => absurd (by decide) h9)
    refine lv_iload hx hb dL_law_2146 (lv_at hl 1 rfl) ?_
    refine lv_if_ne (tgt := 2162) hx hb dL_law_2148 (by decide) (fun _ => ?_) (fun h9 => absurd h9 (by decide))
    refine lv_goto (tgt := 2658) hx hb dL_law_2162 (by decide) ?_
    refine W.widen (k := 2000) (n := 200000) (Nat.le_of_ble_eq_true rfl) (Nat.le_of_ble_eq_true rfl) ?_
    exact law_tail hl9 G C0 hG hZ H locs hS ls (lv_sub hl [2, 7] rfl)
  · skip
    rcases Int.lt_or_le p1.toInt 9 with f2 | f2
    · skip
      refine pxCi (vx_runSW (As := [.ref a1, .int p1, .ref a161]) (rest := []) ⟨hx, hb, hml, hown, hts⟩ (k215_L_account l G H.size a1 a2 a10 a161 a43 a86 a127 a131 a3 a4 a5 a6 a7 a8 a9 p1 ⟨by omega, by omega⟩) (vx_cwSW 3 hts (pxGS pm613 pm614 pm136 pm615) rfl rfl rfl (by decide +kernel) ⟨(Nat.le_of_ble_eq_true rfl), (Nat.le_of_ble_eq_true rfl)⟩) (pxS hG hZ hP hD hS hA [0, 1, 2, 5] rfl (by decide)) rfl rfl hl.1 rfl (lv_room (Nat.le_of_ble_eq_true rfl)) dL_law_2118 ⟨(Nat.le_of_ble_eq_true rfl), (Nat.le_of_ble_eq_true rfl)⟩) hP hD hS hA [0, 1, 2, 5] [3, 4] rfl rfl (by decide) (by decide) (fun r2 q1 H locs hw hP hD hS => ?_)
      have hw : r2 = 0 := hw
      subst hw
      have hP : va_P G.1 pxCl [(a149, .inr (6, [.ref a150, .ref a151, .ref a152, .int 0, .ref a153, .int 0, .int 0, .int 0, .int 0, .ref a154, .int 0, .ref a155, .int 0, .int 0, .int 0, .int (-1), .ref a156, .ref a157, .int 0, .ref a158, .ref a159, .ref a160])), (a150, .inl (G.2.1 0, 4891, .inl (fun _ => 0))), (a161, .inl (G.2.1 1, 1, .inr (.inl (vp_updL (fun _ => 0) 0 0))))] H := hP
      have hD : va_D (fun q : Nat => s.heap.size ≤ q) [(a149, .inr (6, [.ref a150, .ref a151, .ref a152, .int 0, .ref a153, .int 0, .int 0, .int 0, .int 0, .ref a154, .int 0, .ref a155, .int 0, .int 0, .int 0, .int (-1), .ref a156, .ref a157, .int 0, .ref a158, .ref a159, .ref a160])), (a150, .inl (G.2.1 0, 4891, .inl (fun _ => 0))), (a161, .inl (G.2.1 1, 1, .inr (.inl (vp_updL (fun _ => 0) 0 0))))] := hD
      refine lv_istore (lv' := [(6, .int 0), (5, .int 0), (4, .ref a162), (3, .ref a161), (2, .ref a149), (1, .ref a1), (0, .ref b)]) hx hb dL_law_2121 hl (by decide) rfl (fun ls hl => ?_)
      refine lv_aload_n hx hb dL_law_2123 rfl (lv_at hl 4 rfl) ?_
      refine lv_aload_n hx hb dL_law_2124 rfl (lv_at hl 6 rfl) ?_
      refine lv_iload hx hb dL_law_2125 (lv_at hl 1 rfl) ?_
      refine lv_iconst (v := 1) hx hb dL_law_2127 (by decide) ?_
      refine lv_iadd hx hb dL_law_2128 ?_
      refine pxTop (w := .int 1) (congrArg Value.int (by decide)) ?_
      refine va_sld hx hb hX hbl hbA hS (show ¬ ((1 : Int32) < 0 ∨ 5 ≤ (1 : Int32).toNatClampNeg) by decide +kernel) dL_law_2129 ?_
      refine pxTop (w := .int p1) (congrArg Value.int hp1) ?_
      refine pxCl' (va_runV (As := [.int p1]) (rest := []) ⟨hx, hb, hml, hown, hts⟩ (k219_X7_account l G H.size a149 a150 a151 a152 a153 a154 a155 a156 a157 a158 a159 a160 p1 ⟨by omega, by omega⟩) (cwV 1 hts (pxGV pm616 pm617 pm618 pm71 pm619) rfl rfl rfl (by decide +kernel) ⟨(Nat.le_of_ble_eq_true rfl), (Nat.le_of_ble_eq_true rfl)⟩) (pxV (ci := 6) (q0 := 0) hG hZ hP hD hS hA [0, 1] rfl (by decide) rfl rfl) rfl rfl hl.1 rfl (lv_room (Nat.le_of_ble_eq_true rfl)) dL_law_2130 ⟨(Nat.le_of_ble_eq_true rfl), (Nat.le_of_ble_eq_true rfl)⟩) hP hD hS hA [0, 1] [2] rfl rfl (by decide) (by decide) (fun r4 q3 H locs hw hP hD hS => ?_)
      have hw : r4 = 0 := hw
      subst hw
      have hP : va_P G.1 pxCl [(a161, .inl (G.2.1 1, 1, .inr (.inl (vp_updL (fun _ => 0) 0 0)))), (a149, .inr (6, [.ref a150, .ref a151, .ref a152, .int 0, .ref a153, .int 0, .int 0, .int 0, .int 0, .ref a154, .int 0, .ref a155, .int 0, .int 0, .int 0, .int (-1), .ref a156, .ref a157, .int 0, .ref a158, .ref a159, .ref a160]))] H := hP
      have hD : va_D (fun q : Nat => s.heap.size ≤ q) [(a161, .inl (G.2.1 1, 1, .inr (.inl (vp_updL (fun _ => 0) 0 0)))), (a149, .inr (6, [.ref a150, .ref a151, .ref a152, .int 0, .ref a153, .int 0, .int 0, .int 0, .int 0, .ref a154, .int 0, .ref a155, .int 0, .int 0, .int 0, .int (-1), .ref a156, .ref a157, .int 0, .ref a158, .ref a159, .ref a160]))] := hD
      refine lv_lstore (lv' := [(7, .long 0), (6, .int 0), (5, .int 0), (4, .ref a162), (3, .ref a161), (2, .ref a149), (1, .ref a1), (0, .ref b)]) hx hb dL_law_2133 hl (by decide) rfl (fun ls hl => ?_)
      refine lv_aload_n hx hb dL_law_2135 rfl (lv_at hl 5 rfl) ?_
      refine pxCi (va_runV (As := []) (rest := []) ⟨hx, hb, hml, hown, hts⟩ (k207_X7_thrown l G H.size a149 a150 a151 a152 a153 a154 a155 a156 a157 a158 a159 a160) (cwV 0 hts (pxGV pm160 pm161 pm162 pm71 pm163) rfl rfl rfl (by decide +kernel) ⟨(Nat.le_of_ble_eq_true rfl), (Nat.le_of_ble_eq_true rfl)⟩) (pxV (ci := 6) (q0 := 1) hG hZ hP hD hS hA [1] rfl (by decide) rfl rfl) rfl rfl hl.1 rfl (lv_room (Nat.le_of_ble_eq_true rfl)) dL_law_2136 ⟨(Nat.le_of_ble_eq_true rfl), (Nat.le_of_ble_eq_true rfl)⟩) hP hD hS hA [1] [0] rfl rfl (by decide) (by decide) (fun r6 q5 H locs hw hP hD hS => ?_)
      have hw : r6 = 0 := hw
      subst hw
      have hP : va_P G.1 pxCl [(a161, .inl (G.2.1 1, 1, .inr (.inl (vp_updL (fun _ => 0) 0 0)))), (a149, .inr (6, [.ref a150, .ref a151, .ref a152, .int 0, .ref a153, .int 0, .int 0, .int 0, .int 0, .ref a154, .int 0, .ref a155, .int 0, .int 0, .int 0, .int (-1), .ref a156, .ref a157, .int 0, .ref a158, .ref a159, .ref a160]))] H := hP
      have hD : va_D (fun q : Nat => s.heap.size ≤ q) [(a161, .inl (G.2.1 1, 1, .inr (.inl (vp_updL (fun _ => 0) 0 0)))), (a149, .inr (6, [.ref a150, .ref a151, .ref a152, .int 0, .ref a153, .int 0, .int 0, .int 0, .int 0, .ref a154, .int 0, .ref a155, .int 0, .int 0, .int 0, .int (-1), .ref a156, .ref a157, .int 0, .ref a158, .ref a159, .ref a160]))] := hD
      refine lv_iload hx hb dL_law_2139 (lv_at hl 1 rfl) ?_
      refine lv_icmp_eq (tgt := 2146) hx hb dL_law_2141 (by decide) (fun _ => ?_) (fun h9 => absurd (by decide) h9)
      refine lv_iload hx hb dL_law_2146 (lv_at hl 1 rfl) ?_
      refine lv_if_ne (tgt := 2162) hx hb dL_law_2148 (by decide) (fun h9 => absurd h9 (by decide)) (fun _ => ?_)
      refine lv_aload_n hx hb dL_law_2151 rfl (lv_at hl 4 rfl) ?_
      refine lv_iconst (v := 0) hx hb dL_law_2152 (by decide) ?_
      refine va_lald hx hb hK hP 0 1 rfl rfl (show ¬ ((0 : Int32) < 0 ∨ 1 ≤ (0 : Int32).toNatClampNeg) by decide +kernel) dL_law_2153 ?_
      refine pxTop (w := .long 0) rfl ?_
      refine lv_lload hx hb dL_law_2154 (lv_at hl 0 rfl) ?_
      refine W.lcmp hx hb dL_law_2156 ?_
      refine pxTop (w := .int 0) (congrArg Value.int (by decide)) ?_
      refine lv_if_eq (tgt := 2162) hx hb dL_law_2157 (by decide) (fun _ => ?_) (fun h9 => absurd (by decide) h9)
      refine lv_goto (tgt := 2658) hx hb dL_law_2162 (by decide) ?_
      refine W.widen (k := 2000) (n := 200000) (Nat.le_of_ble_eq_true rfl) (Nat.le_of_ble_eq_true rfl) ?_
      exact law_tail hl9 G C0 hG hZ H locs hS ls (lv_sub hl [2, 7] rfl)
    · skip
      refine pxCi (vx_runSW (As := [.ref a1, .int p1, .ref a161]) (rest := []) ⟨hx, hb, hml, hown, hts⟩ (k222_L_account l hl9 G H.size a1 a161 a2 a43 a86 a127 a131 p1 ⟨by omega, by omega⟩) (vx_cwSW 3 hts (pxGS pm613 pm614 pm136 pm615) rfl rfl rfl (by decide +kernel) ⟨(Nat.le_of_ble_eq_true rfl), (Nat.le_of_ble_eq_true rfl)⟩) (pxS hG hZ hP hD hS hA [0] rfl (by decide)) rfl rfl hl.1 rfl (lv_room (Nat.le_of_ble_eq_true rfl)) dL_law_2118 ⟨(Nat.le_of_ble_eq_true rfl), (Nat.le_of_ble_eq_true rfl)⟩) hP hD hS hA [0] [1, 2, 3, 4, 5] rfl rfl (by decide) (by decide) (fun r2 q1 H locs hw hP hD hS => ?_)
      have hw : r2 = 1 := hw
      subst hw
      have hP : va_P G.1 pxCl [(a2, .inr (2, [.ref a3, .ref a4, .ref a5, .ref a6, .ref a7, .ref a8, .ref a9, .ref a10, .int 0, .int 0])), (a10, .inl (G.2.1 1, 9, .inr (.inl (fun _ => 0)))), (a149, .inr (6, [.ref a150, .ref a151, .ref a152, .int 0, .ref a153, .int 0, .int 0, .int 0, .int 0, .ref a154, .int 0, .ref a155, .int 0, .int 0, .int 0, .int (-1), .ref a156, .ref a157, .int 0, .ref a158, .ref a159, .ref a160])), (a150, .inl (G.2.1 0, 4891, .inl (fun _ => 0))), (a161, .inl (G.2.1 1, 1, .inr (.inl (fun _ => 0))))] H := hP
      have hD : va_D (fun q : Nat => s.heap.size ≤ q) [(a2, .inr (2, [.ref a3, .ref a4, .ref a5, .ref a6, .ref a7, .ref a8, .ref a9, .ref a10, .int 0, .int 0])), (a10, .inl (G.2.1 1, 9, .inr (.inl (fun _ => 0)))), (a149, .inr (6, [.ref a150, .ref a151, .ref a152, .int 0, .ref a153, .int 0, .int 0, .int 0, .int 0, .ref a154, .int 0, .ref a155, .int 0, .int 0, .int 0, .int (-1), .ref a156, .ref a157, .int 0, .ref a158, .ref a159, .ref a160])), (a150, .inl (G.2.1 0, 4891, .inl (fun _ => 0))), (a161, .inl (G.2.1 1, 1, .inr (.inl (fun _ => 0))))] := hD
      refine W.widen (k := 483) (n := 60059) (Nat.le_of_ble_eq_true rfl) (Nat.le_of_ble_eq_true rfl) ?_
      refine lv_istore (lv' := [(6, .int 1), (5, .int 0), (4, .ref a162), (3, .ref a161), (2, .ref a149), (1, .ref a1), (0, .ref b)]) hx hb dL_law_2121 hl (by decide) rfl (fun ls hl => ?_)
      refine lv_aload_n hx hb dL_law_2123 rfl (lv_at hl 4 rfl) ?_
      refine lv_aload_n hx hb dL_law_2124 rfl (lv_at hl 6 rfl) ?_
      refine lv_iload hx hb dL_law_2125 (lv_at hl 1 rfl) ?_
      refine lv_iconst (v := 1) hx hb dL_law_2127 (by decide) ?_
      refine lv_iadd hx hb dL_law_2128 ?_
      refine pxTop (w := .int 1) (congrArg Value.int (by decide)) ?_
      refine va_sld hx hb hX hbl hbA hS (show ¬ ((1 : Int32) < 0 ∨ 5 ≤ (1 : Int32).toNatClampNeg) by decide +kernel) dL_law_2129 ?_
      refine pxTop (w := .int p1) (congrArg Value.int hp1) ?_
      refine pxCl' (va_runV (As := [.int p1]) (rest := []) ⟨hx, hb, hml, hown, hts⟩ (k224_X7_account l G H.size a149 a150 a151 a152 a153 a154 a155 a156 a157 a158 a159 a160 p1 ⟨by omega, by omega⟩) (cwV 1 hts (pxGV pm616 pm617 pm618 pm71 pm619) rfl rfl rfl (by decide +kernel) ⟨(Nat.le_of_ble_eq_true rfl), (Nat.le_of_ble_eq_true rfl)⟩) (pxV (ci := 6) (q0 := 2) hG hZ hP hD hS hA [2] rfl (by decide) rfl rfl) rfl rfl hl.1 rfl (lv_room (Nat.le_of_ble_eq_true rfl)) dL_law_2130 ⟨(Nat.le_of_ble_eq_true rfl), (Nat.le_of_ble_eq_true rfl)⟩) hP hD hS hA [2] [0, 1, 3, 4] rfl rfl (by decide) (by decide) (fun r4 q3 H locs hw hP hD hS => ?_)
      have hw : r4 = 0 := hw
      subst hw
      have hP : va_P G.1 pxCl [(a2, .inr (2, [.ref a3, .ref a4, .ref a5, .ref a6, .ref a7, .ref a8, .ref a9, .ref a10, .int 0, .int 0])), (a10, .inl (G.2.1 1, 9, .inr (.inl (fun _ => 0)))), (a150, .inl (G.2.1 0, 4891, .inl (fun _ => 0))), (a161, .inl (G.2.1 1, 1, .inr (.inl (fun _ => 0)))), (a149, .inr (6, [.ref a150, .ref a151, .ref a152, .int 0, .ref a153, .int 0, .int 0, .int 1, .int 0, .ref a154, .int 0, .ref a155, .int 0, .int 0, .int 0, .int (-1), .ref a156, .ref a157, .int 0, .ref a158, .ref a159, .ref a160]))] H := hP
      have hD : va_D (fun q : Nat => s.heap.size ≤ q) [(a2, .inr (2, [.ref a3, .ref a4, .ref a5, .ref a6, .ref a7, .ref a8, .ref a9, .ref a10, .int 0, .int 0])), (a10, .inl (G.2.1 1, 9, .inr (.inl (fun _ => 0)))), (a150, .inl (G.2.1 0, 4891, .inl (fun _ => 0))), (a161, .inl (G.2.1 1, 1, .inr (.inl (fun _ => 0)))), (a149, .inr (6, [.ref a150, .ref a151, .ref a152, .int 0, .ref a153, .int 0, .int 0, .int 1, .int 0, .ref a154, .int 0, .ref a155, .int 0, .int 0, .int 0, .int (-1), .ref a156, .ref a157, .int 0, .ref a158, .ref a159, .ref a160]))] := hD
      refine lv_lstore (lv' := [(7, .long 0), (6, .int 1), (5, .int 0), (4, .ref a162), (3, .ref a161), (2, .ref a149), (1, .ref a1), (0, .ref b)]) hx hb dL_law_2133 hl (by decide) rfl (fun ls hl => ?_)
      refine lv_aload_n hx hb dL_law_2135 rfl (lv_at hl 5 rfl) ?_
      refine pxCi (va_runV (As := []) (rest := []) ⟨hx, hb, hml, hown, hts⟩ (k158_X7_thrown l G H.size a149 a150 a151 a152 a153 a154 a155 a156 a157 a158 a159 a160) (cwV 0 hts (pxGV pm160 pm161 pm162 pm71 pm163) rfl rfl rfl (by decide +kernel) ⟨(Nat.le_of_ble_eq_true rfl), (Nat.le_of_ble_eq_true rfl)⟩) (pxV (ci := 6) (q0 := 4) hG hZ hP hD hS hA [4] rfl (by decide) rfl rfl) rfl rfl hl.1 rfl (lv_room (Nat.le_of_ble_eq_true rfl)) dL_law_2136 ⟨(Nat.le_of_ble_eq_true rfl), (Nat.le_of_ble_eq_true rfl)⟩) hP hD hS hA [4] [0, 1, 2, 3] rfl rfl (by decide) (by decide) (fun r6 q5 H locs hw hP hD hS => ?_)
      have hw : r6 = 1 := hw
      subst hw
      have hP : va_P G.1 pxCl [(a2, .inr (2, [.ref a3, .ref a4, .ref a5, .ref a6, .ref a7, .ref a8, .ref a9, .ref a10, .int 0, .int 0])), (a10, .inl (G.2.1 1, 9, .inr (.inl (fun _ => 0)))), (a150, .inl (G.2.1 0, 4891, .inl (fun _ => 0))), (a161, .inl (G.2.1 1, 1, .inr (.inl (fun _ => 0)))), (a149, .inr (6, [.ref a150, .ref a151, .ref a152, .int 0, .ref a153, .int 0, .int 0, .int 1, .int 0, .ref a154, .int 0, .ref a155, .int 0, .int 0, .int 0, .int (-1), .ref a156, .ref a157, .int 0, .ref a158, .ref a159, .ref a160]))] H := hP
      have hD : va_D (fun q : Nat => s.heap.size ≤ q) [(a2, .inr (2, [.ref a3, .ref a4, .ref a5, .ref a6, .ref a7, .ref a8, .ref a9, .ref a10, .int 0, .int 0])), (a10, .inl (G.2.1 1, 9, .inr (.inl (fun _ => 0)))), (a150, .inl (G.2.1 0, 4891, .inl (fun _ => 0))), (a161, .inl (G.2.1 1, 1, .inr (.inl (fun _ => 0)))), (a149, .inr (6, [.ref a150, .ref a151, .ref a152, .int 0, .ref a153, .int 0, .int 0, .int 1, .int 0, .ref a154, .int 0, .ref a155, .int 0, .int 0, .int 0, .int (-1), .ref a156, .ref a157, .int 0, .ref a158, .ref a159, .ref a160]))] := hD
      refine lv_iload hx hb dL_law_2139 (lv_at hl 1 rfl) ?_
      refine lv_icmp_eq (tgt := 2146) hx hb dL_law_2141 (by decide) (fun _ => ?_) (fun h9 => absurd (by decide) h9)
      refine lv_iload hx hb dL_law_2146 (lv_at hl 1 rfl) ?_
      refine lv_if_ne (tgt := 2162) hx hb dL_law_2148 (by decide) (fun _ => ?_) (fun h9 => absurd h9 (by decide))
      refine lv_goto (tgt := 2658) hx hb dL_law_2162 (by decide) ?_
      refine W.widen (k := 2000) (n := 200000) (Nat.le_of_ble_eq_true rfl) (Nat.le_of_ble_eq_true rfl) ?_
      exact law_tail hl9 G C0 hG hZ H locs hS ls (lv_sub hl [2, 7] rfl)
