theorem pm456 : Cond.methodLink RX6 289 yX3_wasMortgage ∈ pxAll := pxM 965 (by decide +kernel) rfl
theorem pm457 : Cond.methodLink RX6 195 yX6_requireMortgage ∈ pxAll := pxM 961 (by decide +kernel) rfl
theorem pm458 : Cond.instanceMethod yX6_requireMortgage ∈ pxAll := pxM 963 (by decide +kernel) rfl
theorem pm459 : Cond.selects RX6 yX6_requireMortgage yX6_requireMortgage ∈ pxAll := pxM 21 (by decide +kernel) rfl
set_option maxRecDepth 100000 in
theorem pm460 : Cond.code yX6_requireMortgage cX6_requireMortgage 2 none ∈ pxAll := pxM 964 rfl rfl
theorem pm461 : Cond.methodLink RL 72 yX6_mortgage ∈ pxAll := pxM 957 (by decide +kernel) rfl
theorem pm462 : Cond.instanceMethod yX6_mortgage ∈ pxAll := pxM 958 (by decide +kernel) rfl
theorem pm463 : Cond.selects RX6 yX6_mortgage yX6_mortgage ∈ pxAll := pxM 959 (by decide +kernel) rfl
set_option maxRecDepth 100000 in
theorem pm464 : Cond.code yX6_mortgage cX6_mortgage 3 (some .int) ∈ pxAll := pxM 960 rfl rfl
theorem pm465 : Cond.methodLink RL 203 yL_mortgage ∈ pxAll := pxM 954 (by decide +kernel) rfl
theorem pm466 : Cond.static yL_mortgage ∈ pxAll := pxM 955 (by decide +kernel) rfl
set_option maxRecDepth 100000 in
theorem pm467 : Cond.codeWith yL_mortgage cL_mortgage 5 (some .int) [(0, 10, 13, 67), (0, 10, 17, 51)] ∈ pxAll := pxM 956 rfl rfl
theorem pm468 : Cond.methodLink RL 205 yX7_mortgage ∈ pxAll := pxM 1655 (by decide +kernel) rfl
theorem pm469 : Cond.instanceMethod yX7_mortgage ∈ pxAll := pxM 1656 (by decide +kernel) rfl
theorem pm470 : Cond.selects RX7 yX7_mortgage yX7_mortgage ∈ pxAll := pxM 1657 (by decide +kernel) rfl
set_option maxRecDepth 100000 in
theorem pm471 : Cond.code yX7_mortgage cX7_mortgage 5 (some .int) ∈ pxAll := pxM 1658 rfl rfl
theorem dL_law_1297 : decode cL_law 1297 = .ok (.aload_n 1, 1) := by decide +kernel
theorem dL_law_1298 : decode cL_law 1298 = .ok (.aload_n 0, 1) := by decide +kernel
theorem dL_law_1299 : decode cL_law 1299 = .ok (.iload 5, 2) := by decide +kernel
theorem dL_law_1301 : decode cL_law 1301 = .ok (.iconst 1, 1) := by decide +kernel
theorem dL_law_1302 : decode cL_law 1302 = .ok (.iadd, 1) := by decide +kernel
theorem dL_law_1303 : decode cL_law 1303 = .ok (.iaload, 1) := by decide +kernel
theorem dL_law_1304 : decode cL_law 1304 = .ok (.aload_n 0, 1) := by decide +kernel
theorem dL_law_1305 : decode cL_law 1305 = .ok (.iload 5, 2) := by decide +kernel
theorem dL_law_1307 : decode cL_law 1307 = .ok (.iconst 2, 1) := by decide +kernel
theorem dL_law_1308 : decode cL_law 1308 = .ok (.iadd, 1) := by decide +kernel
theorem dL_law_1309 : decode cL_law 1309 = .ok (.iaload, 1) := by decide +kernel
theorem dL_law_1310 : decode cL_law 1310 = .ok (.aload_n 3, 1) := by decide +kernel
theorem dL_mortgage_0 : decode cL_mortgage 0 = .ok (.aload_n 3, 1) := by decide +kernel
theorem dL_mortgage_1 : decode cL_mortgage 1 = .ok (.iconst 0, 1) := by decide +kernel
theorem dL_mortgage_2 : decode cL_mortgage 2 = .ok (.aload_n 0, 1) := by decide +kernel
theorem dL_mortgage_3 : decode cL_mortgage 3 = .ok (.iload_n 1, 1) := by decide +kernel
theorem dL_mortgage_4 : decode cL_mortgage 4 = .ok (.iload_n 2, 1) := by decide +kernel
theorem dX6_mortgage_0 : decode cX6_mortgage 0 = .ok (.aload_n 0, 1) := by decide +kernel
theorem dX6_mortgage_1 : decode cX6_mortgage 1 = .ok (.iload_n 1, 1) := by decide +kernel
theorem dX6_requireMortgage_0 : decode cX6_requireMortgage 0 = .ok (.aload_n 0, 1) := by decide +kernel
theorem dX6_requireMortgage_1 : decode cX6_requireMortgage 1 = .ok (.getfield 10, 3) := by decide +kernel
theorem dX6_requireMortgage_4 : decode cX6_requireMortgage 4 = .ok (.iload_n 1, 1) := by decide +kernel
theorem dX6_requireMortgage_5 : decode cX6_requireMortgage 5 = .ok (.invokevirtual 289, 3) := by decide +kernel
theorem dX6_requireMortgage_8 : decode cX6_requireMortgage 8 = .ok (.ifCond .ne 14, 3) := by decide +kernel
theorem dX6_requireMortgage_11 : decode cX6_requireMortgage 11 = .ok (.new 276, 3) := by decide +kernel
theorem dX6_requireMortgage_14 : decode cX6_requireMortgage 14 = .ok (.dup, 1) := by decide +kernel
theorem dX6_requireMortgage_15 : decode cX6_requireMortgage 15 = .ok (.ldc_w 292, 3) := by decide +kernel
theorem dX6_requireMortgage_18 : decode cX6_requireMortgage 18 = .ok (.invokespecial 280, 3) := by decide +kernel
theorem dX6_requireMortgage_21 : decode cX6_requireMortgage 21 = .ok (.athrow, 1) := by decide +kernel
theorem dX6_mortgage_2 : decode cX6_mortgage 2 = .ok (.invokevirtual 195, 3) := by decide +kernel
theorem dL_mortgage_5 : decode cL_mortgage 5 = .ok (.invokevirtual 72, 3) := by decide +kernel
theorem dL_mortgage_13 : decode cL_mortgage 13 = .ok (.astore 4, 2) := by decide +kernel
theorem dL_mortgage_15 : decode cL_mortgage 15 = .ok (.iconst 1, 1) := by decide +kernel
theorem dL_mortgage_16 : decode cL_mortgage 16 = .ok (.ireturn, 1) := by decide +kernel
theorem dL_law_1311 : decode cL_law 1311 = .ok (.invokestatic 203, 3) := by decide +kernel
theorem dL_law_1314 : decode cL_law 1314 = .ok (.istore 6, 2) := by decide +kernel
theorem dL_law_1316 : decode cL_law 1316 = .ok (.aload_n 2, 1) := by decide +kernel
theorem dL_law_1317 : decode cL_law 1317 = .ok (.aload_n 0, 1) := by decide +kernel
theorem dL_law_1318 : decode cL_law 1318 = .ok (.iload 5, 2) := by decide +kernel
theorem dL_law_1320 : decode cL_law 1320 = .ok (.iconst 1, 1) := by decide +kernel
theorem dL_law_1321 : decode cL_law 1321 = .ok (.iadd, 1) := by decide +kernel
theorem dL_law_1322 : decode cL_law 1322 = .ok (.iaload, 1) := by decide +kernel
theorem dL_law_1323 : decode cL_law 1323 = .ok (.aload_n 0, 1) := by decide +kernel
theorem dL_law_1324 : decode cL_law 1324 = .ok (.iload 5, 2) := by decide +kernel
theorem dL_law_1326 : decode cL_law 1326 = .ok (.iconst 2, 1) := by decide +kernel
theorem dL_law_1327 : decode cL_law 1327 = .ok (.iadd, 1) := by decide +kernel
theorem dL_law_1328 : decode cL_law 1328 = .ok (.iaload, 1) := by decide +kernel
theorem dX7_mortgage_0 : decode cX7_mortgage 0 = .ok (.aload_n 0, 1) := by decide +kernel
theorem dX7_mortgage_1 : decode cX7_mortgage 1 = .ok (.aload_n 0, 1) := by decide +kernel
theorem dX7_mortgage_2 : decode cX7_mortgage 2 = .ok (.iload_n 1, 1) := by decide +kernel
theorem dX7_mortgage_3 : decode cX7_mortgage 3 = .ok (.invokevirtual 69, 3) := by decide +kernel
theorem dX7_mortgage_6 : decode cX7_mortgage 6 = .ok (.ifCond .ne 7, 3) := by decide +kernel
theorem dX7_mortgage_9 : decode cX7_mortgage 9 = .ok (.iconst 1, 1) := by decide +kernel
theorem dX7_mortgage_10 : decode cX7_mortgage 10 = .ok (.goto 17, 3) := by decide +kernel
theorem dX7_mortgage_27 : decode cX7_mortgage 27 = .ok (.putfield 48, 3) := by decide +kernel
theorem dX7_mortgage_30 : decode cX7_mortgage 30 = .ok (.aload_n 0, 1) := by decide +kernel
theorem dX7_mortgage_31 : decode cX7_mortgage 31 = .ok (.getfield 48, 3) := by decide +kernel
theorem dX7_mortgage_34 : decode cX7_mortgage 34 = .ok (.ifCond .le 5, 3) := by decide +kernel
theorem dX7_mortgage_37 : decode cX7_mortgage 37 = .ok (.iconst 0, 1) := by decide +kernel
theorem dX7_mortgage_38 : decode cX7_mortgage 38 = .ok (.ireturn, 1) := by decide +kernel
theorem dL_law_1329 : decode cL_law 1329 = .ok (.invokevirtual 205, 3) := by decide +kernel
theorem dL_law_1332 : decode cL_law 1332 = .ok (.istore 7, 2) := by decide +kernel
theorem dL_law_1334 : decode cL_law 1334 = .ok (.aload_n 2, 1) := by decide +kernel
theorem dL_law_1335 : decode cL_law 1335 = .ok (.invokevirtual 147, 3) := by decide +kernel
theorem dL_law_1338 : decode cL_law 1338 = .ok (.iload 6, 2) := by decide +kernel
theorem dL_law_1340 : decode cL_law 1340 = .ok (.if_icmp .eq 5, 3) := by decide +kernel
theorem dL_law_1345 : decode cL_law 1345 = .ok (.iload 6, 2) := by decide +kernel
theorem dL_law_1347 : decode cL_law 1347 = .ok (.ifCond .ne 15, 3) := by decide +kernel
theorem dL_law_1362 : decode cL_law 1362 = .ok (.goto 1296, 3) := by decide +kernel
set_option maxHeartbeats 4000000 in
set_option maxRecDepth 100000 in
theorem k162_X6_requireMortgage (l : Launch) (hl9 : l.stackTraces = false) (G : pxG) (sz : Nat) (a0 a1 a2 a3 a4 a5 a6 a7 a8 a9 a10 a11 a12 a13 : Nat) (i0 : Int32) : vx_Met l yX6_requireMortgage (Cond.code yX6_requireMortgage cX6_requireMortgage 2 none :: pxAll) ({ frames := 6, cells := 1, slots := 6, locals := 90 } : Room) (va_Pc [.ref a0, .int i0] (pxPre G [(a0, .inr (5, [.ref a1, .ref a2, .ref a3, .ref a4, .ref a5, .int 0, .int 0, .int (-1)])), (a1, .inr (2, [.ref a6, .ref a7, .ref a8, .ref a9, .ref a10, .ref a11, .ref a12, .ref a13, .int 0, .int 0]))] sz)) pxF (pxXC "java/lang/IndexOutOfBoundsException" (va_A [(a0, .inr (5, [.ref a1, .ref a2, .ref a3, .ref a4, .ref a5, .int 0, .int 0, .int (-1)])), (a1, .inr (2, [.ref a6, .ref a7, .ref a8, .ref a9, .ref a10, .ref a11, .ref a12, .ref a13, .int 0, .int 0]))] sz)) 1 6 (va_A [(a0, .inr (5, [.ref a1, .ref a2, .ref a3, .ref a4, .ref a5, .int 0, .int 0, .int (-1)])), (a1, .inr (2, [.ref a6, .ref a7, .ref a8, .ref a9, .ref a10, .ref a11, .ref a12, .ref a13, .int 0, .int 0]))] sz) := by
  refine vx_ofW (cc := cX6_requireMortgage) (maxL := 2) (ret := none) (by decide) rfl ?_
  intro p e s m args below meth c s₁ B hml hEx hv
  obtain ⟨rfl, hsz, hG, hZ, hP, hD0⟩ := hv
  have hx := B.exec
  have hb := B.bytes
  have hr := B.returns
  have hts0 := atoms_spec (ws := Cond.code yX6_requireMortgage cX6_requireMortgage 2 none :: pxAll) B.pre
  have hts : ∀ w ∈ pxAll, w.before _ s = true := fun w h => hts0 w (List.mem_cons_of_mem _ h)
  have hown : s.vm.findClass RX6 = some m.cls := findClass_of_methodNamed B.named
  have hlocks := B.notSynchronized
  subst hsz
  have hK := hG.1
  have hD := hD0.self (sz := s.heap.size)
  generalize hAe : va_A [(a0, .inr (5, [.ref a1, .ref a2, .ref a3, .ref a4, .ref a5, .int 0, .int 0, .int (-1)])), (a1, .inr (2, [.ref a6, .ref a7, .ref a8, .ref a9, .ref a10, .ref a11, .ref a12, .ref a13, .int 0, .int 0]))] s.heap.size = A at hD hZ ⊢
  have hA : ∀ q : Nat, s.heap.size ≤ q → A q := fun q h => by rw [← hAe]; exact Or.inr h
  have hS : va_S A s.heap s.heap [] := va_S.rf
  have hl := lv_entry ([.ref a0, .int i0]) (n := 2) (Nat.le_of_ble_eq_true rfl)
  rw [lg_entry_eq]
  generalize (lg_sl ([.ref a0, .int i0]) ++ List.replicate (2 - (lg_sl ([.ref a0, .int i0])).length) Slot.unset).toArray = ls at hl ⊢
  have hl : lv_has ls 2 [(0, .ref a0), (1, .int i0)] := hl
  refine lv_aload_n hx hb dX6_requireMortgage_0 rfl (lv_at hl 0 rfl) ?_
  refine va_get (D := G.1) (ci := 5) (v := .ref a1) (C := RX6) (T := TX6) (N := 8) hx hb hts piX6 hown hK hP 0 rfl rfl 0 (by decide) (hts _ pm32) (fun _ h9 => h9) rfl dX6_requireMortgage_1 ?_
  refine lv_iload_n hx hb dX6_requireMortgage_4 rfl (lv_at hl 1 rfl) ?_
  refine pxCi (va_runV (As := [.int i0]) (rest := []) ⟨hx, hb, hml, hown, hts⟩ (k98_X3_wasMortgage l G s.heap.size a1 a6 a7 a8 a9 a10 a11 a12 a13 i0) (cwV 1 hts (pxGV pm456 pm232 pm233 pm8 pm234) rfl rfl rfl (by decide +kernel) ⟨(Nat.le_of_ble_eq_true rfl), (Nat.le_of_ble_eq_true rfl)⟩) (pxV (ci := 2) (q0 := 1) hG hZ hP hD hS hA [1] rfl (by decide) rfl rfl) rfl rfl hl.1 rfl (lv_room (Nat.le_of_ble_eq_true rfl)) dX6_requireMortgage_5 ⟨(Nat.le_of_ble_eq_true rfl), (Nat.le_of_ble_eq_true rfl)⟩) hP hD hS hA [1] [0] rfl rfl (by decide) (by decide) (fun r2 q1 H locs hw hP hD hS => ?_)
  have hw : r2 = 0 := hw
  subst hw
  have hP : va_P G.1 pxCl [(a0, .inr (5, [.ref a1, .ref a2, .ref a3, .ref a4, .ref a5, .int 0, .int 0, .int (-1)])), (a1, .inr (2, [.ref a6, .ref a7, .ref a8, .ref a9, .ref a10, .ref a11, .ref a12, .ref a13, .int 0, .int 0]))] H := hP
  have hD : va_D A [(a0, .inr (5, [.ref a1, .ref a2, .ref a3, .ref a4, .ref a5, .int 0, .int 0, .int (-1)])), (a1, .inr (2, [.ref a6, .ref a7, .ref a8, .ref a9, .ref a10, .ref a11, .ref a12, .ref a13, .int 0, .int 0]))] := hD
  refine lv_if_ne (tgt := 22) hx hb dX6_requireMortgage_8 (by decide) (fun h9 => absurd h9 (by decide)) (fun _ => ?_)
  exact vx_throwSW (own := RX6) (cls := "java/lang/IndexOutOfBoundsException") (names := ["java/lang/RuntimeException", "java/lang/Exception"]) hx hb hl9 hown (by decide +kernel) (by decide +kernel) (hts _ pm427) (hts _ pm428) (hG.2.2.2.2.1 4 _ rfl) (pxThr (own := RX6) (ic := 280) (by simp [pxBadC]) hts hG wsL_law_x6 pxh_x6) pxg_x6 hZ.1 hZ.2 hS (hl.1.trans hml.symm) dX6_requireMortgage_11 dX6_requireMortgage_14 dX6_requireMortgage_15 dX6_requireMortgage_18 dX6_requireMortgage_21 (fun x hx => (hEx x hx).elim) (Nat.le_of_ble_eq_true rfl) (Nat.le_of_ble_eq_true rfl) (Nat.le_of_ble_eq_true rfl) (Nat.le_of_ble_eq_true rfl) hlocks (pxXe hS) hS.2.2 (Nat.le_of_ble_eq_true rfl) (Nat.le_of_ble_eq_true rfl)
set_option maxHeartbeats 4000000 in
set_option maxRecDepth 100000 in
theorem k162_X6_mortgage (l : Launch) (hl9 : l.stackTraces = false) (G : pxG) (sz : Nat) (a0 a1 a2 a3 a4 a5 a6 a7 a8 a9 a10 a11 a12 a13 : Nat) (i0 i1 : Int32) : vx_Met l yX6_mortgage (Cond.code yX6_mortgage cX6_mortgage 3 (some .int) :: pxAll) ({ frames := 7, cells := 1, slots := 6, locals := 111 } : Room) (va_Pc [.ref a0, .int i0, .int i1] (pxPre G [(a0, .inr (5, [.ref a1, .ref a2, .ref a3, .ref a4, .ref a5, .int 0, .int 0, .int (-1)])), (a1, .inr (2, [.ref a6, .ref a7, .ref a8, .ref a9, .ref a10, .ref a11, .ref a12, .ref a13, .int 0, .int 0]))] sz)) pxF (pxXC "java/lang/IndexOutOfBoundsException" (va_A [(a0, .inr (5, [.ref a1, .ref a2, .ref a3, .ref a4, .ref a5, .int 0, .int 0, .int (-1)])), (a1, .inr (2, [.ref a6, .ref a7, .ref a8, .ref a9, .ref a10, .ref a11, .ref a12, .ref a13, .int 0, .int 0]))] sz)) 1 6 (va_A [(a0, .inr (5, [.ref a1, .ref a2, .ref a3, .ref a4, .ref a5, .int 0, .int 0, .int (-1)])), (a1, .inr (2, [.ref a6, .ref a7, .ref a8, .ref a9, .ref a10, .ref a11, .ref a12, .ref a13, .int 0, .int 0]))] sz) := by
  refine vx_ofW (cc := cX6_mortgage) (maxL := 3) (ret := (some .int)) (by decide) rfl ?_
  intro p e s m args below meth c s₁ B hml hEx hv
  obtain ⟨rfl, hsz, hG, hZ, hP, hD0⟩ := hv
  have hx := B.exec
  have hb := B.bytes
  have hr := B.returns
  have hts0 := atoms_spec (ws := Cond.code yX6_mortgage cX6_mortgage 3 (some .int) :: pxAll) B.pre
  have hts : ∀ w ∈ pxAll, w.before _ s = true := fun w h => hts0 w (List.mem_cons_of_mem _ h)
  have hown : s.vm.findClass RX6 = some m.cls := findClass_of_methodNamed B.named
  have hlocks := B.notSynchronized
  subst hsz
  have hK := hG.1
  have hD := hD0.self (sz := s.heap.size)
  generalize hAe : va_A [(a0, .inr (5, [.ref a1, .ref a2, .ref a3, .ref a4, .ref a5, .int 0, .int 0, .int (-1)])), (a1, .inr (2, [.ref a6, .ref a7, .ref a8, .ref a9, .ref a10, .ref a11, .ref a12, .ref a13, .int 0, .int 0]))] s.heap.size = A at hD hZ ⊢
  have hA : ∀ q : Nat, s.heap.size ≤ q → A q := fun q h => by rw [← hAe]; exact Or.inr h
  have hS : va_S A s.heap s.heap [] := va_S.rf
  have hl := lv_entry ([.ref a0, .int i0, .int i1]) (n := 3) (Nat.le_of_ble_eq_true rfl)
  rw [lg_entry_eq]
  generalize (lg_sl ([.ref a0, .int i0, .int i1]) ++ List.replicate (3 - (lg_sl ([.ref a0, .int i0, .int i1])).length) Slot.unset).toArray = ls at hl ⊢
  have hl : lv_has ls 3 [(0, .ref a0), (1, .int i0), (2, .int i1)] := hl
  refine lv_aload_n hx hb dX6_mortgage_0 rfl (lv_at hl 0 rfl) ?_
  refine lv_iload_n hx hb dX6_mortgage_1 rfl (lv_at hl 1 rfl) ?_
  refine pxCx (vx_runV (As := [.int i0]) (rest := []) ⟨hx, hb, hml, hown, hts⟩ (k162_X6_requireMortgage l hl9 G s.heap.size a0 a1 a2 a3 a4 a5 a6 a7 a8 a9 a10 a11 a12 a13 i0) (cwV 1 hts (pxGV pm457 pm458 pm459 pm2 pm460) rfl rfl rfl (by decide +kernel) ⟨(Nat.le_of_ble_eq_true rfl), (Nat.le_of_ble_eq_true rfl)⟩) (pxV (ci := 5) (q0 := 0) hG hZ hP hD hS hA [0, 1] rfl (by decide) rfl rfl) rfl rfl hl.1 rfl (lv_room (Nat.le_of_ble_eq_true rfl)) dX6_mortgage_2 ⟨(Nat.le_of_ble_eq_true rfl), (Nat.le_of_ble_eq_true rfl)⟩) hD hS hA [0, 1] rfl (fun ce q9 H locs hS hce hcv hcl => ?_)
  exact vx_out (fun x hx => (hEx x hx).elim) hlocks hce hcv hcl (fun t ht _ => ⟨rfl, hS.F ht⟩) hS.2.2 (Nat.le_of_ble_eq_true rfl) (Nat.le_of_ble_eq_true rfl)
set_option maxHeartbeats 4000000 in
set_option maxRecDepth 100000 in
theorem k162_L_mortgage (l : Launch) (hl9 : l.stackTraces = false) (G : pxG) (sz : Nat) (a0 a1 a2 a3 a4 a5 a6 a7 a8 a9 a10 a11 a12 a13 a14 : Nat) (i0 i1 : Int32) : Met l yL_mortgage (Cond.codeWith yL_mortgage cL_mortgage 5 (some .int) [(0, 10, 13, 67), (0, 10, 17, 51)] :: pxAll) ({ frames := 8, cells := 1, slots := 6, locals := 133 } : Room) (va_Pc [.ref a0, .int i0, .int i1, .ref a2] (pxPre G [(a0, .inr (5, [.ref a1, .ref a3, .ref a4, .ref a5, .ref a6, .int 0, .int 0, .int (-1)])), (a1, .inr (2, [.ref a7, .ref a8, .ref a9, .ref a10, .ref a11, .ref a12, .ref a13, .ref a14, .int 0, .int 0]))] sz)) (pxQi G (fun r => r = 1) (fun q => []) (va_A [(a0, .inr (5, [.ref a1, .ref a3, .ref a4, .ref a5, .ref a6, .int 0, .int 0, .int (-1)])), (a1, .inr (2, [.ref a7, .ref a8, .ref a9, .ref a10, .ref a11, .ref a12, .ref a13, .ref a14, .int 0, .int 0]))] sz)) 1 6 (va_A [(a0, .inr (5, [.ref a1, .ref a3, .ref a4, .ref a5, .ref a6, .int 0, .int 0, .int (-1)])), (a1, .inr (2, [.ref a7, .ref a8, .ref a9, .ref a10, .ref a11, .ref a12, .ref a13, .ref a14, .int 0, .int 0]))] sz) := by
  refine va_MetW (cc := cL_mortgage) (maxL := 5) (ret := (some .int)) (hh := [(0, 10, 13, 67), (0, 10, 17, 51)]) (by decide) rfl ?_
  intro p e s m args below meth c s₁ B hml hv
  obtain ⟨rfl, hsz, hG, hZ, hP, hD0⟩ := hv
  have hx := B.exec
  have hb := B.bytes
  have hr := B.returns
  have hts0 := atoms_spec (ws := Cond.codeWith yL_mortgage cL_mortgage 5 (some .int) [(0, 10, 13, 67), (0, 10, 17, 51)] :: pxAll) B.pre
  have hts : ∀ w ∈ pxAll, w.before _ s = true := fun w h => hts0 w (List.mem_cons_of_mem _ h)
  have hown : s.vm.findClass RL = some m.cls := findClass_of_methodNamed B.named
  have hlocks := B.notSynchronized
  have hTab := vx_table (x := yL_mortgage) B (hts0 _ List.mem_cons_self)
  subst hsz
  have hK := hG.1
  have hD := hD0.self (sz := s.heap.size)
  generalize hAe : va_A [(a0, .inr (5, [.ref a1, .ref a3, .ref a4, .ref a5, .ref a6, .int 0, .int 0, .int (-1)])), (a1, .inr (2, [.ref a7, .ref a8, .ref a9, .ref a10, .ref a11, .ref a12, .ref a13, .ref a14, .int 0, .int 0]))] s.heap.size = A at hD hZ ⊢
  have hA : ∀ q : Nat, s.heap.size ≤ q → A q := fun q h => by rw [← hAe]; exact Or.inr h
  have hS : va_S A s.heap s.heap [] := va_S.rf
  have hl := lv_entry ([.ref a0, .int i0, .int i1, .ref a2]) (n := 5) (Nat.le_of_ble_eq_true rfl)
  rw [lg_entry_eq]
  generalize (lg_sl ([.ref a0, .int i0, .int i1, .ref a2]) ++ List.replicate (5 - (lg_sl ([.ref a0, .int i0, .int i1, .ref a2])).length) Slot.unset).toArray = ls at hl ⊢
  have hl : lv_has ls 5 [(0, .ref a0), (1, .int i0), (2, .int i1), (3, .ref a2)] := hl
  refine lv_aload_n hx hb dL_mortgage_0 rfl (lv_at hl 3 rfl) ?_
  refine lv_iconst (v := 0) hx hb dL_mortgage_1 (by decide) ?_
  refine lv_aload_n hx hb dL_mortgage_2 rfl (lv_at hl 0 rfl) ?_
  refine lv_iload_n hx hb dL_mortgage_3 rfl (lv_at hl 1 rfl) ?_
  refine lv_iload_n hx hb dL_mortgage_4 rfl (lv_at hl 2 rfl) ?_
  refine pxCx (vx_runV (As := [.int i0, .int i1]) (rest := [.int 0, .ref a2]) ⟨hx, hb, hml, hown, hts⟩ (k162_X6_mortgage l hl9 G s.heap.size a0 a1 a3 a4 a5 a6 a7 a8 a9 a10 a11 a12 a13 a14 i0 i1) (cwV 2 hts (pxGV pm461 pm462 pm463 pm2 pm464) rfl rfl rfl (by decide +kernel) ⟨(Nat.le_of_ble_eq_true rfl), (Nat.le_of_ble_eq_true rfl)⟩) (pxV (ci := 5) (q0 := 0) hG hZ hP hD hS hA [0, 1] rfl (by decide) rfl rfl) rfl rfl hl.1 rfl (lv_room (Nat.le_of_ble_eq_true rfl)) dL_mortgage_5 ⟨(Nat.le_of_ble_eq_true rfl), (Nat.le_of_ble_eq_true rfl)⟩) hD hS hA [0, 1] rfl (fun ce q9 H locs hS hce hcv hcl => ?_)
  refine vx_catch (own := RL) (name := "java/lang/IndexOutOfBoundsException") (E := "java/lang/IndexOutOfBoundsException") hown [] ⟨0, 10, 13, 67⟩ [⟨0, 10, 17, 51⟩] (by rw [hTab]; rfl) (fun z hz => nomatch hz) (by decide) (by decide) (hts _ pm437) (va_Nw.use rfl (hG.2.2.1 "java/lang/IndexOutOfBoundsException" (by simp [pxBadC]))) hce hcv hcl ?_
  have hP : va_P G.1 pxCl [] H := fun k q h => by simp at h
  have hD : va_D A [] := ⟨fun i j p q h => by simp at h, fun k q h => by simp at h⟩
  refine lv_astore (lv' := [(4, .ref q9), (0, .ref a0), (1, .int i0), (2, .int i1), (3, .ref a2)]) hx hb dL_mortgage_13 hl (by decide) rfl (fun ls hl => ?_)
  refine lv_iconst (v := 1) hx hb dL_mortgage_15 (by decide) ?_
  refine W.widen (k := 1) (n := 6) (Nat.le_of_ble_eq_true rfl) (Nat.le_of_ble_eq_true rfl) ?_
  exact W.iret (v := 1) hx hb hr (fun t ht hW => ⟨⟨1, (fun _ => 0), rfl, rfl, by rw [ht]; exact hP, hD⟩, hS.F ht⟩) hS.2.2 dL_mortgage_16
set_option maxHeartbeats 4000000 in
set_option maxRecDepth 100000 in
theorem k165_X7_mortgage (l : Launch) (G : pxG) (sz : Nat) (a0 a1 a2 a3 a4 a5 a6 a7 a8 a9 a10 a11 : Nat) (i0 i1 : Int32) : Met l yX7_mortgage (Cond.code yX7_mortgage cX7_mortgage 5 (some .int) :: pxAll) ({ frames := 2, cells := 0, slots := 0, locals := 43 } : Room) (va_Pc [.ref a0, .int i0, .int i1] (pxPre G [(a0, .inr (6, [.ref a1, .ref a2, .ref a3, .int 0, .ref a4, .int 0, .int 0, .int 0, .int 0, .ref a5, .int 0, .ref a6, .int 0, .int 0, .int 0, .int (-1), .ref a7, .ref a8, .int 0, .ref a9, .ref a10, .ref a11])), (a1, .inl (G.2.1 0, 4891, .inl (fun _ => 0)))] sz)) (pxQi G (fun r => r = 0) (fun q => [(a0, .inr (6, [.ref a1, .ref a2, .ref a3, .int 0, .ref a4, .int 0, .int 0, .int 1, .int 0, .ref a5, .int 0, .ref a6, .int 0, .int 0, .int 0, .int (-1), .ref a7, .ref a8, .int 0, .ref a9, .ref a10, .ref a11]))]) (va_A [(a0, .inr (6, [.ref a1, .ref a2, .ref a3, .int 0, .ref a4, .int 0, .int 0, .int 0, .int 0, .ref a5, .int 0, .ref a6, .int 0, .int 0, .int 0, .int (-1), .ref a7, .ref a8, .int 0, .ref a9, .ref a10, .ref a11])), (a1, .inl (G.2.1 0, 4891, .inl (fun _ => 0)))] sz)) 0 0 (va_A [(a0, .inr (6, [.ref a1, .ref a2, .ref a3, .int 0, .ref a4, .int 0, .int 0, .int 0, .int 0, .ref a5, .int 0, .ref a6, .int 0, .int 0, .int 0, .int (-1), .ref a7, .ref a8, .int 0, .ref a9, .ref a10, .ref a11])), (a1, .inl (G.2.1 0, 4891, .inl (fun _ => 0)))] sz) := by
  refine Met.ofW (cc := cX7_mortgage) (maxL := 5) (ret := (some .int)) (by decide) rfl ?_
  intro p e s m args below meth c s₁ B hml hv
  obtain ⟨rfl, hsz, hG, hZ, hP, hD0⟩ := hv
  have hx := B.exec
  have hb := B.bytes
  have hr := B.returns
  have hts0 := atoms_spec (ws := Cond.code yX7_mortgage cX7_mortgage 5 (some .int) :: pxAll) B.pre
  have hts : ∀ w ∈ pxAll, w.before _ s = true := fun w h => hts0 w (List.mem_cons_of_mem _ h)
  have hown : s.vm.findClass RX7 = some m.cls := findClass_of_methodNamed B.named
  have hlocks := B.notSynchronized
  subst hsz
  have hK := hG.1
  have hD := hD0.self (sz := s.heap.size)
  generalize hAe : va_A [(a0, .inr (6, [.ref a1, .ref a2, .ref a3, .int 0, .ref a4, .int 0, .int 0, .int 0, .int 0, .ref a5, .int 0, .ref a6, .int 0, .int 0, .int 0, .int (-1), .ref a7, .ref a8, .int 0, .ref a9, .ref a10, .ref a11])), (a1, .inl (G.2.1 0, 4891, .inl (fun _ => 0)))] s.heap.size = A at hD hZ ⊢
  have hA : ∀ q : Nat, s.heap.size ≤ q → A q := fun q h => by rw [← hAe]; exact Or.inr h
  have hS : va_S A s.heap s.heap [] := va_S.rf
  have hl := lv_entry ([.ref a0, .int i0, .int i1]) (n := 5) (Nat.le_of_ble_eq_true rfl)
  rw [lg_entry_eq]
  generalize (lg_sl ([.ref a0, .int i0, .int i1]) ++ List.replicate (5 - (lg_sl ([.ref a0, .int i0, .int i1])).length) Slot.unset).toArray = ls at hl ⊢
  have hl : lv_has ls 5 [(0, .ref a0), (1, .int i0), (2, .int i1)] := hl
  refine lv_aload_n hx hb dX7_mortgage_0 rfl (lv_at hl 0 rfl) ?_
  refine lv_aload_n hx hb dX7_mortgage_1 rfl (lv_at hl 0 rfl) ?_
  refine lv_iload_n hx hb dX7_mortgage_2 rfl (lv_at hl 1 rfl) ?_
  refine pxCi (va_runV (As := [.int i0]) (rest := [.ref a0]) ⟨hx, hb, hml, hown, hts⟩ (k103_X7_wasMortgage l G s.heap.size a0 a1 a2 a3 a4 a5 a6 a7 a8 a9 a10 a11 i0) (cwV 1 hts (pxGV pm250 pm251 pm252 pm71 pm253) rfl rfl rfl (by decide +kernel) ⟨(Nat.le_of_ble_eq_true rfl), (Nat.le_of_ble_eq_true rfl)⟩) (pxV (ci := 6) (q0 := 0) hG hZ hP hD hS hA [0, 1] rfl (by decide) rfl rfl) rfl rfl hl.1 rfl (lv_room (Nat.le_of_ble_eq_true rfl)) dX7_mortgage_3 ⟨(Nat.le_of_ble_eq_true rfl), (Nat.le_of_ble_eq_true rfl)⟩) hP hD hS hA [0, 1] [] rfl rfl (by decide) (by decide) (fun r2 q1 H locs hw hP hD hS => ?_)
  have hw : r2 = 0 := hw
  subst hw
  have hP : va_P G.1 pxCl [(a0, .inr (6, [.ref a1, .ref a2, .ref a3, .int 0, .ref a4, .int 0, .int 0, .int 0, .int 0, .ref a5, .int 0, .ref a6, .int 0, .int 0, .int 0, .int (-1), .ref a7, .ref a8, .int 0, .ref a9, .ref a10, .ref a11])), (a1, .inl (G.2.1 0, 4891, .inl (fun _ => 0)))] H := hP
  have hD : va_D A [(a0, .inr (6, [.ref a1, .ref a2, .ref a3, .int 0, .ref a4, .int 0, .int 0, .int 0, .int 0, .ref a5, .int 0, .ref a6, .int 0, .int 0, .int 0, .int (-1), .ref a7, .ref a8, .int 0, .ref a9, .ref a10, .ref a11])), (a1, .inl (G.2.1 0, 4891, .inl (fun _ => 0)))] := hD
  refine lv_if_ne (tgt := 13) hx hb dX7_mortgage_6 (by decide) (fun h9 => absurd h9 (by decide)) (fun _ => ?_)
  refine lv_iconst (v := 1) hx hb dX7_mortgage_9 (by decide) ?_
  refine lv_goto (tgt := 27) hx hb dX7_mortgage_10 (by decide) ?_
  refine va_put (D := G.1) (ci := 6) (v := .int 1) (ty := .int) (C := RX7) (T := TX7) (N := 22) hx hb hts piX7 tyX7 tyX7_ok nmX7 hown hK hP hD hS 0 rfl rfl 7 (by decide) (hts _ pm150) (fun _ h9 => h9) rfl (by decide +kernel) rfl rfl (Nat.le_of_ble_eq_true rfl) dX7_mortgage_27 (fun H locs hP hD hS => ?_)
  have hP : va_P G.1 pxCl [(a0, .inr (6, [.ref a1, .ref a2, .ref a3, .int 0, .ref a4, .int 0, .int 0, .int 1, .int 0, .ref a5, .int 0, .ref a6, .int 0, .int 0, .int 0, .int (-1), .ref a7, .ref a8, .int 0, .ref a9, .ref a10, .ref a11])), (a1, .inl (G.2.1 0, 4891, .inl (fun _ => 0)))] H := hP
  have hD : va_D A [(a0, .inr (6, [.ref a1, .ref a2, .ref a3, .int 0, .ref a4, .int 0, .int 0, .int 1, .int 0, .ref a5, .int 0, .ref a6, .int 0, .int 0, .int 0, .int (-1), .ref a7, .ref a8, .int 0, .ref a9, .ref a10, .ref a11])), (a1, .inl (G.2.1 0, 4891, .inl (fun _ => 0)))] := hD
  refine lv_aload_n hx hb dX7_mortgage_30 rfl (lv_at hl 0 rfl) ?_
  refine va_get (D := G.1) (ci := 6) (v := .int 1) (C := RX7) (T := TX7) (N := 22) hx hb hts piX7 hown hK hP 0 rfl rfl 7 (by decide) (hts _ pm150) (fun _ h9 => h9) rfl dX7_mortgage_31 ?_
  refine lv_if_le (tgt := 39) hx hb dX7_mortgage_34 (by decide) (fun h9 => absurd h9 (by decide)) (fun _ => ?_)
  refine lv_iconst (v := 0) hx hb dX7_mortgage_37 (by decide) ?_
  have hD : va_D A [(a0, .inr (6, [.ref a1, .ref a2, .ref a3, .int 0, .ref a4, .int 0, .int 0, .int 1, .int 0, .ref a5, .int 0, .ref a6, .int 0, .int 0, .int 0, .int (-1), .ref a7, .ref a8, .int 0, .ref a9, .ref a10, .ref a11]))] := hD.sub [0] (by decide) rfl
  have hP : va_P G.1 pxCl [(a0, .inr (6, [.ref a1, .ref a2, .ref a3, .int 0, .ref a4, .int 0, .int 0, .int 1, .int 0, .ref a5, .int 0, .ref a6, .int 0, .int 0, .int 0, .int (-1), .ref a7, .ref a8, .int 0, .ref a9, .ref a10, .ref a11]))] H := hP.sub [0] rfl
  refine W.widen (k := 0) (n := 0) (Nat.le_of_ble_eq_true rfl) (Nat.le_of_ble_eq_true rfl) ?_
  exact W.iret (v := 0) hx hb hr (fun t ht hW => ⟨⟨0, (fun _ => 0), rfl, rfl, by rw [ht]; exact hP, hD⟩, hS.F ht⟩) hS.2.2 dX7_mortgage_38
set_option maxHeartbeats 4000000 in
set_option maxRecDepth 100000 in
theorem lc17 {p : Program} {l : Launch} {e : Env} {s : State} {m : MethodId} {below : List Frame} {meth : Method} {c : Code} {b : Nat} {xs : Nat → Int32} (hl9 : l.stackTraces = false) (G : pxG) (C0 : lw_At p s m meth c b 5 xs) (hG : pxOk G s) (hZ : pxZ (fun q : Nat => s.heap.size ≤ q) s s.heap) (a1 a2 a3 a4 a5 a6 a7 a8 a9 a10 a43 a86 a127 a131 a149 a150 a151 a152 a153 a154 a155 a156 a157 a158 a159 a160 a161 a162 : Nat) (H : Heap) (locs : List Loc) (hP : va_P G.1 pxCl [(a1, .inr (5, [.ref a2, .ref a43, .ref a86, .ref a127, .ref a131, .int 0, .int 0, .int (-1)])), (a2, .inr (2, [.ref a3, .ref a4, .ref a5, .ref a6, .ref a7, .ref a8, .ref a9, .ref a10, .int 0, .int 0])), (a149, .inr (6, [.ref a150, .ref a151, .ref a152, .int 0, .ref a153, .int 0, .int 0, .int 0, .int 0, .ref a154, .int 0, .ref a155, .int 0, .int 0, .int 0, .int (-1), .ref a156, .ref a157, .int 0, .ref a158, .ref a159, .ref a160])), (a150, .inl (G.2.1 0, 4891, .inl (fun _ => 0)))] H) (hD : va_D (fun q : Nat => s.heap.size ≤ q) [(a1, .inr (5, [.ref a2, .ref a43, .ref a86, .ref a127, .ref a131, .int 0, .int 0, .int (-1)])), (a2, .inr (2, [.ref a3, .ref a4, .ref a5, .ref a6, .ref a7, .ref a8, .ref a9, .ref a10, .int 0, .int 0])), (a149, .inr (6, [.ref a150, .ref a151, .ref a152, .int 0, .ref a153, .int 0, .int 0, .int 0, .int 0, .ref a154, .int 0, .ref a155, .int 0, .int 0, .int 0, .int (-1), .ref a156, .ref a157, .int 0, .ref a158, .ref a159, .ref a160])), (a150, .inl (G.2.1 0, 4891, .inl (fun _ => 0)))]) (hS : va_S (fun q : Nat => s.heap.size ≤ q) s.heap H locs) (ls : Array Slot) (hl : lv_has ls 9 [(5, .int 0), (4, .ref a162), (3, .ref a161), (2, .ref a149), (1, .ref a1), (0, .ref b)]) : W p l e room_1 s m #[Value.ref b] below meth c H locs 482 60053 (lw_Z below #[Value.ref b] s) (F0 m 1297 ls []) := by
  obtain ⟨hx, hb, hr, hml, hown, hts0, hX, hbl, hlocks, hgv⟩ := id C0
  have hts : ∀ w ∈ pxAll, w.before #[Value.ref b] s = true := fun w h => hts0 w (List.mem_filter.mp h).1
  have hA : ∀ q : Nat, s.heap.size ≤ q → (fun q : Nat => s.heap.size ≤ q) q := fun _ h => h
  have hbA : ¬ (fun q : Nat => s.heap.size ≤ q) b := Nat.not_le.mpr hbl
  have hK := hG.1
  obtain ⟨p1, hp1⟩ : ∃ z : Int32, xs 1 = z := ⟨_, rfl⟩
  have r1 := pxRng p1
  obtain ⟨p2, hp2⟩ : ∃ z : Int32, xs 2 = z := ⟨_, rfl⟩
  have r2 := pxRng p2
  refine lv_aload_n hx hb dL_law_1297 rfl (lv_at hl 4 rfl) ?_
  refine lv_aload_n hx hb dL_law_1298 rfl (lv_at hl 5 rfl) ?_
  refine lv_iload hx hb dL_law_1299 (lv_at hl 0 rfl) ?_
  refine lv_iconst (v := 1) hx hb dL_law_1301 (by decide) ?_
  refine lv_iadd hx hb dL_law_1302 ?_
  refine pxTop (w := .int 1) (congrArg Value.int (by decide)) ?_
  refine va_sld hx hb hX hbl hbA hS (show ¬ ((1 : Int32) < 0 ∨ 5 ≤ (1 : Int32).toNatClampNeg) by decide +kernel) dL_law_1303 ?_
  refine pxTop (w := .int p1) (congrArg Value.int hp1) ?_
  refine lv_aload_n hx hb dL_law_1304 rfl (lv_at hl 5 rfl) ?_
  refine lv_iload hx hb dL_law_1305 (lv_at hl 0 rfl) ?_
  refine lv_iconst (v := 2) hx hb dL_law_1307 (by decide) ?_
  refine lv_iadd hx hb dL_law_1308 ?_
  refine pxTop (w := .int 2) (congrArg Value.int (by decide)) ?_
  refine va_sld hx hb hX hbl hbA hS (show ¬ ((2 : Int32) < 0 ∨ 5 ≤ (2 : Int32).toNatClampNeg) by decide +kernel) dL_law_1309 ?_
  refine pxTop (w := .int p2) (congrArg Value.int hp2) ?_
  refine lv_aload_n hx hb dL_law_1310 rfl (lv_at hl 2 rfl) ?_
  refine pxCi (vx_runSW (As := [.ref a1, .int p1, .int p2, .ref a161]) (rest := []) ⟨hx, hb, hml, hown, hts⟩ (k162_L_mortgage l hl9 G H.size a1 a2 a161 a43 a86 a127 a131 a3 a4 a5 a6 a7 a8 a9 a10 p1 p2) (vx_cwSW 4 hts (pxGS pm465 pm466 pm136 pm467) rfl rfl rfl (by decide +kernel) ⟨(Nat.le_of_ble_eq_true rfl), (Nat.le_of_ble_eq_true rfl)⟩) (pxS hG hZ hP hD hS hA [0, 1] rfl (by decide)) rfl rfl hl.1 rfl (lv_room (Nat.le_of_ble_eq_true rfl)) dL_law_1311 ⟨(Nat.le_of_ble_eq_true rfl), (Nat.le_of_ble_eq_true rfl)⟩) hP hD hS hA [0, 1] [2, 3] rfl rfl (by decide) (by decide) (fun r2 q1 H locs hw hP hD hS => ?_)
  have hw : r2 = 1 := hw
  subst hw
  have hP : va_P G.1 pxCl [(a149, .inr (6, [.ref a150, .ref a151, .ref a152, .int 0, .ref a153, .int 0, .int 0, .int 0, .int 0, .ref a154, .int 0, .ref a155, .int 0, .int 0, .int 0, .int (-1), .ref a156, .ref a157, .int 0, .ref a158, .ref a159, .ref a160])), (a150, .inl (G.2.1 0, 4891, .inl (fun _ => 0)))] H := hP
  have hD : va_D (fun q : Nat => s.heap.size ≤ q) [(a149, .inr (6, [.ref a150, .ref a151, .ref a152, .int 0, .ref a153, .int 0, .int 0, .int 0, .int 0, .ref a154, .int 0, .ref a155, .int 0, .int 0, .int 0, .int (-1), .ref a156, .ref a157, .int 0, .ref a158, .ref a159, .ref a160])), (a150, .inl (G.2.1 0, 4891, .inl (fun _ => 0)))] := hD
  refine W.widen (k := 483) (n := 60059) (Nat.le_of_ble_eq_true rfl) (Nat.le_of_ble_eq_true rfl) ?_
  refine lv_istore (lv' := [(6, .int 1), (5, .int 0), (4, .ref a162), (3, .ref a161), (2, .ref a149), (1, .ref a1), (0, .ref b)]) hx hb dL_law_1314 hl (by decide) rfl (fun ls hl => ?_)
  refine lv_aload_n hx hb dL_law_1316 rfl (lv_at hl 4 rfl) ?_
  refine lv_aload_n hx hb dL_law_1317 rfl (lv_at hl 6 rfl) ?_
  refine lv_iload hx hb dL_law_1318 (lv_at hl 1 rfl) ?_
  refine lv_iconst (v := 1) hx hb dL_law_1320 (by decide) ?_
  refine lv_iadd hx hb dL_law_1321 ?_
  refine pxTop (w := .int 1) (congrArg Value.int (by decide)) ?_
  refine va_sld hx hb hX hbl hbA hS (show ¬ ((1 : Int32) < 0 ∨ 5 ≤ (1 : Int32).toNatClampNeg) by decide +kernel) dL_law_1322 ?_
  refine pxTop (w := .int p1) (congrArg Value.int hp1) ?_
  refine lv_aload_n hx hb dL_law_1323 rfl (lv_at hl 6 rfl) ?_
  refine lv_iload hx hb dL_law_1324 (lv_at hl 1 rfl) ?_
  refine lv_iconst (v := 2) hx hb dL_law_1326 (by decide) ?_
  refine lv_iadd hx hb dL_law_1327 ?_
  refine pxTop (w := .int 2) (congrArg Value.int (by decide)) ?_
  refine va_sld hx hb hX hbl hbA hS (show ¬ ((2 : Int32) < 0 ∨ 5 ≤ (2 : Int32).toNatClampNeg) by decide +kernel) dL_law_1328 ?_
  refine pxTop (w := .int p2) (congrArg Value.int hp2) ?_
  refine pxCi (va_runV (As := [.int p1, .int p2]) (rest := []) ⟨hx, hb, hml, hown, hts⟩ (k165_X7_mortgage l G H.size a149 a150 a151 a152 a153 a154 a155 a156 a157 a158 a159 a160 p1 p2) (cwV 2 hts (pxGV pm468 pm469 pm470 pm71 pm471) rfl rfl rfl (by decide +kernel) ⟨(Nat.le_of_ble_eq_true rfl), (Nat.le_of_ble_eq_true rfl)⟩) (pxV (ci := 6) (q0 := 0) hG hZ hP hD hS hA [0, 1] rfl (by decide) rfl rfl) rfl rfl hl.1 rfl (lv_room (Nat.le_of_ble_eq_true rfl)) dL_law_1329 ⟨(Nat.le_of_ble_eq_true rfl), (Nat.le_of_ble_eq_true rfl)⟩) hP hD hS hA [0, 1] [] rfl rfl (by decide) (by decide) (fun r4 q3 H locs hw hP hD hS => ?_)
  have hw : r4 = 0 := hw
  subst hw
  have hP : va_P G.1 pxCl [(a149, .inr (6, [.ref a150, .ref a151, .ref a152, .int 0, .ref a153, .int 0, .int 0, .int 1, .int 0, .ref a154, .int 0, .ref a155, .int 0, .int 0, .int 0, .int (-1), .ref a156, .ref a157, .int 0, .ref a158, .ref a159, .ref a160]))] H := hP
  have hD : va_D (fun q : Nat => s.heap.size ≤ q) [(a149, .inr (6, [.ref a150, .ref a151, .ref a152, .int 0, .ref a153, .int 0, .int 0, .int 1, .int 0, .ref a154, .int 0, .ref a155, .int 0, .int 0, .int 0, .int (-1), .ref a156, .ref a157, .int 0, .ref a158, .ref a159, .ref a160]))] := hD
  refine lv_istore (lv' := [(7, .int 0), (6, .int 1), (5, .int 0), (4, .ref a162), (3, .ref a161), (2, .ref a149), (1, .ref a1), (0, .ref b)]) hx hb dL_law_1332 hl (by decide) rfl (fun ls hl => ?_)
  refine lv_aload_n hx hb dL_law_1334 rfl (lv_at hl 5 rfl) ?_
  refine pxCi (va_runV (As := []) (rest := []) ⟨hx, hb, hml, hown, hts⟩ (k158_X7_thrown l G H.size a149 a150 a151 a152 a153 a154 a155 a156 a157 a158 a159 a160) (cwV 0 hts (pxGV pm160 pm161 pm162 pm71 pm163) rfl rfl rfl (by decide +kernel) ⟨(Nat.le_of_ble_eq_true rfl), (Nat.le_of_ble_eq_true rfl)⟩) (pxV (ci := 6) (q0 := 0) hG hZ hP hD hS hA [0] rfl (by decide) rfl rfl) rfl rfl hl.1 rfl (lv_room (Nat.le_of_ble_eq_true rfl)) dL_law_1335 ⟨(Nat.le_of_ble_eq_true rfl), (Nat.le_of_ble_eq_true rfl)⟩) hP hD hS hA [0] [] rfl rfl (by decide) (by decide) (fun r6 q5 H locs hw hP hD hS => ?_)
  have hw : r6 = 1 := hw
  subst hw
  have hP : va_P G.1 pxCl [(a149, .inr (6, [.ref a150, .ref a151, .ref a152, .int 0, .ref a153, .int 0, .int 0, .int 1, .int 0, .ref a154, .int 0, .ref a155, .int 0, .int 0, .int 0, .int (-1), .ref a156, .ref a157, .int 0, .ref a158, .ref a159, .ref a160]))] H := hP
  have hD : va_D (fun q : Nat => s.heap.size ≤ q) [(a149, .inr (6, [.ref a150, .ref a151, .ref a152, .int 0, .ref a153, .int 0, .int 0, .int 1, .int 0, .ref a154, .int 0, .ref a155, .int 0, .int 0, .int 0, .int (-1), .ref a156, .ref a157, .int 0, .ref a158, .ref a159, .ref a160]))] := hD
  refine lv_iload hx hb dL_law_1338 (lv_at hl 1 rfl) ?_
  refine lv_icmp_eq (tgt := 1345) hx hb dL_law_1340 (by decide) (fun _ => ?_) (fun h9 => absurd (by decide) h9)
  refine lv_iload hx hb dL_law_1345 (lv_at hl 1 rfl) ?_
  refine lv_if_ne (tgt := 1362) hx hb dL_law_1347 (by decide) (fun _ => ?_) (fun h9 => absurd h9 (by decide))
  refine lv_goto (tgt := 2658) hx hb dL_law_1362 (by decide) ?_
  refine W.widen (k := 2000) (n := 200000) (Nat.le_of_ble_eq_true rfl) (Nat.le_of_ble_eq_true rfl) ?_
  exact law_tail hl9 G C0 hG hZ H locs hS ls (lv_sub hl [2, 7] rfl)
