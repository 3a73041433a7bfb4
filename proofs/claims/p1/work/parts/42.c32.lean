theorem pm700 : Cond.methodLink RL 125 yX6_copyDrawer ∈ pxAll := pxM 1223 (by decide +kernel) rfl
theorem pm701 : Cond.instanceMethod yX6_copyDrawer ∈ pxAll := pxM 1224 (by decide +kernel) rfl
theorem pm702 : Cond.selects RX6 yX6_copyDrawer yX6_copyDrawer ∈ pxAll := pxM 1225 (by decide +kernel) rfl
set_option maxRecDepth 100000 in
theorem pm703 : Cond.code yX6_copyDrawer cX6_copyDrawer 3 (some .int) ∈ pxAll := pxM 1226 rfl rfl
theorem pm704 : Cond.methodLink RL 251 yL_copyDrawer ∈ pxAll := pxM 1220 (by decide +kernel) rfl
theorem pm705 : Cond.static yL_copyDrawer ∈ pxAll := pxM 1221 (by decide +kernel) rfl
set_option maxRecDepth 100000 in
theorem pm706 : Cond.codeWith yL_copyDrawer cL_copyDrawer 5 (some .int) [(0, 10, 13, 67), (0, 10, 17, 53)] ∈ pxAll := pxM 1222 rfl rfl
theorem pm707 : Cond.methodLink RL 253 yX7_copyDrawer ∈ pxAll := pxM 1762 (by decide +kernel) rfl
theorem pm708 : Cond.instanceMethod yX7_copyDrawer ∈ pxAll := pxM 1763 (by decide +kernel) rfl
theorem pm709 : Cond.selects RX7 yX7_copyDrawer yX7_copyDrawer ∈ pxAll := pxM 1764 (by decide +kernel) rfl
set_option maxRecDepth 100000 in
theorem pm710 : Cond.code yX7_copyDrawer cX7_copyDrawer 3 (some .int) ∈ pxAll := pxM 1765 rfl rfl
theorem pm711 : Cond.classLink RX6 113 "java/lang/IllegalStateException" ∈ pxAll := pxM 699 (by decide +kernel) rfl
theorem pm712 : Cond.initialized "java/lang/IllegalStateException" ∈ pxAll := pxM 100 (by decide +kernel) rfl
theorem pm713 : Cond.classLink RL 53 "java/lang/IllegalStateException" ∈ pxAll := pxM 671 (by decide +kernel) rfl
theorem dL_law_2433 : decode cL_law 2433 = .ok (.aload_n 1, 1) := by decide +kernel
theorem dL_law_2434 : decode cL_law 2434 = .ok (.aload_n 0, 1) := by decide +kernel
theorem dL_law_2435 : decode cL_law 2435 = .ok (.iload 5, 2) := by decide +kernel
theorem dL_law_2437 : decode cL_law 2437 = .ok (.iconst 1, 1) := by decide +kernel
theorem dL_law_2438 : decode cL_law 2438 = .ok (.iadd, 1) := by decide +kernel
theorem dL_law_2439 : decode cL_law 2439 = .ok (.iaload, 1) := by decide +kernel
theorem dL_law_2440 : decode cL_law 2440 = .ok (.aload_n 0, 1) := by decide +kernel
theorem dL_law_2441 : decode cL_law 2441 = .ok (.iload 5, 2) := by decide +kernel
theorem dL_law_2443 : decode cL_law 2443 = .ok (.iconst 2, 1) := by decide +kernel
theorem dL_law_2444 : decode cL_law 2444 = .ok (.iadd, 1) := by decide +kernel
theorem dL_law_2445 : decode cL_law 2445 = .ok (.iaload, 1) := by decide +kernel
theorem dL_law_2446 : decode cL_law 2446 = .ok (.aload_n 3, 1) := by decide +kernel
theorem dL_copyDrawer_0 : decode cL_copyDrawer 0 = .ok (.aload_n 3, 1) := by decide +kernel
theorem dL_copyDrawer_1 : decode cL_copyDrawer 1 = .ok (.iconst 0, 1) := by decide +kernel
theorem dL_copyDrawer_2 : decode cL_copyDrawer 2 = .ok (.aload_n 0, 1) := by decide +kernel
theorem dL_copyDrawer_3 : decode cL_copyDrawer 3 = .ok (.iload_n 1, 1) := by decide +kernel
theorem dL_copyDrawer_4 : decode cL_copyDrawer 4 = .ok (.iload_n 2, 1) := by decide +kernel
theorem dX6_copyDrawer_0 : decode cX6_copyDrawer 0 = .ok (.aload_n 0, 1) := by decide +kernel
theorem dX6_copyDrawer_1 : decode cX6_copyDrawer 1 = .ok (.iload_n 1, 1) := by decide +kernel
theorem dX6_copyDrawer_2 : decode cX6_copyDrawer 2 = .ok (.invokevirtual 296, 3) := by decide +kernel
theorem dL_copyDrawer_5 : decode cL_copyDrawer 5 = .ok (.invokevirtual 125, 3) := by decide +kernel
theorem dL_copyDrawer_13 : decode cL_copyDrawer 13 = .ok (.astore 4, 2) := by decide +kernel
theorem dL_copyDrawer_15 : decode cL_copyDrawer 15 = .ok (.iconst 1, 1) := by decide +kernel
theorem dL_copyDrawer_16 : decode cL_copyDrawer 16 = .ok (.ireturn, 1) := by decide +kernel
theorem dL_law_2447 : decode cL_law 2447 = .ok (.invokestatic 251, 3) := by decide +kernel
theorem dL_law_2450 : decode cL_law 2450 = .ok (.istore 6, 2) := by decide +kernel
theorem dL_law_2452 : decode cL_law 2452 = .ok (.aload_n 2, 1) := by decide +kernel
theorem dL_law_2453 : decode cL_law 2453 = .ok (.aload_n 0, 1) := by decide +kernel
theorem dL_law_2454 : decode cL_law 2454 = .ok (.iload 5, 2) := by decide +kernel
theorem dL_law_2456 : decode cL_law 2456 = .ok (.iconst 1, 1) := by decide +kernel
theorem dL_law_2457 : decode cL_law 2457 = .ok (.iadd, 1) := by decide +kernel
theorem dL_law_2458 : decode cL_law 2458 = .ok (.iaload, 1) := by decide +kernel
theorem dL_law_2459 : decode cL_law 2459 = .ok (.aload_n 0, 1) := by decide +kernel
theorem dL_law_2460 : decode cL_law 2460 = .ok (.iload 5, 2) := by decide +kernel
theorem dL_law_2462 : decode cL_law 2462 = .ok (.iconst 2, 1) := by decide +kernel
theorem dL_law_2463 : decode cL_law 2463 = .ok (.iadd, 1) := by decide +kernel
theorem dL_law_2464 : decode cL_law 2464 = .ok (.iaload, 1) := by decide +kernel
theorem dX7_copyDrawer_0 : decode cX7_copyDrawer 0 = .ok (.aload_n 0, 1) := by decide +kernel
theorem dX7_copyDrawer_1 : decode cX7_copyDrawer 1 = .ok (.iload_n 1, 1) := by decide +kernel
theorem dX7_copyDrawer_2 : decode cX7_copyDrawer 2 = .ok (.invokestatic 301, 3) := by decide +kernel
theorem dX7_copyDrawer_5 : decode cX7_copyDrawer 5 = .ok (.ifCond .eq 10, 3) := by decide +kernel
theorem dX7_copyDrawer_15 : decode cX7_copyDrawer 15 = .ok (.iconst 1, 1) := by decide +kernel
theorem dX7_copyDrawer_16 : decode cX7_copyDrawer 16 = .ok (.goto 17, 3) := by decide +kernel
theorem dX7_copyDrawer_33 : decode cX7_copyDrawer 33 = .ok (.putfield 48, 3) := by decide +kernel
theorem dX7_copyDrawer_36 : decode cX7_copyDrawer 36 = .ok (.aload_n 0, 1) := by decide +kernel
theorem dX7_copyDrawer_37 : decode cX7_copyDrawer 37 = .ok (.getfield 48, 3) := by decide +kernel
theorem dX7_copyDrawer_40 : decode cX7_copyDrawer 40 = .ok (.ifCond .le 5, 3) := by decide +kernel
theorem dX7_copyDrawer_43 : decode cX7_copyDrawer 43 = .ok (.iconst 0, 1) := by decide +kernel
theorem dX7_copyDrawer_44 : decode cX7_copyDrawer 44 = .ok (.ireturn, 1) := by decide +kernel
theorem dL_law_2465 : decode cL_law 2465 = .ok (.invokevirtual 253, 3) := by decide +kernel
theorem dL_law_2468 : decode cL_law 2468 = .ok (.istore 7, 2) := by decide +kernel
theorem dL_law_2470 : decode cL_law 2470 = .ok (.aload_n 2, 1) := by decide +kernel
theorem dL_law_2471 : decode cL_law 2471 = .ok (.invokevirtual 147, 3) := by decide +kernel
theorem dL_law_2474 : decode cL_law 2474 = .ok (.iload 6, 2) := by decide +kernel
theorem dL_law_2476 : decode cL_law 2476 = .ok (.if_icmp .eq 5, 3) := by decide +kernel
theorem dL_law_2481 : decode cL_law 2481 = .ok (.iload 6, 2) := by decide +kernel
theorem dL_law_2483 : decode cL_law 2483 = .ok (.ifCond .ne 15, 3) := by decide +kernel
theorem dL_law_2498 : decode cL_law 2498 = .ok (.goto 160, 3) := by decide +kernel
theorem dX6_copyDrawer_5 : decode cX6_copyDrawer 5 = .ok (.aload_n 0, 1) := by decide +kernel
theorem dX6_copyDrawer_6 : decode cX6_copyDrawer 6 = .ok (.iload_n 2, 1) := by decide +kernel
theorem dX6_copyDrawer_7 : decode cX6_copyDrawer 7 = .ok (.invokevirtual 296, 3) := by decide +kernel
theorem dX7_copyDrawer_8 : decode cX7_copyDrawer 8 = .ok (.iload_n 2, 1) := by decide +kernel
theorem dX7_copyDrawer_9 : decode cX7_copyDrawer 9 = .ok (.invokestatic 301, 3) := by decide +kernel
theorem dX7_copyDrawer_12 : decode cX7_copyDrawer 12 = .ok (.ifCond .ne 7, 3) := by decide +kernel
theorem dX6_copyDrawer_10 : decode cX6_copyDrawer 10 = .ok (.aload_n 0, 1) := by decide +kernel
theorem dX6_copyDrawer_11 : decode cX6_copyDrawer 11 = .ok (.getfield 35, 3) := by decide +kernel
theorem dX6_copyDrawer_14 : decode cX6_copyDrawer 14 = .ok (.iload_n 1, 1) := by decide +kernel
theorem dX6_copyDrawer_15 : decode cX6_copyDrawer 15 = .ok (.aaload, 1) := by decide +kernel
theorem dX6_copyDrawer_16 : decode cX6_copyDrawer 16 = .ok (.invokevirtual 336, 3) := by decide +kernel
theorem dX6_copyDrawer_19 : decode cX6_copyDrawer 19 = .ok (.ifCond .ne 14, 3) := by decide +kernel
theorem dX6_copyDrawer_22 : decode cX6_copyDrawer 22 = .ok (.new 113, 3) := by decide +kernel
theorem dX6_copyDrawer_25 : decode cX6_copyDrawer 25 = .ok (.dup, 1) := by decide +kernel
theorem dX6_copyDrawer_26 : decode cX6_copyDrawer 26 = .ok (.ldc_w 339, 3) := by decide +kernel
theorem dX6_copyDrawer_29 : decode cX6_copyDrawer 29 = .ok (.invokespecial 117, 3) := by decide +kernel
theorem dX6_copyDrawer_32 : decode cX6_copyDrawer 32 = .ok (.athrow, 1) := by decide +kernel
theorem dL_copyDrawer_17 : decode cL_copyDrawer 17 = .ok (.astore 4, 2) := by decide +kernel
theorem dL_copyDrawer_19 : decode cL_copyDrawer 19 = .ok (.iconst 2, 1) := by decide +kernel
theorem dL_copyDrawer_20 : decode cL_copyDrawer 20 = .ok (.ireturn, 1) := by decide +kernel
theorem dX7_copyDrawer_19 : decode cX7_copyDrawer 19 = .ok (.aload_n 0, 1) := by decide +kernel
theorem dX7_copyDrawer_20 : decode cX7_copyDrawer 20 = .ok (.getfield 39, 3) := by decide +kernel
theorem dX7_copyDrawer_23 : decode cX7_copyDrawer 23 = .ok (.iload_n 1, 1) := by decide +kernel
theorem dX7_copyDrawer_24 : decode cX7_copyDrawer 24 = .ok (.iaload, 1) := by decide +kernel
theorem dX7_copyDrawer_25 : decode cX7_copyDrawer 25 = .ok (.ifCond .ne 7, 3) := by decide +kernel
theorem dX7_copyDrawer_28 : decode cX7_copyDrawer 28 = .ok (.iconst 2, 1) := by decide +kernel
theorem dX7_copyDrawer_29 : decode cX7_copyDrawer 29 = .ok (.goto 4, 3) := by decide +kernel
set_option maxHeartbeats 4000000 in
set_option maxRecDepth 100000 in
theorem k310_X6_copyDrawer (l : Launch) (hl9 : l.stackTraces = false) (G : pxG) (sz : Nat) (a0 a1 a2 a3 a4 a5 : Nat) (i0 i1 : Int32) (h0 : (-2147483648 : Int) ≤ i0.toInt ∧ i0.toInt ≤ (-1)) : vx_Met l yX6_copyDrawer (Cond.code yX6_copyDrawer cX6_copyDrawer 3 (some .int) :: pxAll) ({ frames := 7, cells := 1, slots := 6, locals := 111 } : Room) (va_Pc [.ref a0, .int i0, .int i1] (pxPre G [(a0, .inr (5, [.ref a1, .ref a2, .ref a3, .ref a4, .ref a5, .int 0, .int 0, .int (-1)]))] sz)) pxF (pxXC "java/lang/IndexOutOfBoundsException" (va_A [(a0, .inr (5, [.ref a1, .ref a2, .ref a3, .ref a4, .ref a5, .int 0, .int 0, .int (-1)]))] sz)) 1 6 (va_A [(a0, .inr (5, [.ref a1, .ref a2, .ref a3, .ref a4, .ref a5, .int 0, .int 0, .int (-1)]))] sz) := by
  refine vx_ofW (cc := cX6_copyDrawer) (maxL := 3) (ret := (some .int)) (by decide) rfl ?_
  intro p e s m args below meth c s₁ B hml hEx hv
  obtain ⟨rfl, hsz, hG, hZ, hP, hD0⟩ := hv
  have hx := B.exec
  have hb := B.bytes
  have hr := B.returns
  have hts0 := atoms_spec (ws := Cond.code yX6_copyDrawer cX6_copyDrawer 3 (some .int) :: pxAll) B.pre
  have hts : ∀ w ∈ pxAll, w.before _ s = true := fun w h => hts0 w (List.mem_cons_of_mem _ h)
  have hown : s.vm.findClass RX6 = some m.cls := findClass_of_methodNamed B.named
  have hlocks := B.notSynchronized
  subst hsz
  have hK := hG.1
  have hD := hD0.self (sz := s.heap.size)
  generalize hAe : va_A [(a0, .inr (5, [.ref a1, .ref a2, .ref a3, .ref a4, .ref a5, .int 0, .int 0, .int (-1)]))] s.heap.size = A at hD hZ ⊢
  have hA : ∀ q : Nat, s.heap.size ≤ q → A q := fun q h => by rw [← hAe]; exact Or.inr h
  have hS : va_S A s.heap s.heap [] := va_S.rf
  have hl := lv_entry ([.ref a0, .int i0, .int i1]) (n := 3) (Nat.le_of_ble_eq_true rfl)
  rw [lg_entry_eq]
  generalize (lg_sl ([.ref a0, .int i0, .int i1]) ++ List.replicate (3 - (lg_sl ([.ref a0, .int i0, .int i1])).length) Slot.unset).toArray = ls at hl ⊢
  have hl : lv_has ls 3 [(0, .ref a0), (1, .int i0), (2, .int i1)] := hl
  refine lv_aload_n hx hb dX6_copyDrawer_0 rfl (lv_at hl 0 rfl) ?_
  refine lv_iload_n hx hb dX6_copyDrawer_1 rfl (lv_at hl 1 rfl) ?_
  refine pxCx (vx_runV (As := [.int i0]) (rest := []) ⟨hx, hb, hml, hown, hts⟩ (k226_X6_requireDrawer l hl9 G s.heap.size a0 i0 ⟨by omega, by omega⟩) (cwV 1 hts (pxGV pm632 pm633 pm634 pm2 pm635) rfl rfl rfl (by decide +kernel) ⟨(Nat.le_of_ble_eq_true rfl), (Nat.le_of_ble_eq_true rfl)⟩) (pxV (ci := 5) (q0 := 0) hG hZ hP hD hS hA [] rfl (by decide) rfl rfl) rfl rfl hl.1 rfl (lv_room (Nat.le_of_ble_eq_true rfl)) dX6_copyDrawer_2 ⟨(Nat.le_of_ble_eq_true rfl), (Nat.le_of_ble_eq_true rfl)⟩) hD hS hA [] rfl (fun ce q9 H locs hS hce hcv hcl => ?_)
  exact vx_out (fun x hx => (hEx x hx).elim) hlocks hce hcv hcl (fun t ht _ => ⟨rfl, hS.F ht⟩) hS.2.2 (Nat.le_of_ble_eq_true rfl) (Nat.le_of_ble_eq_true rfl)
set_option maxHeartbeats 4000000 in
set_option maxRecDepth 100000 in
theorem k310_L_copyDrawer (l : Launch) (hl9 : l.stackTraces = false) (G : pxG) (sz : Nat) (a0 a1 a2 a3 a4 a5 a6 : Nat) (i0 i1 : Int32) (h0 : (-2147483648 : Int) ≤ i0.toInt ∧ i0.toInt ≤ (-1)) : Met l yL_copyDrawer (Cond.codeWith yL_copyDrawer cL_copyDrawer 5 (some .int) [(0, 10, 13, 67), (0, 10, 17, 53)] :: pxAll) ({ frames := 8, cells := 1, slots := 6, locals := 133 } : Room) (va_Pc [.ref a0, .int i0, .int i1, .ref a1] (pxPre G [(a0, .inr (5, [.ref a2, .ref a3, .ref a4, .ref a5, .ref a6, .int 0, .int 0, .int (-1)]))] sz)) (pxQi G (fun r => r = 1) (fun q => []) (va_A [(a0, .inr (5, [.ref a2, .ref a3, .ref a4, .ref a5, .ref a6, .int 0, .int 0, .int (-1)]))] sz)) 1 6 (va_A [(a0, .inr (5, [.ref a2, .ref a3, .ref a4, .ref a5, .ref a6, .int 0, .int 0, .int (-1)]))] sz) := by
  refine va_MetW (cc := cL_copyDrawer) (maxL := 5) (ret := (some .int)) (hh := [(0, 10, 13, 67), (0, 10, 17, 53)]) (by decide) rfl ?_
  intro p e s m args below meth c s₁ B hml hv
  obtain ⟨rfl, hsz, hG, hZ, hP, hD0⟩ := hv
  have hx := B.exec
  have hb := B.bytes
  have hr := B.returns
  have hts0 := atoms_spec (ws := Cond.codeWith yL_copyDrawer cL_copyDrawer 5 (some .int) [(0, 10, 13, 67), (0, 10, 17, 53)] :: pxAll) B.pre
  have hts : ∀ w ∈ pxAll, w.before _ s = true := fun w h => hts0 w (List.mem_cons_of_mem _ h)
  have hown : s.vm.findClass RL = some m.cls := findClass_of_methodNamed B.named
  have hlocks := B.notSynchronized
  have hTab := vx_table (x := yL_copyDrawer) B (hts0 _ List.mem_cons_self)
  subst hsz
  have hK := hG.1
  have hD := hD0.self (sz := s.heap.size)
  generalize hAe : va_A [(a0, .inr (5, [.ref a2, .ref a3, .ref a4, .ref a5, .ref a6, .int 0, .int 0, .int (-1)]))] s.heap.size = A at hD hZ ⊢
  have hA : ∀ q : Nat, s.heap.size ≤ q → A q := fun q h => by rw [← hAe]; exact Or.inr h
  have hS : va_S A s.heap s.heap [] := va_S.rf
  have hl := lv_entry ([.ref a0, .int i0, .int i1, .ref a1]) (n := 5) (Nat.le_of_ble_eq_true rfl)
  rw [lg_entry_eq]
  generalize (lg_sl ([.ref a0, .int i0, .int i1, .ref a1]) ++ List.replicate (5 - (lg_sl ([.ref a0, .int i0, .int i1, .ref a1])).length) Slot.unset).toArray = ls at hl ⊢
  have hl : lv_has ls 5 [(0, .ref a0), (1, .int i0), (2, .int i1), (3, .ref a1)] := hl
  refine lv_aload_n hx hb dL_copyDrawer_0 rfl (lv_at hl 3 rfl) ?_
  refine lv_iconst (v := 0) hx hb dL_copyDrawer_1 (by decide) ?_
  refine lv_aload_n hx hb dL_copyDrawer_2 rfl (lv_at hl 0 rfl) ?_
  refine lv_iload_n hx hb dL_copyDrawer_3 rfl (lv_at hl 1 rfl) ?_
  refine lv_iload_n hx hb dL_copyDrawer_4 rfl (lv_at hl 2 rfl) ?_
  refine pxCx (vx_runV (As := [.int i0, .int i1]) (rest := [.int 0, .ref a1]) ⟨hx, hb, hml, hown, hts⟩ (k310_X6_copyDrawer l hl9 G s.heap.size a0 a2 a3 a4 a5 a6 i0 i1 ⟨by omega, by omega⟩) (cwV 2 hts (pxGV pm700 pm701 pm702 pm2 pm703) rfl rfl rfl (by decide +kernel) ⟨(Nat.le_of_ble_eq_true rfl), (Nat.le_of_ble_eq_true rfl)⟩) (pxV (ci := 5) (q0 := 0) hG hZ hP hD hS hA [0] rfl (by decide) rfl rfl) rfl rfl hl.1 rfl (lv_room (Nat.le_of_ble_eq_true rfl)) dL_copyDrawer_5 ⟨(Nat.le_of_ble_eq_true rfl), (Nat.le_of_ble_eq_true rfl)⟩) hD hS hA [0] rfl (fun ce q9 H locs hS hce hcv hcl => ?_)
  refine vx_catch (own := RL) (name := "java/lang/IndexOutOfBoundsException") (E := "java/lang/IndexOutOfBoundsException") hown [] ⟨0, 10, 13, 67⟩ [⟨0, 10, 17, 53⟩] (by rw [hTab]; rfl) (fun z hz => nomatch hz) (by decide) (by decide) (hts _ pm437) (va_Nw.use rfl (hG.2.2.1 "java/lang/IndexOutOfBoundsException" (by simp [pxBadC]))) hce hcv hcl ?_
  have hP : va_P G.1 pxCl [] H := fun k q h => by simp at h
  have hD : va_D A [] := ⟨fun i j p q h => by simp at h, fun k q h => by simp at h⟩
  refine lv_astore (lv' := [(4, .ref q9), (0, .ref a0), (1, .int i0), (2, .int i1), (3, .ref a1)]) hx hb dL_copyDrawer_13 hl (by decide) rfl (fun ls hl => ?_)
  refine lv_iconst (v := 1) hx hb dL_copyDrawer_15 (by decide) ?_
  refine W.widen (k := 1) (n := 6) (Nat.le_of_ble_eq_true rfl) (Nat.le_of_ble_eq_true rfl) ?_
  exact W.iret (v := 1) hx hb hr (fun t ht hW => ⟨⟨1, (fun _ => 0), rfl, rfl, by rw [ht]; exact hP, hD⟩, hS.F ht⟩) hS.2.2 dL_copyDrawer_16
set_option maxHeartbeats 4000000 in
set_option maxRecDepth 100000 in
theorem k312_X7_copyDrawer (l : Launch) (G : pxG) (sz : Nat) (a0 a1 a2 a3 a4 a5 a6 a7 a8 a9 a10 a11 : Nat) (i0 i1 : Int32) (h0 : (-2147483648 : Int) ≤ i0.toInt ∧ i0.toInt ≤ (-1)) : Met l yX7_copyDrawer (Cond.code yX7_copyDrawer cX7_copyDrawer 3 (some .int) :: pxAll) ({ frames := 2, cells := 0, slots := 0, locals := 42 } : Room) (va_Pc [.ref a0, .int i0, .int i1] (pxPre G [(a0, .inr (6, [.ref a1, .ref a2, .ref a3, .int 0, .ref a4, .int 0, .int 0, .int 0, .int 0, .ref a5, .int 0, .ref a6, .int 0, .int 0, .int 0, .int (-1), .ref a7, .ref a8, .int 0, .ref a9, .ref a10, .ref a11]))] sz)) (pxQi G (fun r => r = 0) (fun q => [(a0, .inr (6, [.ref a1, .ref a2, .ref a3, .int 0, .ref a4, .int 0, .int 0, .int 1, .int 0, .ref a5, .int 0, .ref a6, .int 0, .int 0, .int 0, .int (-1), .ref a7, .ref a8, .int 0, .ref a9, .ref a10, .ref a11]))]) (va_A [(a0, .inr (6, [.ref a1, .ref a2, .ref a3, .int 0, .ref a4, .int 0, .int 0, .int 0, .int 0, .ref a5, .int 0, .ref a6, .int 0, .int 0, .int 0, .int (-1), .ref a7, .ref a8, .int 0, .ref a9, .ref a10, .ref a11]))] sz)) 0 0 (va_A [(a0, .inr (6, [.ref a1, .ref a2, .ref a3, .int 0, .ref a4, .int 0, .int 0, .int 0, .int 0, .ref a5, .int 0, .ref a6, .int 0, .int 0, .int 0, .int (-1), .ref a7, .ref a8, .int 0, .ref a9, .ref a10, .ref a11]))] sz) := by
  refine Met.ofW (cc := cX7_copyDrawer) (maxL := 3) (ret := (some .int)) (by decide) rfl ?_
  intro p e s m args below meth c s₁ B hml hv
  obtain ⟨rfl, hsz, hG, hZ, hP, hD0⟩ := hv
  have hx := B.exec
  have hb := B.bytes
  have hr := B.returns
  have hts0 := atoms_spec (ws := Cond.code yX7_copyDrawer cX7_copyDrawer 3 (some .int) :: pxAll) B.pre
  have hts : ∀ w ∈ pxAll, w.before _ s = true := fun w h => hts0 w (List.mem_cons_of_mem _ h)
  have hown : s.vm.findClass RX7 = some m.cls := findClass_of_methodNamed B.named
  have hlocks := B.notSynchronized
  subst hsz
  have hK := hG.1
  have hD := hD0.self (sz := s.heap.size)
  generalize hAe : va_A [(a0, .inr (6, [.ref a1, .ref a2, .ref a3, .int 0, .ref a4, .int 0, .int 0, .int 0, .int 0, .ref a5, .int 0, .ref a6, .int 0, .int 0, .int 0, .int (-1), .ref a7, .ref a8, .int 0, .ref a9, .ref a10, .ref a11]))] s.heap.size = A at hD hZ ⊢
  have hA : ∀ q : Nat, s.heap.size ≤ q → A q := fun q h => by rw [← hAe]; exact Or.inr h
  have hS : va_S A s.heap s.heap [] := va_S.rf
  have hl := lv_entry ([.ref a0, .int i0, .int i1]) (n := 3) (Nat.le_of_ble_eq_true rfl)
  rw [lg_entry_eq]
  generalize (lg_sl ([.ref a0, .int i0, .int i1]) ++ List.replicate (3 - (lg_sl ([.ref a0, .int i0, .int i1])).length) Slot.unset).toArray = ls at hl ⊢
  have hl : lv_has ls 3 [(0, .ref a0), (1, .int i0), (2, .int i1)] := hl
  refine lv_aload_n hx hb dX7_copyDrawer_0 rfl (lv_at hl 0 rfl) ?_
  refine lv_iload_n hx hb dX7_copyDrawer_1 rfl (lv_at hl 1 rfl) ?_
  refine pxCi (va_runS (As := [.int i0]) (rest := [.ref a0]) ⟨hx, hb, hml, hown, hts⟩ (k229_X7_isDrawer l G s.heap.size i0 ⟨by omega, by omega⟩) (va_cwS 1 hts (pxGS pm643 pm644 pm71 pm645) rfl rfl rfl (by decide +kernel) ⟨(Nat.le_of_ble_eq_true rfl), (Nat.le_of_ble_eq_true rfl)⟩) (pxS hG hZ hP hD hS hA [] rfl (by decide)) rfl rfl hl.1 rfl (lv_room (Nat.le_of_ble_eq_true rfl)) dX7_copyDrawer_2 ⟨(Nat.le_of_ble_eq_true rfl), (Nat.le_of_ble_eq_true rfl)⟩) hP hD hS hA [] [0] rfl rfl (by decide) (by decide) (fun r2 q1 H locs hw hP hD hS => ?_)
  have hw : r2 = 0 := hw
  subst hw
  have hP : va_P G.1 pxCl [(a0, .inr (6, [.ref a1, .ref a2, .ref a3, .int 0, .ref a4, .int 0, .int 0, .int 0, .int 0, .ref a5, .int 0, .ref a6, .int 0, .int 0, .int 0, .int (-1), .ref a7, .ref a8, .int 0, .ref a9, .ref a10, .ref a11]))] H := hP
  have hD : va_D A [(a0, .inr (6, [.ref a1, .ref a2, .ref a3, .int 0, .ref a4, .int 0, .int 0, .int 0, .int 0, .ref a5, .int 0, .ref a6, .int 0, .int 0, .int 0, .int (-1), .ref a7, .ref a8, .int 0, .ref a9, .ref a10, .ref a11]))] := hD
  refine lv_if_eq (tgt := 15) hx hb dX7_copyDrawer_5 (by decide) (fun _ => ?_) (fun h9 => absurd (by decide) h9)
  refine lv_iconst (v := 1) hx hb dX7_copyDrawer_15 (by decide) ?_
  refine lv_goto (tgt := 33) hx hb dX7_copyDrawer_16 (by decide) ?_
  refine va_put (D := G.1) (ci := 6) (v := .int 1) (ty := .int) (C := RX7) (T := TX7) (N := 22) hx hb hts piX7 tyX7 tyX7_ok nmX7 hown hK hP hD hS 0 rfl rfl 7 (by decide) (hts _ pm150) (fun _ h9 => h9) rfl (by decide +kernel) rfl rfl (Nat.le_of_ble_eq_true rfl) dX7_copyDrawer_33 (fun H locs hP hD hS => ?_)
  have hP : va_P G.1 pxCl [(a0, .inr (6, [.ref a1, .ref a2, .ref a3, .int 0, .ref a4, .int 0, .int 0, .int 1, .int 0, .ref a5, .int 0, .ref a6, .int 0, .int 0, .int 0, .int (-1), .ref a7, .ref a8, .int 0, .ref a9, .ref a10, .ref a11]))] H := hP
  have hD : va_D A [(a0, .inr (6, [.ref a1, .ref a2, .ref a3, .int 0, .ref a4, .int 0, .int 0, .int 1, .int 0, .ref a5, .int 0, .ref a6, .int 0, .int 0, .int 0, .int (-1), .ref a7, .ref a8, .int 0, .ref a9, .ref a10, .ref a11]))] := hD
  refine lv_aload_n hx hb dX7_copyDrawer_36 rfl (lv_at hl 0 rfl) ?_
  refine va_get (D := G.1) (ci := 6) (v := .int 1) (C := RX7) (T := TX7) (N := 22) hx hb hts piX7 hown hK hP 0 rfl rfl 7 (by decide) (hts _ pm150) (fun _ h9 => h9) rfl dX7_copyDrawer_37 ?_
  refine lv_if_le (tgt := 45) hx hb dX7_copyDrawer_40 (by decide) (fun h9 => absurd h9 (by decide)) (fun _ => ?_)
  refine lv_iconst (v := 0) hx hb dX7_copyDrawer_43 (by decide) ?_
  refine W.widen (k := 0) (n := 0) (Nat.le_of_ble_eq_true rfl) (Nat.le_of_ble_eq_true rfl) ?_
  exact W.iret (v := 0) hx hb hr (fun t ht hW => ⟨⟨0, (fun _ => 0), rfl, rfl, by rw [ht]; exact hP, hD⟩, hS.F ht⟩) hS.2.2 dX7_copyDrawer_44
set_option maxHeartbeats 4000000 in
set_option maxRecDepth 100000 in
theorem k313_X6_copyDrawer (l : Launch) (hl9 : l.stackTraces = false) (G : pxG) (sz : Nat) (a0 a1 a2 a3 a4 a5 : Nat) (i0 i1 : Int32) (h1 : (-2147483648 : Int) ≤ i1.toInt ∧ i1.toInt ≤ (-1)) : vx_Met l yX6_copyDrawer (Cond.code yX6_copyDrawer cX6_copyDrawer 3 (some .int) :: pxAll) ({ frames := 7, cells := 1, slots := 6, locals := 111 } : Room) (va_Pc [.ref a0, .int i0, .int i1] (pxPre G [(a0, .inr (5, [.ref a1, .ref a2, .ref a3, .ref a4, .ref a5, .int 0, .int 0, .int (-1)]))] sz)) pxF (pxXC "java/lang/IndexOutOfBoundsException" (va_A [(a0, .inr (5, [.ref a1, .ref a2, .ref a3, .ref a4, .ref a5, .int 0, .int 0, .int (-1)]))] sz)) 1 6 (va_A [(a0, .inr (5, [.ref a1, .ref a2, .ref a3, .ref a4, .ref a5, .int 0, .int 0, .int (-1)]))] sz) := by
  refine vx_ofW (cc := cX6_copyDrawer) (maxL := 3) (ret := (some .int)) (by decide) rfl ?_
  intro p e s m args below meth c s₁ B hml hEx hv
  obtain ⟨rfl, hsz, hG, hZ, hP, hD0⟩ := hv
  have hx := B.exec
  have hb := B.bytes
  have hr := B.returns
  have hts0 := atoms_spec (ws := Cond.code yX6_copyDrawer cX6_copyDrawer 3 (some .int) :: pxAll) B.pre
  have hts : ∀ w ∈ pxAll, w.before _ s = true := fun w h => hts0 w (List.mem_cons_of_mem _ h)
  have hown : s.vm.findClass RX6 = some m.cls := findClass_of_methodNamed B.named
  have hlocks := B.notSynchronized
  subst hsz
  have hK := hG.1
  have hD := hD0.self (sz := s.heap.size)
  generalize hAe : va_A [(a0, .inr (5, [.ref a1, .ref a2, .ref a3, .ref a4, .ref a5, .int 0, .int 0, .int (-1)]))] s.heap.size = A at hD hZ ⊢
  have hA : ∀ q : Nat, s.heap.size ≤ q → A q := fun q h => by rw [← hAe]; exact Or.inr h
  have hS : va_S A s.heap s.heap [] := va_S.rf
  have hl := lv_entry ([.ref a0, .int i0, .int i1]) (n := 3) (Nat.le_of_ble_eq_true rfl)
  rw [lg_entry_eq]
  generalize (lg_sl ([.ref a0, .int i0, .int i1]) ++ List.replicate (3 - (lg_sl ([.ref a0, .int i0, .int i1])).length) Slot.unset).toArray = ls at hl ⊢
  have hl : lv_has ls 3 [(0, .ref a0), (1, .int i0), (2, .int i1)] := hl
  have r0 := pxRng i0
  have r1 := pxRng i1
  refine lv_aload_n hx hb dX6_copyDrawer_0 rfl (lv_at hl 0 rfl) ?_
  refine lv_iload_n hx hb dX6_copyDrawer_1 rfl (lv_at hl 1 rfl) ?_
  rcases Int.lt_or_le i0.toInt 0 with f1 | f1
  · skip
    refine pxCx (vx_runV (As := [.int i0]) (rest := []) ⟨hx, hb, hml, hown, hts⟩ (k226_X6_requireDrawer l hl9 G s.heap.size a0 i0 ⟨by omega, by omega⟩) (cwV 1 hts (pxGV pm632 pm633 pm634 pm2 pm635) rfl rfl rfl (by decide +kernel) ⟨(Nat.le_of_ble_eq_true rfl), (Nat.le_of_ble_eq_true rfl)⟩) (pxV (ci := 5) (q0 := 0) hG hZ hP hD hS hA [] rfl (by decide) rfl rfl) rfl rfl hl.1 rfl (lv_room (Nat.le_of_ble_eq_true rfl)) dX6_copyDrawer_2 ⟨(Nat.le_of_ble_eq_true rfl), (Nat.le_of_ble_eq_true rfl)⟩) hD hS hA [] rfl (fun ce q9 H locs hS hce hcv hcl => ?_)
    exact vx_out (fun x hx => (hEx x hx).elim) hlocks hce hcv hcl (fun t ht _ => ⟨rfl, hS.F ht⟩) hS.2.2 (Nat.le_of_ble_eq_true rfl) (Nat.le_of_ble_eq_true rfl)
  · skip
    rcases Int.lt_or_le i0.toInt 3 with f2 | f2
    · skip
      refine pxCv (va_runV (As := [.int i0]) (rest := []) ⟨hx, hb, hml, hown, hts⟩ (k232_X6_requireDrawer l G s.heap.size a0 i0 ⟨by omega, by omega⟩) (cwV 1 hts (pxGV pm632 pm633 pm634 pm2 pm635) rfl rfl rfl (by decide +kernel) ⟨(Nat.le_of_ble_eq_true rfl), (Nat.le_of_ble_eq_true rfl)⟩) (pxV (ci := 5) (q0 := 0) hG hZ hP hD hS hA [] rfl (by decide) rfl rfl) rfl rfl hl.1 rfl (lv_room (Nat.le_of_ble_eq_true rfl)) dX6_copyDrawer_2 ⟨(Nat.le_of_ble_eq_true rfl), (Nat.le_of_ble_eq_true rfl)⟩) hP hD hS hA [] [0] rfl rfl (by decide) (by decide) (fun q1 H locs hP hD hS => ?_)
      have hP : va_P G.1 pxCl [(a0, .inr (5, [.ref a1, .ref a2, .ref a3, .ref a4, .ref a5, .int 0, .int 0, .int (-1)]))] H := hP
      have hD : va_D A [(a0, .inr (5, [.ref a1, .ref a2, .ref a3, .ref a4, .ref a5, .int 0, .int 0, .int (-1)]))] := hD
      refine lv_aload_n hx hb dX6_copyDrawer_5 rfl (lv_at hl 0 rfl) ?_
      refine lv_iload_n hx hb dX6_copyDrawer_6 rfl (lv_at hl 2 rfl) ?_
      refine pxCx (vx_runV (As := [.int i1]) (rest := []) ⟨hx, hb, hml, hown, hts⟩ (k226_X6_requireDrawer l hl9 G H.size a0 i1 ⟨by omega, by omega⟩) (cwV 1 hts (pxGV pm632 pm633 pm634 pm2 pm635) rfl rfl rfl (by decide +kernel) ⟨(Nat.le_of_ble_eq_true rfl), (Nat.le_of_ble_eq_true rfl)⟩) (pxV (ci := 5) (q0 := 0) hG hZ hP hD hS hA [] rfl (by decide) rfl rfl) rfl rfl hl.1 rfl (lv_room (Nat.le_of_ble_eq_true rfl)) dX6_copyDrawer_7 ⟨(Nat.le_of_ble_eq_true rfl), (Nat.le_of_ble_eq_true rfl)⟩) hD hS hA [] rfl (fun ce q9 H locs hS hce hcv hcl => ?_)
      exact vx_out (fun x hx => (hEx x hx).elim) hlocks hce hcv hcl (fun t ht _ => ⟨rfl, hS.F ht⟩) hS.2.2 (Nat.le_of_ble_eq_true rfl) (Nat.le_of_ble_eq_true rfl)
    · skip
      refine pxCx (vx_runV (As := [.int i0]) (rest := []) ⟨hx, hb, hml, hown, hts⟩ (k292_X6_requireDrawer l hl9 G s.heap.size a0 i0 ⟨by omega, by omega⟩) (cwV 1 hts (pxGV pm632 pm633 pm634 pm2 pm635) rfl rfl rfl (by decide +kernel) ⟨(Nat.le_of_ble_eq_true rfl), (Nat.le_of_ble_eq_true rfl)⟩) (pxV (ci := 5) (q0 := 0) hG hZ hP hD hS hA [] rfl (by decide) rfl rfl) rfl rfl hl.1 rfl (lv_room (Nat.le_of_ble_eq_true rfl)) dX6_copyDrawer_2 ⟨(Nat.le_of_ble_eq_true rfl), (Nat.le_of_ble_eq_true rfl)⟩) hD hS hA [] rfl (fun ce q9 H locs hS hce hcv hcl => ?_)
      exact vx_out (fun x hx => (hEx x hx).elim) hlocks hce hcv hcl (fun t ht _ => ⟨rfl, hS.F ht⟩) hS.2.2 (Nat.le_of_ble_eq_true rfl) (Nat.le_of_ble_eq_true rfl)
set_option maxHeartbeats 4000000 in
set_option maxRecDepth 100000 in
theorem k313_L_copyDrawer (l : Launch) (hl9 : l.stackTraces = false) (G : pxG) (sz : Nat) (a0 a1 a2 a3 a4 a5 a6 : Nat) (i0 i1 : Int32) (h1 : (-2147483648 : Int) ≤ i1.toInt ∧ i1.toInt ≤ (-1)) : Met l yL_copyDrawer (Cond.codeWith yL_copyDrawer cL_copyDrawer 5 (some .int) [(0, 10, 13, 67), (0, 10, 17, 53)] :: pxAll) ({ frames := 8, cells := 1, slots := 6, locals := 133 } : Room) (va_Pc [.ref a0, .int i0, .int i1, .ref a1] (pxPre G [(a0, .inr (5, [.ref a2, .ref a3, .ref a4, .ref a5, .ref a6, .int 0, .int 0, .int (-1)]))] sz)) (pxQi G (fun r => r = 1) (fun q => []) (va_A [(a0, .inr (5, [.ref a2, .ref a3, .ref a4, .ref a5, .ref a6, .int 0, .int 0, .int (-1)]))] sz)) 1 6 (va_A [(a0, .inr (5, [.ref a2, .ref a3, .ref a4, .ref a5, .ref a6, .int 0, .int 0, .int (-1)]))] sz) := by
  refine va_MetW (cc := cL_copyDrawer) (maxL := 5) (ret := (some .int)) (hh := [(0, 10, 13, 67), (0, 10, 17, 53)]) (by decide) rfl ?_
  intro p e s m args below meth c s₁ B hml hv
  obtain ⟨rfl, hsz, hG, hZ, hP, hD0⟩ := hv
  have hx := B.exec
  have hb := B.bytes
  have hr := B.returns
  have hts0 := atoms_spec (ws := Cond.codeWith yL_copyDrawer cL_copyDrawer 5 (some .int) [(0, 10, 13, 67), (0, 10, 17, 53)] :: pxAll) B.pre
  have hts : ∀ w ∈ pxAll, w.before _ s = true := fun w h => hts0 w (List.mem_cons_of_mem _ h)
  have hown : s.vm.findClass RL = some m.cls := findClass_of_methodNamed B.named
  have hlocks := B.notSynchronized
  have hTab := vx_table (x := yL_copyDrawer) B (hts0 _ List.mem_cons_self)
  subst hsz
  have hK := hG.1
  have hD := hD0.self (sz := s.heap.size)
  generalize hAe : va_A [(a0, .inr (5, [.ref a2, .ref a3, .ref a4, .ref a5, .ref a6, .int 0, .int 0, .int (-1)]))] s.heap.size = A at hD hZ ⊢
  have hA : ∀ q : Nat, s.heap.size ≤ q → A q := fun q h => by rw [← hAe]; exact Or.inr h
  have hS : va_S A s.heap s.heap [] := va_S.rf
  have hl := lv_entry ([.ref a0, .int i0, .int i1, .ref a1]) (n := 5) (Nat.le_of_ble_eq_true rfl)
  rw [lg_entry_eq]
  generalize (lg_sl ([.ref a0, .int i0, .int i1, .ref a1]) ++ List.replicate (5 - (lg_sl ([.ref a0, .int i0, .int i1, .ref a1])).length) Slot.unset).toArray = ls at hl ⊢
  have hl : lv_has ls 5 [(0, .ref a0), (1, .int i0), (2, .int i1), (3, .ref a1)] := hl
  refine lv_aload_n hx hb dL_copyDrawer_0 rfl (lv_at hl 3 rfl) ?_
  refine lv_iconst (v := 0) hx hb dL_copyDrawer_1 (by decide) ?_
  refine lv_aload_n hx hb dL_copyDrawer_2 rfl (lv_at hl 0 rfl) ?_
  refine lv_iload_n hx hb dL_copyDrawer_3 rfl (lv_at hl 1 rfl) ?_
  refine lv_iload_n hx hb dL_copyDrawer_4 rfl (lv_at hl 2 rfl) ?_
  refine pxCx (vx_runV (As := [.int i0, .int i1]) (rest := [.int 0, .ref a1]) ⟨hx, hb, hml, hown, hts⟩ (k313_X6_copyDrawer l hl9 G s.heap.size a0 a2 a3 a4 a5 a6 i0 i1 ⟨by omega, by omega⟩) (cwV 2 hts (pxGV pm700 pm701 pm702 pm2 pm703) rfl rfl rfl (by decide +kernel) ⟨(Nat.le_of_ble_eq_true rfl), (Nat.le_of_ble_eq_true rfl)⟩) (pxV (ci := 5) (q0 := 0) hG hZ hP hD hS hA [0] rfl (by decide) rfl rfl) rfl rfl hl.1 rfl (lv_room (Nat.le_of_ble_eq_true rfl)) dL_copyDrawer_5 ⟨(Nat.le_of_ble_eq_true rfl), (Nat.le_of_ble_eq_true rfl)⟩) hD hS hA [0] rfl (fun ce q9 H locs hS hce hcv hcl => ?_)
  refine vx_catch (own := RL) (name := "java/lang/IndexOutOfBoundsException") (E := "java/lang/IndexOutOfBoundsException") hown [] ⟨0, 10, 13, 67⟩ [⟨0, 10, 17, 53⟩] (by rw [hTab]; rfl) (fun z hz => nomatch hz) (by decide) (by decide) (hts _ pm437) (va_Nw.use rfl (hG.2.2.1 "java/lang/IndexOutOfBoundsException" (by simp [pxBadC]))) hce hcv hcl ?_
  have hP : va_P G.1 pxCl [] H := fun k q h => by simp at h
  have hD : va_D A [] := ⟨fun i j p q h => by simp at h, fun k q h => by simp at h⟩
  refine lv_astore (lv' := [(4, .ref q9), (0, .ref a0), (1, .int i0), (2, .int i1), (3, .ref a1)]) hx hb dL_copyDrawer_13 hl (by decide) rfl (fun ls hl => ?_)
  refine lv_iconst (v := 1) hx hb dL_copyDrawer_15 (by decide) ?_
  refine W.widen (k := 1) (n := 6) (Nat.le_of_ble_eq_true rfl) (Nat.le_of_ble_eq_true rfl) ?_
  exact W.iret (v := 1) hx hb hr (fun t ht hW => ⟨⟨1, (fun _ => 0), rfl, rfl, by rw [ht]; exact hP, hD⟩, hS.F ht⟩) hS.2.2 dL_copyDrawer_16
set_option maxHeartbeats 4000000 in
set_option maxRecDepth 100000 in
theorem k315_X7_copyDrawer (l : Launch) (G : pxG) (sz : Nat) (a0 a1 a2 a3 a4 a5 a6 a7 a8 a9 a10 a11 : Nat) (i0 i1 : Int32) (h1 : (-2147483648 : Int) ≤ i1.toInt ∧ i1.toInt ≤ (-1)) : Met l yX7_copyDrawer (Cond.code yX7_copyDrawer cX7_copyDrawer 3 (some .int) :: pxAll) ({ frames := 2, cells := 0, slots := 0, locals := 42 } : Room) (va_Pc [.ref a0, .int i0, .int i1] (pxPre G [(a0, .inr (6, [.ref a1, .ref a2, .ref a3, .int 0, .ref a4, .int 0, .int 0, .int 0, .int 0, .ref a5, .int 0, .ref a6, .int 0, .int 0, .int 0, .int (-1), .ref a7, .ref a8, .int 0, .ref a9, .ref a10, .ref a11]))] sz)) (pxQi G (fun r => r = 0) (fun q => [(a0, .inr (6, [.ref a1, .ref a2, .ref a3, .int 0, .ref a4, .int 0, .int 0, .int 1, .int 0, .ref a5, .int 0, .ref a6, .int 0, .int 0, .int 0, .int (-1), .ref a7, .ref a8, .int 0, .ref a9, .ref a10, .ref a11]))]) (va_A [(a0, .inr (6, [.ref a1, .ref a2, .ref a3, .int 0, .ref a4, .int 0, .int 0, .int 0, .int 0, .ref a5, .int 0, .ref a6, .int 0, .int 0, .int 0, .int (-1), .ref a7, .ref a8, .int 0, .ref a9, .ref a10, .ref a11]))] sz)) 0 0 (va_A [(a0, .inr (6, [.ref a1, .ref a2, .ref a3, .int 0, .ref a4, .int 0, .int 0, .int 0, .int 0, .ref a5, .int 0, .ref a6, .int 0, .int 0, .int 0, .int (-1), .ref a7, .ref a8, .int 0, .ref a9, .ref a10, .ref a11]))] sz) := by
  refine Met.ofW (cc := cX7_copyDrawer) (maxL := 3) (ret := (some .int)) (by decide) rfl ?_
  intro p e s m args below meth c s₁ B hml hv
  obtain ⟨rfl, hsz, hG, hZ, hP, hD0⟩ := hv
  have hx := B.exec
  have hb := B.bytes
  have hr := B.returns
  have hts0 := atoms_spec (ws := Cond.code yX7_copyDrawer cX7_copyDrawer 3 (some .int) :: pxAll) B.pre
  have hts : ∀ w ∈ pxAll, w.before _ s = true := fun w h => hts0 w (List.mem_cons_of_mem _ h)
  have hown : s.vm.findClass RX7 = some m.cls := findClass_of_methodNamed B.named
  have hlocks := B.notSynchronized
  subst hsz
  have hK := hG.1
  have hD := hD0.self (sz := s.heap.size)
  generalize hAe : va_A [(a0, .inr (6, [.ref a1, .ref a2, .ref a3, .int 0, .ref a4, .int 0, .int 0, .int 0, .int 0, .ref a5, .int 0, .ref a6, .int 0, .int 0, .int 0, .int (-1), .ref a7, .ref a8, .int 0, .ref a9, .ref a10, .ref a11]))] s.heap.size = A at hD hZ ⊢
  have hA : ∀ q : Nat, s.heap.size ≤ q → A q := fun q h => by rw [← hAe]; exact Or.inr h
  have hS : va_S A s.heap s.heap [] := va_S.rf
  have hl := lv_entry ([.ref a0, .int i0, .int i1]) (n := 3) (Nat.le_of_ble_eq_true rfl)
  rw [lg_entry_eq]
  generalize (lg_sl ([.ref a0, .int i0, .int i1]) ++ List.replicate (3 - (lg_sl ([.ref a0, .int i0, .int i1])).length) Slot.unset).toArray = ls at hl ⊢
  have hl : lv_has ls 3 [(0, .ref a0), (1, .int i0), (2, .int i1)] := hl
  have r0 := pxRng i0
  have r1 := pxRng i1
  refine lv_aload_n hx hb dX7_copyDrawer_0 rfl (lv_at hl 0 rfl) ?_
  refine lv_iload_n hx hb dX7_copyDrawer_1 rfl (lv_at hl 1 rfl) ?_
  rcases Int.lt_or_le i0.toInt 0 with f1 | f1
  · skip
    refine pxCi (va_runS (As := [.int i0]) (rest := [.ref a0]) ⟨hx, hb, hml, hown, hts⟩ (k229_X7_isDrawer l G s.heap.size i0 ⟨by omega, by omega⟩) (va_cwS 1 hts (pxGS pm643 pm644 pm71 pm645) rfl rfl rfl (by decide +kernel) ⟨(Nat.le_of_ble_eq_true rfl), (Nat.le_of_ble_eq_true rfl)⟩) (pxS hG hZ hP hD hS hA [] rfl (by decide)) rfl rfl hl.1 rfl (lv_room (Nat.le_of_ble_eq_true rfl)) dX7_copyDrawer_2 ⟨(Nat.le_of_ble_eq_true rfl), (Nat.le_of_ble_eq_true rfl)⟩) hP hD hS hA [] [0] rfl rfl (by decide) (by decide) (fun r2 q1 H locs hw hP hD hS => ?_)
    have hw : r2 = 0 := hw
    subst hw
    have hP : va_P G.1 pxCl [(a0, .inr (6, [.ref a1, .ref a2, .ref a3, .int 0, .ref a4, .int 0, .int 0, .int 0, .int 0, .ref a5, .int 0, .ref a6, .int 0, .int 0, .int 0, .int (-1), .ref a7, .ref a8, .int 0, .ref a9, .ref a10, .ref a11]))] H := hP
    have hD : va_D A [(a0, .inr (6, [.ref a1, .ref a2, .ref a3, .int 0, .ref a4, .int 0, .int 0, .int 0, .int 0, .ref a5, .int 0, .ref a6, .int 0, .int 0, .int 0, .int (-1), .ref a7, .ref a8, .int 0, .ref a9, .ref a10, .ref a11]))] := hD
    refine lv_if_eq (tgt := 15) hx hb dX7_copyDrawer_5 (by decide) (fun _ => ?_) (fun h9 => absurd (by decide) h9)
    refine lv_iconst (v := 1) hx hb dX7_copyDrawer_15 (by decide) ?_
    refine lv_goto (tgt := 33) hx hb dX7_copyDrawer_16 (by decide) ?_
    refine va_put (D := G.1) (ci := 6) (v := .int 1) (ty := .int) (C := RX7) (T := TX7) (N := 22) hx hb hts piX7 tyX7 tyX7_ok nmX7 hown hK hP hD hS 0 rfl rfl 7 (by decide) (hts _ pm150) (fun _ h9 => h9) rfl (by decide +kernel) rfl rfl (Nat.le_of_ble_eq_true rfl) dX7_copyDrawer_33 (fun H locs hP hD hS => ?_)
    have hP : va_P G.1 pxCl [(a0, .inr (6, [.ref a1, .ref a2, .ref a3, .int 0, .ref a4, .int 0, .int 0, .int 1, .int 0, .ref a5, .int 0, .ref a6, .int 0, .int 0, .int 0, .int (-1), .ref a7, .ref a8, .int 0, .ref a9, .ref a10, .ref a11]))] H := hP
    have hD : va_D A [(a0, .inr (6, [.ref a1, .ref a2, .ref a3, .int 0, .ref a4, .int 0, .int 0, .int 1, .int 0, .ref a5, .int 0, .ref a6, .int 0, .int 0, .int 0, .int (-1), .ref a7, .ref a8, .int 0, .ref a9, .ref a10, .ref a11]))] := hD
    refine lv_aload_n hx hb dX7_copyDrawer_36 rfl (lv_at hl 0 rfl) ?_
    refine va_get (D := G.1) (ci := 6) (v := .int 1) (C := RX7) (T := TX7) (N := 22) hx hb hts piX7 hown hK hP 0 rfl rfl 7 (by decide) (hts _ pm150) (fun _ h9 => h9) rfl dX7_copyDrawer_37 ?_
    refine lv_if_le (tgt := 45) hx hb dX7_copyDrawer_40 (by decide) (fun h9 => absurd h9 (by decide)) (fun _ => ?_)
    refine lv_iconst (v := 0) hx hb dX7_copyDrawer_43 (by decide) ?_
    refine W.widen (k := 0) (n := 0) (Nat.le_of_ble_eq_true rfl) (Nat.le_of_ble_eq_true rfl) ?_
    exact W.iret (v := 0) hx hb hr (fun t ht hW => ⟨⟨0, (fun _ => 0), rfl, rfl, by rw [ht]; exact hP, hD⟩, hS.F ht⟩) hS.2.2 dX7_copyDrawer_44
  · skip
    rcases Int.lt_or_le i0.toInt 3 with f2 | f2
    · skip
      refine pxCi (va_runS (As := [.int i0]) (rest := [.ref a0]) ⟨hx, hb, hml, hown, hts⟩ (k236_X7_isDrawer l G s.heap.size i0 ⟨by omega, by omega⟩) (va_cwS 1 hts (pxGS pm643 pm644 pm71 pm645) rfl rfl rfl (by decide +kernel) ⟨(Nat.le_of_ble_eq_true rfl), (Nat.le_of_ble_eq_true rfl)⟩) (pxS hG hZ hP hD hS hA [] rfl (by decide)) rfl rfl hl.1 rfl (lv_room (Nat.le_of_ble_eq_true rfl)) dX7_copyDrawer_2 ⟨(Nat.le_of_ble_eq_true rfl), (Nat.le_of_ble_eq_true rfl)⟩) hP hD hS hA [] [0] rfl rfl (by decide) (by decide) (fun r2 q1 H locs hw hP hD hS => ?_)
      have hw : r2 = 1 := hw
      subst hw
      have hP : va_P G.1 pxCl [(a0, .inr (6, [.ref a1, .ref a2, .ref a3, .int 0, .ref a4, .int 0, .int 0, .int 0, .int 0, .ref a5, .int 0, .ref a6, .int 0, .int 0, .int 0, .int (-1), .ref a7, .ref a8, .int 0, .ref a9, .ref a10, .ref a11]))] H := hP
      have hD : va_D A [(a0, .inr (6, [.ref a1, .ref a2, .ref a3, .int 0, .ref a4, .int 0, .int 0, .int 0, .int 0, .ref a5, .int 0, .ref a6, .int 0, .int 0, .int 0, .int (-1), .ref a7, .ref a8, .int 0, .ref a9, .ref a10, .ref a11]))] := hD
      refine lv_if_eq (tgt := 15) hx hb dX7_copyDrawer_5 (by decide) (fun h9 => absurd h9 (by decide)) (fun _ => ?_)
      refine lv_iload_n hx hb dX7_copyDrawer_8 rfl (lv_at hl 2 rfl) ?_
      refine pxCi (va_runS (As := [.int i1]) (rest := [.ref a0]) ⟨hx, hb, hml, hown, hts⟩ (k229_X7_isDrawer l G H.size i1 ⟨by omega, by omega⟩) (va_cwS 1 hts (pxGS pm643 pm644 pm71 pm645) rfl rfl rfl (by decide +kernel) ⟨(Nat.le_of_ble_eq_true rfl), (Nat.le_of_ble_eq_true rfl)⟩) (pxS hG hZ hP hD hS hA [] rfl (by decide)) rfl rfl hl.1 rfl (lv_room (Nat.le_of_ble_eq_true rfl)) dX7_copyDrawer_9 ⟨(Nat.le_of_ble_eq_true rfl), (Nat.le_of_ble_eq_true rfl)⟩) hP hD hS hA [] [0] rfl rfl (by decide) (by decide) (fun r4 q3 H locs hw hP hD hS => ?_)
      have hw : r4 = 0 := hw
      subst hw
      have hP : va_P G.1 pxCl [(a0, .inr (6, [.ref a1, .ref a2, .ref a3, .int 0, .ref a4, .int 0, .int 0, .int 0, .int 0, .ref a5, .int 0, .ref a6, .int 0, .int 0, .int 0, .int (-1), .ref a7, .ref a8, .int 0, .ref a9, .ref a10, .ref a11]))] H := hP
      have hD : va_D A [(a0, .inr (6, [.ref a1, .ref a2, .ref a3, .int 0, .ref a4, .int 0, .int 0, .int 0, .int 0, .ref a5, .int 0, .ref a6, .int 0, .int 0, .int 0, .int (-1), .ref a7, .ref a8, .int 0, .ref a9, .ref a10, .ref a11]))] := hD
      refine lv_if_ne (tgt := 19) hx hb dX7_copyDrawer_12 (by decide) (fun h9 => absurd h9 (by decide)) (fun _ => ?_)
      refine lv_iconst (v := 1) hx hb dX7_copyDrawer_15 (by decide) ?_
      refine lv_goto (tgt := 33) hx hb dX7_copyDrawer_16 (by decide) ?_
      refine va_put (D := G.1) (ci := 6) (v := .int 1) (ty := .int) (C := RX7) (T := TX7) (N := 22) hx hb hts piX7 tyX7 tyX7_ok nmX7 hown hK hP hD hS 0 rfl rfl 7 (by decide) (hts _ pm150) (fun _ h9 => h9) rfl (by decide +kernel) rfl rfl (Nat.le_of_ble_eq_true rfl) dX7_copyDrawer_33 (fun H locs hP hD hS => ?_)
      have hP : va_P G.1 pxCl [(a0, .inr (6, [.ref a1, .ref a2, .ref a3, .int 0, .ref a4, .int 0, .int 0, .int 1, .int 0, .ref a5, .int 0, .ref a6, .int 0, .int 0, .int 0, .int (-1), .ref a7, .ref a8, .int 0, .ref a9, .ref a10, .ref a11]))] H := hP
      have hD : va_D A [(a0, .inr (6, [.ref a1, .ref a2, .ref a3, .int 0, .ref a4, .int 0, .int 0, .int 1, .int 0, .ref a5, .int 0, .ref a6, .int 0, .int 0, .int 0, .int (-1), .ref a7, .ref a8, .int 0, .ref a9, .ref a10, .ref a11]))] := hD
      refine lv_aload_n hx hb dX7_copyDrawer_36 rfl (lv_at hl 0 rfl) ?_
      refine va_get (D := G.1) (ci := 6) (v := .int 1) (C := RX7) (T := TX7) (N := 22) hx hb hts piX7 hown hK hP 0 rfl rfl 7 (by decide) (hts _ pm150) (fun _ h9 => h9) rfl dX7_copyDrawer_37 ?_
      refine lv_if_le (tgt := 45) hx hb dX7_copyDrawer_40 (by decide) (fun h9 => absurd h9 (by decide)) (fun _ => ?_)
      refine lv_iconst (v := 0) hx hb dX7_copyDrawer_43 (by decide) ?_
      refine W.widen (k := 0) (n := 0) (Nat.le_of_ble_eq_true rfl) (Nat.le_of_ble_eq_true rfl) ?_
      exact W.iret (v := 0) hx hb hr (fun t ht hW => ⟨⟨0, (fun _ => 0), rfl, rfl, by rw [ht]; exact hP, hD⟩, hS.F ht⟩) hS.2.2 dX7_copyDrawer_44
    · skip
      refine pxCi (va_runS (As := [.int i0]) (rest := [.ref a0]) ⟨hx, hb, hml, hown, hts⟩ (k295_X7_isDrawer l G s.heap.size i0 ⟨by omega, by omega⟩) (va_cwS 1 hts (pxGS pm643 pm644 pm71 pm645) rfl rfl rfl (by decide +kernel) ⟨(Nat.le_of_ble_eq_true rfl), (Nat.le_of_ble_eq_true rfl)⟩) (pxS hG hZ hP hD hS hA [] rfl (by decide)) rfl rfl hl.1 rfl (lv_room (Nat.le_of_ble_eq_true rfl)) dX7_copyDrawer_2 ⟨(Nat.le_of_ble_eq_true rfl), (Nat.le_of_ble_eq_true rfl)⟩) hP hD hS hA [] [0] rfl rfl (by decide) (by decide) (fun r2 q1 H locs hw hP hD hS => ?_)
      have hw : r2 = 0 := hw
      subst hw
      have hP : va_P G.1 pxCl [(a0, .inr (6, [.ref a1, .ref a2, .ref a3, .int 0, .ref a4, .int 0, .int 0, .int 0, .int 0, .ref a5, .int 0, .ref a6, .int 0, .int 0, .int 0, .int (-1), .ref a7, .ref a8, .int 0, .ref a9, .ref a10, .ref a11]))] H := hP
      have hD : va_D A [(a0, .inr (6, [.ref a1, .ref a2, .ref a3, .int 0, .ref a4, .int 0, .int 0, .int 0, .int 0, .ref a5, .int 0, .ref a6, .int 0, .int 0, .int 0, .int (-1), .ref a7, .ref a8, .int 0, .ref a9, .ref a10, .ref a11]))] := hD
      refine lv_if_eq (tgt := 15) hx hb dX7_copyDrawer_5 (by decide) (fun _ => ?_) (fun h9 => absurd (by decide) h9)
      refine lv_iconst (v := 1) hx hb dX7_copyDrawer_15 (by decide) ?_
      refine lv_goto (tgt := 33) hx hb dX7_copyDrawer_16 (by decide) ?_
      refine va_put (D := G.1) (ci := 6) (v := .int 1) (ty := .int) (C := RX7) (T := TX7) (N := 22) hx hb hts piX7 tyX7 tyX7_ok nmX7 hown hK hP hD hS 0 rfl rfl 7 (by decide) (hts _ pm150) (fun _ h9 => h9) rfl (by decide +kernel) rfl rfl (Nat.le_of_ble_eq_true rfl) dX7_copyDrawer_33 (fun H locs hP hD hS => ?_)
      have hP : va_P G.1 pxCl [(a0, .inr (6, [.ref a1, .ref a2, .ref a3, .int 0, .ref a4, .int 0, .int 0, .int 1, .int 0, .ref a5, .int 0, .ref a6, .int 0, .int 0, .int 0, .int (-1), .ref a7, .ref a8, .int 0, .ref a9, .ref a10, .ref a11]))] H := hP
      have hD : va_D A [(a0, .inr (6, [.ref a1, .ref a2, .ref a3, .int 0, .ref a4, .int 0, .int 0, .int 1, .int 0, .ref a5, .int 0, .ref a6, .int 0, .int 0, .int 0, .int (-1), .ref a7, .ref a8, .int 0, .ref a9, .ref a10, .ref a11]))] := hD
      refine lv_aload_n hx hb dX7_copyDrawer_36 rfl (lv_at hl 0 rfl) ?_
      refine va_get (D := G.1) (ci := 6) (v := .int 1) (C := RX7) (T := TX7) (N := 22) hx hb hts piX7 hown hK hP 0 rfl rfl 7 (by decide) (hts _ pm150) (fun _ h9 => h9) rfl dX7_copyDrawer_37 ?_
      refine lv_if_le (tgt := 45) hx hb dX7_copyDrawer_40 (by decide) (fun h9 => absurd h9 (by decide)) (fun _ => ?_)
      refine lv_iconst (v := 0) hx hb dX7_copyDrawer_43 (by decide) ?_
      refine W.widen (k := 0) (n := 0) (Nat.le_of_ble_eq_true rfl) (Nat.le_of_ble_eq_true rfl) ?_
      exact W.iret (v := 0) hx hb hr (fun t ht hW => ⟨⟨0, (fun _ => 0), rfl, rfl, by rw [ht]; exact hP, hD⟩, hS.F ht⟩) hS.2.2 dX7_copyDrawer_44
set_option maxHeartbeats 4000000 in
set_option maxRecDepth 100000 in
theorem k316_X6_copyDrawer (l : Launch) (hl9 : l.stackTraces = false) (G : pxG) (sz : Nat) (a0 a1 a2 a3 a4 a5 a6 a7 a8 a9 a10 a11 a12 a13 a14 : Nat) (i0 i1 : Int32) (h0 : 0 ≤ i0.toInt ∧ i0.toInt ≤ 2) (h1 : 0 ≤ i1.toInt ∧ i1.toInt ≤ 2) : vx_Met l yX6_copyDrawer (Cond.code yX6_copyDrawer cX6_copyDrawer 3 (some .int) :: pxAll) ({ frames := 6, cells := 1, slots := 6, locals := 90 } : Room) (va_Pc [.ref a0, .int i0, .int i1] (pxPre G [(a0, .inr (5, [.ref a5, .ref a6, .ref a7, .ref a8, .ref a1, .int 0, .int 0, .int (-1)])), (a1, .inl (G.2.1 6, 3, .inr (.inr (.inr (.inr (va_up (va_up (va_up (fun _ => none) 0 (some a2)) 1 (some a3)) 2 (some a4))))))), (a2, .inr (0, [.ref a9, .ref a10, .int 0, .int 0])), (a3, .inr (0, [.ref a11, .ref a12, .int 0, .int 0])), (a4, .inr (0, [.ref a13, .ref a14, .int 0, .int 0]))] sz)) pxF (pxXC "java/lang/IllegalStateException" (va_A [(a0, .inr (5, [.ref a5, .ref a6, .ref a7, .ref a8, .ref a1, .int 0, .int 0, .int (-1)])), (a1, .inl (G.2.1 6, 3, .inr (.inr (.inr (.inr (va_up (va_up (va_up (fun _ => none) 0 (some a2)) 1 (some a3)) 2 (some a4))))))), (a2, .inr (0, [.ref a9, .ref a10, .int 0, .int 0])), (a3, .inr (0, [.ref a11, .ref a12, .int 0, .int 0])), (a4, .inr (0, [.ref a13, .ref a14, .int 0, .int 0]))] sz)) 1 6 (va_A [(a0, .inr (5, [.ref a5, .ref a6, .ref a7, .ref a8, .ref a1, .int 0, .int 0, .int (-1)])), (a1, .inl (G.2.1 6, 3, .inr (.inr (.inr (.inr (va_up (va_up (va_up (fun _ => none) 0 (some a2)) 1 (some a3)) 2 (some a4))))))), (a2, .inr (0, [.ref a9, .ref a10, .int 0, .int 0])), (a3, .inr (0, [.ref a11, .ref a12, .int 0, .int 0])), (a4, .inr (0, [.ref a13, .ref a14, .int 0, .int 0]))] sz) := by
  refine vx_ofW (cc := cX6_copyDrawer) (maxL := 3) (ret := (some .int)) (by decide) rfl ?_
  intro p e s m args below meth c s₁ B hml hEx hv
  obtain ⟨rfl, hsz, hG, hZ, hP, hD0⟩ := hv
  have hx := B.exec
  have hb := B.bytes
  have hr := B.returns
  have hts0 := atoms_spec (ws := Cond.code yX6_copyDrawer cX6_copyDrawer 3 (some .int) :: pxAll) B.pre
  have hts : ∀ w ∈ pxAll, w.before _ s = true := fun w h => hts0 w (List.mem_cons_of_mem _ h)
  have hown : s.vm.findClass RX6 = some m.cls := findClass_of_methodNamed B.named
  have hlocks := B.notSynchronized
  subst hsz
  have hK := hG.1
  have hD := hD0.self (sz := s.heap.size)
  generalize hAe : va_A [(a0, .inr (5, [.ref a5, .ref a6, .ref a7, .ref a8, .ref a1, .int 0, .int 0, .int (-1)])), (a1, .inl (G.2.1 6, 3, .inr (.inr (.inr (.inr (va_up (va_up (va_up (fun _ => none) 0 (some a2)) 1 (some a3)) 2 (some a4))))))), (a2, .inr (0, [.ref a9, .ref a10, .int 0, .int 0])), (a3, .inr (0, [.ref a11, .ref a12, .int 0, .int 0])), (a4, .inr (0, [.ref a13, .ref a14, .int 0, .int 0]))] s.heap.size = A at hD hZ ⊢
  have hA : ∀ q : Nat, s.heap.size ≤ q → A q := fun q h => by rw [← hAe]; exact Or.inr h
  have hS : va_S A s.heap s.heap [] := va_S.rf
  have hl := lv_entry ([.ref a0, .int i0, .int i1]) (n := 3) (Nat.le_of_ble_eq_true rfl)
  rw [lg_entry_eq]
  generalize (lg_sl ([.ref a0, .int i0, .int i1]) ++ List.replicate (3 - (lg_sl ([.ref a0, .int i0, .int i1])).length) Slot.unset).toArray = ls at hl ⊢
  have hl : lv_has ls 3 [(0, .ref a0), (1, .int i0), (2, .int i1)] := hl
  have r0 := pxRng i0
  have r1 := pxRng i1
  refine lv_aload_n hx hb dX6_copyDrawer_0 rfl (lv_at hl 0 rfl) ?_
  refine lv_iload_n hx hb dX6_copyDrawer_1 rfl (lv_at hl 1 rfl) ?_
  refine pxCv (va_runV (As := [.int i0]) (rest := []) ⟨hx, hb, hml, hown, hts⟩ (k232_X6_requireDrawer l G s.heap.size a0 i0 ⟨by omega, by omega⟩) (cwV 1 hts (pxGV pm632 pm633 pm634 pm2 pm635) rfl rfl rfl (by decide +kernel) ⟨(Nat.le_of_ble_eq_true rfl), (Nat.le_of_ble_eq_true rfl)⟩) (pxV (ci := 5) (q0 := 0) hG hZ hP hD hS hA [] rfl (by decide) rfl rfl) rfl rfl hl.1 rfl (lv_room (Nat.le_of_ble_eq_true rfl)) dX6_copyDrawer_2 ⟨(Nat.le_of_ble_eq_true rfl), (Nat.le_of_ble_eq_true rfl)⟩) hP hD hS hA [] [0, 1, 2, 3, 4] rfl rfl (by decide) (by decide) (fun q1 H locs hP hD hS => ?_)
  have hP : va_P G.1 pxCl [(a0, .inr (5, [.ref a5, .ref a6, .ref a7, .ref a8, .ref a1, .int 0, .int 0, .int (-1)])), (a1, .inl (G.2.1 6, 3, .inr (.inr (.inr (.inr (va_up (va_up (va_up (fun _ => none) 0 (some a2)) 1 (some a3)) 2 (some a4))))))), (a2, .inr (0, [.ref a9, .ref a10, .int 0, .int 0])), (a3, .inr (0, [.ref a11, .ref a12, .int 0, .int 0])), (a4, .inr (0, [.ref a13, .ref a14, .int 0, .int 0]))] H := hP
  have hD : va_D A [(a0, .inr (5, [.ref a5, .ref a6, .ref a7, .ref a8, .ref a1, .int 0, .int 0, .int (-1)])), (a1, .inl (G.2.1 6, 3, .inr (.inr (.inr (.inr (va_up (va_up (va_up (fun _ => none) 0 (some a2)) 1 (some a3)) 2 (some a4))))))), (a2, .inr (0, [.ref a9, .ref a10, .int 0, .int 0])), (a3, .inr (0, [.ref a11, .ref a12, .int 0, .int 0])), (a4, .inr (0, [.ref a13, .ref a14, .int 0, .int 0]))] := hD
  refine lv_aload_n hx hb dX6_copyDrawer_5 rfl (lv_at hl 0 rfl) ?_
  refine lv_iload_n hx hb dX6_copyDrawer_6 rfl (lv_at hl 2 rfl) ?_
  refine pxCv (va_runV (As := [.int i1]) (rest := []) ⟨hx, hb, hml, hown, hts⟩ (k232_X6_requireDrawer l G H.size a0 i1 ⟨by omega, by omega⟩) (cwV 1 hts (pxGV pm632 pm633 pm634 pm2 pm635) rfl rfl rfl (by decide +kernel) ⟨(Nat.le_of_ble_eq_true rfl), (Nat.le_of_ble_eq_true rfl)⟩) (pxV (ci := 5) (q0 := 0) hG hZ hP hD hS hA [] rfl (by decide) rfl rfl) rfl rfl hl.1 rfl (lv_room (Nat.le_of_ble_eq_true rfl)) dX6_copyDrawer_7 ⟨(Nat.le_of_ble_eq_true rfl), (Nat.le_of_ble_eq_true rfl)⟩) hP hD hS hA [] [0, 1, 2, 3, 4] rfl rfl (by decide) (by decide) (fun q3 H locs hP hD hS => ?_)
  have hP : va_P G.1 pxCl [(a0, .inr (5, [.ref a5, .ref a6, .ref a7, .ref a8, .ref a1, .int 0, .int 0, .int (-1)])), (a1, .inl (G.2.1 6, 3, .inr (.inr (.inr (.inr (va_up (va_up (va_up (fun _ => none) 0 (some a2)) 1 (some a3)) 2 (some a4))))))), (a2, .inr (0, [.ref a9, .ref a10, .int 0, .int 0])), (a3, .inr (0, [.ref a11, .ref a12, .int 0, .int 0])), (a4, .inr (0, [.ref a13, .ref a14, .int 0, .int 0]))] H := hP
  have hD : va_D A [(a0, .inr (5, [.ref a5, .ref a6, .ref a7, .ref a8, .ref a1, .int 0, .int 0, .int (-1)])), (a1, .inl (G.2.1 6, 3, .inr (.inr (.inr (.inr (va_up (va_up (va_up (fun _ => none) 0 (some a2)) 1 (some a3)) 2 (some a4))))))), (a2, .inr (0, [.ref a9, .ref a10, .int 0, .int 0])), (a3, .inr (0, [.ref a11, .ref a12, .int 0, .int 0])), (a4, .inr (0, [.ref a13, .ref a14, .int 0, .int 0]))] := hD
  refine lv_aload_n hx hb dX6_copyDrawer_10 rfl (lv_at hl 0 rfl) ?_
  refine va_get (D := G.1) (ci := 5) (v := .ref a1) (C := RX6) (T := TX6) (N := 8) hx hb hts piX6 hown hK hP 0 rfl rfl 4 (by decide) (hts _ pm57) (fun _ h9 => h9) rfl dX6_copyDrawer_11 ?_
  refine lv_iload_n hx hb dX6_copyDrawer_14 rfl (lv_at hl 1 rfl) ?_
  rcases Int.lt_or_le i0.toInt 1 with f1 | f1
  · skip
    obtain rfl : i0 = 0 := pxEq 0 (by have h9 : (0 : Int32).toInt = 0 := (by decide); omega)
    refine va_aldq hx hb hK hP 1 6 rfl rfl (show ¬ ((0 : Int32) < 0 ∨ 3 ≤ (0 : Int32).toNatClampNeg) by decide +kernel) dX6_copyDrawer_15 ?_
    refine pxTop (w := .ref a2) rfl ?_
    refine pxCi (va_runV (As := []) (rest := []) ⟨hx, hb, hml, hown, hts⟩ (k298_X1_places l G H.size a2 a9 a10) (cwV 0 hts (pxGV pm666 pm667 pm668 pm60 pm669) rfl rfl rfl (by decide +kernel) ⟨(Nat.le_of_ble_eq_true rfl), (Nat.le_of_ble_eq_true rfl)⟩) (pxV (ci := 0) (q0 := 2) hG hZ hP hD hS hA [2] rfl (by decide) rfl rfl) rfl rfl hl.1 rfl (lv_room (Nat.le_of_ble_eq_true rfl)) dX6_copyDrawer_16 ⟨(Nat.le_of_ble_eq_true rfl), (Nat.le_of_ble_eq_true rfl)⟩) hP hD hS hA [2] [0, 1, 3, 4] rfl rfl (by decide) (by decide) (fun r6 q5 H locs hw hP hD hS => ?_)
    have hw : r6 = 0 := hw
    subst hw
    have hP : va_P G.1 pxCl [(a0, .inr (5, [.ref a5, .ref a6, .ref a7, .ref a8, .ref a1, .int 0, .int 0, .int (-1)])), (a1, .inl (G.2.1 6, 3, .inr (.inr (.inr (.inr (va_up (va_up (va_up (fun _ => none) 0 (some a2)) 1 (some a3)) 2 (some a4))))))), (a3, .inr (0, [.ref a11, .ref a12, .int 0, .int 0])), (a4, .inr (0, [.ref a13, .ref a14, .int 0, .int 0])), (a2, .inr (0, [.ref a9, .ref a10, .int 0, .int 0]))] H := hP
    have hD : va_D A [(a0, .inr (5, [.ref a5, .ref a6, .ref a7, .ref a8, .ref a1, .int 0, .int 0, .int (-1)])), (a1, .inl (G.2.1 6, 3, .inr (.inr (.inr (.inr (va_up (va_up (va_up (fun _ => none) 0 (some a2)) 1 (some a3)) 2 (some a4))))))), (a3, .inr (0, [.ref a11, .ref a12, .int 0, .int 0])), (a4, .inr (0, [.ref a13, .ref a14, .int 0, .int 0])), (a2, .inr (0, [.ref a9, .ref a10, .int 0, .int 0]))] := hD
    refine lv_if_ne (tgt := 33) hx hb dX6_copyDrawer_19 (by decide) (fun h9 => absurd h9 (by decide)) (fun _ => ?_)
    exact vx_throwSW (own := RX6) (cls := "java/lang/IllegalStateException") (names := ["java/lang/RuntimeException", "java/lang/Exception"]) hx hb hl9 hown (by decide +kernel) (by decide +kernel) (hts _ pm711) (hts _ pm712) (hG.2.2.2.2.1 11 _ rfl) (pxThr (own := RX6) (ic := 117) (by simp [pxBadC]) hts hG wsL_law_x4 pxh_x4) pxg_x4 hZ.1 hZ.2 hS (hl.1.trans hml.symm) dX6_copyDrawer_22 dX6_copyDrawer_25 dX6_copyDrawer_26 dX6_copyDrawer_29 dX6_copyDrawer_32 (fun x hx => (hEx x hx).elim) (Nat.le_of_ble_eq_true rfl) (Nat.le_of_ble_eq_true rfl) (Nat.le_of_ble_eq_true rfl) (Nat.le_of_ble_eq_true rfl) hlocks (pxXe hS) hS.2.2 (Nat.le_of_ble_eq_true rfl) (Nat.le_of_ble_eq_true rfl)
  · skip
    rcases Int.lt_or_le i0.toInt 2 with f2 | f2
    · skip
      obtain rfl : i0 = 1 := pxEq 1 (by have h9 : (1 : Int32).toInt = 1 := (by decide); omega)
      refine va_aldq hx hb hK hP 1 6 rfl rfl (show ¬ ((1 : Int32) < 0 ∨ 3 ≤ (1 : Int32).toNatClampNeg) by decide +kernel) dX6_copyDrawer_15 ?_
      refine pxTop (w := .ref a3) rfl ?_
      refine pxCi (va_runV (As := []) (rest := []) ⟨hx, hb, hml, hown, hts⟩ (k298_X1_places l G H.size a3 a11 a12) (cwV 0 hts (pxGV pm666 pm667 pm668 pm60 pm669) rfl rfl rfl (by decide +kernel) ⟨(Nat.le_of_ble_eq_true rfl), (Nat.le_of_ble_eq_true rfl)⟩) (pxV (ci := 0) (q0 := 3) hG hZ hP hD hS hA [3] rfl (by decide) rfl rfl) rfl rfl hl.1 rfl (lv_room (Nat.le_of_ble_eq_true rfl)) dX6_copyDrawer_16 ⟨(Nat.le_of_ble_eq_true rfl), (Nat.le_of_ble_eq_true rfl)⟩) hP hD hS hA [3] [0, 1, 2, 4] rfl rfl (by decide) (by decide) (fun r6 q5 H locs hw hP hD hS => ?_)
      have hw : r6 = 0 := hw
      subst hw
      have hP : va_P G.1 pxCl [(a0, .inr (5, [.ref a5, .ref a6, .ref a7, .ref a8, .ref a1, .int 0, .int 0, .int (-1)])), (a1, .inl (G.2.1 6, 3, .inr (.inr (.inr (.inr (va_up (va_up (va_up (fun _ => none) 0 (some a2)) 1 (some a3)) 2 (some a4))))))), (a2, .inr (0, [.ref a9, .ref a10, .int 0, .int 0])), (a4, .inr (0, [.ref a13, .ref a14, .int 0, .int 0])), (a3, .inr (0, [.ref a11, .ref a12, .int 0, .int 0]))] H := hP
      have hD : va_D A [(a0, .inr (5, [.ref a5, .ref a6, .ref a7, .ref a8, .ref a1, .int 0, .int 0, .int (-1)])), (a1, .inl (G.2.1 6, 3, .inr (.inr (.inr (.inr (va_up (va_up (va_up (fun _ => none) 0 (some a2)) 1 (some a3)) 2 (some a4))))))), (a2, .inr (0, [.ref a9, .ref a10, .int 0, .int 0])), (a4, .inr (0, [.ref a13, .ref a14, .int 0, .int 0])), (a3, .inr (0, [.ref a11, .ref a12, .int 0, .int 0]))] := hD
      refine lv_if_ne (tgt := 33) hx hb dX6_copyDrawer_19 (by decide) (fun h9 => absurd h9 (by decide)) (fun _ => ?_)
      exact vx_throwSW (own := RX6) (cls := "java/lang/IllegalStateException") (names := ["java/lang/RuntimeException", "java/lang/Exception"]) hx hb hl9 hown (by decide +kernel) (by decide +kernel) (hts _ pm711) (hts _ pm712) (hG.2.2.2.2.1 11 _ rfl) (pxThr (own := RX6) (ic := 117) (by simp [pxBadC]) hts hG wsL_law_x4 pxh_x4) pxg_x4 hZ.1 hZ.2 hS (hl.1.trans hml.symm) dX6_copyDrawer_22 dX6_copyDrawer_25 dX6_copyDrawer_26 dX6_copyDrawer_29 dX6_copyDrawer_32 (fun x hx => (hEx x hx).elim) (Nat.le_of_ble_eq_true rfl) (Nat.le_of_ble_eq_true rfl) (Nat.le_of_ble_eq_true rfl) (Nat.le_of_ble_eq_true rfl) hlocks (pxXe hS) hS.2.2 (Nat.le_of_ble_eq_true rfl) (Nat.le_of_ble_eq_true rfl)
    · skip
      obtain rfl : i0 = 2 := pxEq 2 (by have h9 : (2 : Int32).toInt = 2 := (by decide); omega)
      refine va_aldq hx hb hK hP 1 6 rfl rfl (show ¬ ((2 : Int32) < 0 ∨ 3 ≤ (2 : Int32).toNatClampNeg) by decide +kernel) dX6_copyDrawer_15 ?_
      refine pxTop (w := .ref a4) rfl ?_
      refine pxCi (va_runV (As := []) (rest := []) ⟨hx, hb, hml, hown, hts⟩ (k298_X1_places l G H.size a4 a13 a14) (cwV 0 hts (pxGV pm666 pm667 pm668 pm60 pm669) rfl rfl rfl (by decide +kernel) ⟨(Nat.le_of_ble_eq_true rfl), (Nat.le_of_ble_eq_true rfl)⟩) (pxV (ci := 0) (q0 := 4) hG hZ hP hD hS hA [4] rfl (by decide) rfl rfl) rfl rfl hl.1 rfl (lv_room (Nat.le_of_ble_eq_true rfl)) dX6_copyDrawer_16 ⟨(Nat.le_of_ble_eq_true rfl), (Nat.le_of_ble_eq_true rfl)⟩) hP hD hS hA [4] [0, 1, 2, 3] rfl rfl (by decide) (by decide) (fun r6 q5 H locs hw hP hD hS => ?_)
      have hw : r6 = 0 := hw
      subst hw
      have hP : va_P G.1 pxCl [(a0, .inr (5, [.ref a5, .ref a6, .ref a7, .ref a8, .ref a1, .int 0, .int 0, .int (-1)])), (a1, .inl (G.2.1 6, 3, .inr (.inr (.inr (.inr (va_up (va_up (va_up (fun _ => none) 0 (some a2)) 1 (some a3)) 2 (some a4))))))), (a2, .inr (0, [.ref a9, .ref a10, .int 0, .int 0])), (a3, .inr (0, [.ref a11, .ref a12, .int 0, .int 0])), (a4, .inr (0, [.ref a13, .ref a14, .int 0, .int 0]))] H := hP
      have hD : va_D A [(a0, .inr (5, [.ref a5, .ref a6, .ref a7, .ref a8, .ref a1, .int 0, .int 0, .int (-1)])), (a1, .inl (G.2.1 6, 3, .inr (.inr (.inr (.inr (va_up (va_up (va_up (fun _ => none) 0 (some a2)) 1 (some a3)) 2 (some a4))))))), (a2, .inr (0, [.ref a9, .ref a10, .int 0, .int 0])), (a3, .inr (0, [.ref a11, .ref a12, .int 0, .int 0])), (a4, .inr (0, [.ref a13, .ref a14, .int 0, .int 0]))] := hD
      refine lv_if_ne (tgt := 33) hx hb dX6_copyDrawer_19 (by decide) (fun h9 => absurd h9 (by decide)) (fun _ => ?_)
      exact vx_throwSW (own := RX6) (cls := "java/lang/IllegalStateException") (names := ["java/lang/RuntimeException", "java/lang/Exception"]) hx hb hl9 hown (by decide +kernel) (by decide +kernel) (hts _ pm711) (hts _ pm712) (hG.2.2.2.2.1 11 _ rfl) (pxThr (own := RX6) (ic := 117) (by simp [pxBadC]) hts hG wsL_law_x4 pxh_x4) pxg_x4 hZ.1 hZ.2 hS (hl.1.trans hml.symm) dX6_copyDrawer_22 dX6_copyDrawer_25 dX6_copyDrawer_26 dX6_copyDrawer_29 dX6_copyDrawer_32 (fun x hx => (hEx x hx).elim) (Nat.le_of_ble_eq_true rfl) (Nat.le_of_ble_eq_true rfl) (Nat.le_of_ble_eq_true rfl) (Nat.le_of_ble_eq_true rfl) hlocks (pxXe hS) hS.2.2 (Nat.le_of_ble_eq_true rfl) (Nat.le_of_ble_eq_true rfl)
set_option maxHeartbeats 4000000 in
set_option maxRecDepth 100000 in
theorem k316_L_copyDrawer (l : Launch) (hl9 : l.stackTraces = false) (G : pxG) (sz : Nat) (a0 a1 a2 a3 a4 a5 a6 a7 a8 a9 a10 a11 a12 a13 a14 a15 : Nat) (i0 i1 : Int32) (h0 : 0 ≤ i0.toInt ∧ i0.toInt ≤ 2) (h1 : 0 ≤ i1.toInt ∧ i1.toInt ≤ 2) : Met l yL_copyDrawer (Cond.codeWith yL_copyDrawer cL_copyDrawer 5 (some .int) [(0, 10, 13, 67), (0, 10, 17, 53)] :: pxAll) ({ frames := 7, cells := 1, slots := 6, locals := 112 } : Room) (va_Pc [.ref a0, .int i0, .int i1, .ref a5] (pxPre G [(a0, .inr (5, [.ref a6, .ref a7, .ref a8, .ref a9, .ref a1, .int 0, .int 0, .int (-1)])), (a1, .inl (G.2.1 6, 3, .inr (.inr (.inr (.inr (va_up (va_up (va_up (fun _ => none) 0 (some a2)) 1 (some a3)) 2 (some a4))))))), (a2, .inr (0, [.ref a10, .ref a11, .int 0, .int 0])), (a3, .inr (0, [.ref a12, .ref a13, .int 0, .int 0])), (a4, .inr (0, [.ref a14, .ref a15, .int 0, .int 0]))] sz)) (pxQi G (fun r => r = 2) (fun q => []) (va_A [(a0, .inr (5, [.ref a6, .ref a7, .ref a8, .ref a9, .ref a1, .int 0, .int 0, .int (-1)])), (a1, .inl (G.2.1 6, 3, .inr (.inr (.inr (.inr (va_up (va_up (va_up (fun _ => none) 0 (some a2)) 1 (some a3)) 2 (some a4))))))), (a2, .inr (0, [.ref a10, .ref a11, .int 0, .int 0])), (a3, .inr (0, [.ref a12, .ref a13, .int 0, .int 0])), (a4, .inr (0, [.ref a14, .ref a15, .int 0, .int 0]))] sz)) 1 6 (va_A [(a0, .inr (5, [.ref a6, .ref a7, .ref a8, .ref a9, .ref a1, .int 0, .int 0, .int (-1)])), (a1, .inl (G.2.1 6, 3, .inr (.inr (.inr (.inr (va_up (va_up (va_up (fun _ => none) 0 (some a2)) 1 (some a3)) 2 (some a4))))))), (a2, .inr (0, [.ref a10, .ref a11, .int 0, .int 0])), (a3, .inr (0, [.ref a12, .ref a13, .int 0, .int 0])), (a4, .inr (0, [.ref a14, .ref a15, .int 0, .int 0]))] sz) := by
  refine va_MetW (cc := cL_copyDrawer) (maxL := 5) (ret := (some .int)) (hh := [(0, 10, 13, 67), (0, 10, 17, 53)]) (by decide) rfl ?_
  intro p e s m args below meth c s₁ B hml hv
  obtain ⟨rfl, hsz, hG, hZ, hP, hD0⟩ := hv
  have hx := B.exec
  have hb := B.bytes
  have hr := B.returns
  have hts0 := atoms_spec (ws := Cond.codeWith yL_copyDrawer cL_copyDrawer 5 (some .int) [(0, 10, 13, 67), (0, 10, 17, 53)] :: pxAll) B.pre
  have hts : ∀ w ∈ pxAll, w.before _ s = true := fun w h => hts0 w (List.mem_cons_of_mem _ h)
  have hown : s.vm.findClass RL = some m.cls := findClass_of_methodNamed B.named
  have hlocks := B.notSynchronized
  have hTab := vx_table (x := yL_copyDrawer) B (hts0 _ List.mem_cons_self)
  subst hsz
  have hK := hG.1
  have hD := hD0.self (sz := s.heap.size)
  generalize hAe : va_A [(a0, .inr (5, [.ref a6, .ref a7, .ref a8, .ref a9, .ref a1, .int 0, .int 0, .int (-1)])), (a1, .inl (G.2.1 6, 3, .inr (.inr (.inr (.inr (va_up (va_up (va_up (fun _ => none) 0 (some a2)) 1 (some a3)) 2 (some a4))))))), (a2, .inr (0, [.ref a10, .ref a11, .int 0, .int 0])), (a3, .inr (0, [.ref a12, .ref a13, .int 0, .int 0])), (a4, .inr (0, [.ref a14, .ref a15, .int 0, .int 0]))] s.heap.size = A at hD hZ ⊢
  have hA : ∀ q : Nat, s.heap.size ≤ q → A q := fun q h => by rw [← hAe]; exact Or.inr h
  have hS : va_S A s.heap s.heap [] := va_S.rf
  have hl := lv_entry ([.ref a0, .int i0, .int i1, .ref a5]) (n := 5) (Nat.le_of_ble_eq_true rfl)
  rw [lg_entry_eq]
  generalize (lg_sl ([.ref a0, .int i0, .int i1, .ref a5]) ++ List.replicate (5 - (lg_sl ([.ref a0, .int i0, .int i1, .ref a5])).length) Slot.unset).toArray = ls at hl ⊢
  have hl : lv_has ls 5 [(0, .ref a0), (1, .int i0), (2, .int i1), (3, .ref a5)] := hl
  refine lv_aload_n hx hb dL_copyDrawer_0 rfl (lv_at hl 3 rfl) ?_
  refine lv_iconst (v := 0) hx hb dL_copyDrawer_1 (by decide) ?_
  refine lv_aload_n hx hb dL_copyDrawer_2 rfl (lv_at hl 0 rfl) ?_
  refine lv_iload_n hx hb dL_copyDrawer_3 rfl (lv_at hl 1 rfl) ?_
  refine lv_iload_n hx hb dL_copyDrawer_4 rfl (lv_at hl 2 rfl) ?_
  refine pxCx (vx_runV (As := [.int i0, .int i1]) (rest := [.int 0, .ref a5]) ⟨hx, hb, hml, hown, hts⟩ (k316_X6_copyDrawer l hl9 G s.heap.size a0 a1 a2 a3 a4 a6 a7 a8 a9 a10 a11 a12 a13 a14 a15 i0 i1 ⟨by omega, by omega⟩ ⟨by omega, by omega⟩) (cwV 2 hts (pxGV pm700 pm701 pm702 pm2 pm703) rfl rfl rfl (by decide +kernel) ⟨(Nat.le_of_ble_eq_true rfl), (Nat.le_of_ble_eq_true rfl)⟩) (pxV (ci := 5) (q0 := 0) hG hZ hP hD hS hA [0, 1, 2, 3, 4] rfl (by decide) rfl rfl) rfl rfl hl.1 rfl (lv_room (Nat.le_of_ble_eq_true rfl)) dL_copyDrawer_5 ⟨(Nat.le_of_ble_eq_true rfl), (Nat.le_of_ble_eq_true rfl)⟩) hD hS hA [0, 1, 2, 3, 4] rfl (fun ce q9 H locs hS hce hcv hcl => ?_)
  refine vx_catch (own := RL) (name := "java/lang/IllegalStateException") (E := "java/lang/IllegalStateException") hown [⟨0, 10, 13, 67⟩] ⟨0, 10, 17, 53⟩ [] (by rw [hTab]; rfl) (by intro z hz; rcases List.mem_cons.mp hz with rfl | hz; exact Or.inr ⟨by decide, "java/lang/IndexOutOfBoundsException", hts _ pm437, hG.2.2.2.2.2.1 ("java/lang/IllegalStateException", "java/lang/IndexOutOfBoundsException") (by simp [pxNc])⟩; cases hz) (by decide) (by decide) (hts _ pm713) (va_Nw.use rfl (hG.2.2.1 "java/lang/IllegalStateException" (by simp [pxBadC]))) hce hcv hcl ?_
  have hP : va_P G.1 pxCl [] H := fun k q h => by simp at h
  have hD : va_D A [] := ⟨fun i j p q h => by simp at h, fun k q h => by simp at h⟩
  refine lv_astore (lv' := [(4, .ref q9), (0, .ref a0), (1, .int i0), (2, .int i1), (3, .ref a5)]) hx hb dL_copyDrawer_17 hl (by decide) rfl (fun ls hl => ?_)
  refine lv_iconst (v := 2) hx hb dL_copyDrawer_19 (by decide) ?_
  refine W.widen (k := 1) (n := 6) (Nat.le_of_ble_eq_true rfl) (Nat.le_of_ble_eq_true rfl) ?_
  exact W.iret (v := 2) hx hb hr (fun t ht hW => ⟨⟨2, (fun _ => 0), rfl, rfl, by rw [ht]; exact hP, hD⟩, hS.F ht⟩) hS.2.2 dL_copyDrawer_20
set_option maxHeartbeats 4000000 in
set_option maxRecDepth 100000 in
theorem k318_X7_copyDrawer (l : Launch) (G : pxG) (sz : Nat) (a0 a1 a2 a3 a4 a5 a6 a7 a8 a9 a10 a11 : Nat) (i0 i1 : Int32) (h0 : 0 ≤ i0.toInt ∧ i0.toInt ≤ 2) (h1 : 0 ≤ i1.toInt ∧ i1.toInt ≤ 2) : Met l yX7_copyDrawer (Cond.code yX7_copyDrawer cX7_copyDrawer 3 (some .int) :: pxAll) ({ frames := 2, cells := 0, slots := 0, locals := 42 } : Room) (va_Pc [.ref a0, .int i0, .int i1] (pxPre G [(a0, .inr (6, [.ref a2, .ref a3, .ref a4, .int 0, .ref a5, .int 0, .int 0, .int 0, .int 0, .ref a6, .int 0, .ref a7, .int 0, .int 0, .int 0, .int (-1), .ref a8, .ref a9, .int 0, .ref a1, .ref a10, .ref a11])), (a1, .inl (G.2.1 0, 3, .inl (fun _ => 0)))] sz)) (pxQi G (fun r => r = 0) (fun q => [(a0, .inr (6, [.ref a2, .ref a3, .ref a4, .int 0, .ref a5, .int 0, .int 0, .int 2, .int 0, .ref a6, .int 0, .ref a7, .int 0, .int 0, .int 0, .int (-1), .ref a8, .ref a9, .int 0, .ref a1, .ref a10, .ref a11]))]) (va_A [(a0, .inr (6, [.ref a2, .ref a3, .ref a4, .int 0, .ref a5, .int 0, .int 0, .int 0, .int 0, .ref a6, .int 0, .ref a7, .int 0, .int 0, .int 0, .int (-1), .ref a8, .ref a9, .int 0, .ref a1, .ref a10, .ref a11])), (a1, .inl (G.2.1 0, 3, .inl (fun _ => 0)))] sz)) 0 0 (va_A [(a0, .inr (6, [.ref a2, .ref a3, .ref a4, .int 0, .ref a5, .int 0, .int 0, .int 0, .int 0, .ref a6, .int 0, .ref a7, .int 0, .int 0, .int 0, .int (-1), .ref a8, .ref a9, .int 0, .ref a1, .ref a10, .ref a11])), (a1, .inl (G.2.1 0, 3, .inl (fun _ => 0)))] sz) := by
  refine Met.ofW (cc := cX7_copyDrawer) (maxL := 3) (ret := (some .int)) (by decide) rfl ?_
  intro p e s m args below meth c s₁ B hml hv
  obtain ⟨rfl, hsz, hG, hZ, hP, hD0⟩ := hv
  have hx := B.exec
  have hb := B.bytes
  have hr := B.returns
  have hts0 := atoms_spec (ws := Cond.code yX7_copyDrawer cX7_copyDrawer 3 (some .int) :: pxAll) B.pre
  have hts : ∀ w ∈ pxAll, w.before _ s = true := fun w h => hts0 w (List.mem_cons_of_mem _ h)
  have hown : s.vm.findClass RX7 = some m.cls := findClass_of_methodNamed B.named
  have hlocks := B.notSynchronized
  subst hsz
  have hK := hG.1
  have hD := hD0.self (sz := s.heap.size)
  generalize hAe : va_A [(a0, .inr (6, [.ref a2, .ref a3, .ref a4, .int 0, .ref a5, .int 0, .int 0, .int 0, .int 0, .ref a6, .int 0, .ref a7, .int 0, .int 0, .int 0, .int (-1), .ref a8, .ref a9, .int 0, .ref a1, .ref a10, .ref a11])), (a1, .inl (G.2.1 0, 3, .inl (fun _ => 0)))] s.heap.size = A at hD hZ ⊢
  have hA : ∀ q : Nat, s.heap.size ≤ q → A q := fun q h => by rw [← hAe]; exact Or.inr h
  have hS : va_S A s.heap s.heap [] := va_S.rf
  have hl := lv_entry ([.ref a0, .int i0, .int i1]) (n := 3) (Nat.le_of_ble_eq_true rfl)
  rw [lg_entry_eq]
  generalize (lg_sl ([.ref a0, .int i0, .int i1]) ++ List.replicate (3 - (lg_sl ([.ref a0, .int i0, .int i1])).length) Slot.unset).toArray = ls at hl ⊢
  have hl : lv_has ls 3 [(0, .ref a0), (1, .int i0), (2, .int i1)] := hl
  refine lv_aload_n hx hb dX7_copyDrawer_0 rfl (lv_at hl 0 rfl) ?_
  refine lv_iload_n hx hb dX7_copyDrawer_1 rfl (lv_at hl 1 rfl) ?_
  refine pxCi (va_runS (As := [.int i0]) (rest := [.ref a0]) ⟨hx, hb, hml, hown, hts⟩ (k236_X7_isDrawer l G s.heap.size i0 ⟨by omega, by omega⟩) (va_cwS 1 hts (pxGS pm643 pm644 pm71 pm645) rfl rfl rfl (by decide +kernel) ⟨(Nat.le_of_ble_eq_true rfl), (Nat.le_of_ble_eq_true rfl)⟩) (pxS hG hZ hP hD hS hA [] rfl (by decide)) rfl rfl hl.1 rfl (lv_room (Nat.le_of_ble_eq_true rfl)) dX7_copyDrawer_2 ⟨(Nat.le_of_ble_eq_true rfl), (Nat.le_of_ble_eq_true rfl)⟩) hP hD hS hA [] [0, 1] rfl rfl (by decide) (by decide) (fun r2 q1 H locs hw hP hD hS => ?_)
  have hw : r2 = 1 := hw
  subst hw
  have hP : va_P G.1 pxCl [(a0, .inr (6, [.ref a2, .ref a3, .ref a4, .int 0, .ref a5, .int 0, .int 0, .int 0, .int 0, .ref a6, .int 0, .ref a7, .int 0, .int 0, .int 0, .int (-1), .ref a8, .ref a9, .int 0, .ref a1, .ref a10, .ref a11])), (a1, .inl (G.2.1 0, 3, .inl (fun _ => 0)))] H := hP
  have hD : va_D A [(a0, .inr (6, [.ref a2, .ref a3, .ref a4, .int 0, .ref a5, .int 0, .int 0, .int 0, .int 0, .ref a6, .int 0, .ref a7, .int 0, .int 0, .int 0, .int (-1), .ref a8, .ref a9, .int 0, .ref a1, .ref a10, .ref a11])), (a1, .inl (G.2.1 0, 3, .inl (fun _ => 0)))] := hD
  refine lv_if_eq (tgt := 15) hx hb dX7_copyDrawer_5 (by decide) (fun h9 => absurd h9 (by decide)) (fun _ => ?_)
  refine lv_iload_n hx hb dX7_copyDrawer_8 rfl (lv_at hl 2 rfl) ?_
  refine pxCi (va_runS (As := [.int i1]) (rest := [.ref a0]) ⟨hx, hb, hml, hown, hts⟩ (k236_X7_isDrawer l G H.size i1 ⟨by omega, by omega⟩) (va_cwS 1 hts (pxGS pm643 pm644 pm71 pm645) rfl rfl rfl (by decide +kernel) ⟨(Nat.le_of_ble_eq_true rfl), (Nat.le_of_ble_eq_true rfl)⟩) (pxS hG hZ hP hD hS hA [] rfl (by decide)) rfl rfl hl.1 rfl (lv_room (Nat.le_of_ble_eq_true rfl)) dX7_copyDrawer_9 ⟨(Nat.le_of_ble_eq_true rfl), (Nat.le_of_ble_eq_true rfl)⟩) hP hD hS hA [] [0, 1] rfl rfl (by decide) (by decide) (fun r4 q3 H locs hw hP hD hS => ?_)
  have hw : r4 = 1 := hw
  subst hw
  have hP : va_P G.1 pxCl [(a0, .inr (6, [.ref a2, .ref a3, .ref a4, .int 0, .ref a5, .int 0, .int 0, .int 0, .int 0, .ref a6, .int 0, .ref a7, .int 0, .int 0, .int 0, .int (-1), .ref a8, .ref a9, .int 0, .ref a1, .ref a10, .ref a11])), (a1, .inl (G.2.1 0, 3, .inl (fun _ => 0)))] H := hP
  have hD : va_D A [(a0, .inr (6, [.ref a2, .ref a3, .ref a4, .int 0, .ref a5, .int 0, .int 0, .int 0, .int 0, .ref a6, .int 0, .ref a7, .int 0, .int 0, .int 0, .int (-1), .ref a8, .ref a9, .int 0, .ref a1, .ref a10, .ref a11])), (a1, .inl (G.2.1 0, 3, .inl (fun _ => 0)))] := hD
  refine lv_if_ne (tgt := 19) hx hb dX7_copyDrawer_12 (by decide) (fun _ => ?_) (fun h9 => absurd h9 (by decide))
  refine lv_aload_n hx hb dX7_copyDrawer_19 rfl (lv_at hl 0 rfl) ?_
  refine va_get (D := G.1) (ci := 6) (v := .ref a1) (C := RX7) (T := TX7) (N := 22) hx hb hts piX7 hown hK hP 0 rfl rfl 19 (by decide) (hts _ pm83) (fun _ h9 => h9) rfl dX7_copyDrawer_20 ?_
  refine lv_iload_n hx hb dX7_copyDrawer_23 rfl (lv_at hl 1 rfl) ?_
  refine va_iald hx hb hK hP 1 0 rfl rfl (vp_in_iff.mpr ⟨by omega, by omega⟩) dX7_copyDrawer_24 ?_
  refine pxTop (w := .int 0) rfl ?_
  refine lv_if_ne (tgt := 32) hx hb dX7_copyDrawer_25 (by decide) (fun h9 => absurd h9 (by decide)) (fun _ => ?_)
  refine lv_iconst (v := 2) hx hb dX7_copyDrawer_28 (by decide) ?_
  refine lv_goto (tgt := 33) hx hb dX7_copyDrawer_29 (by decide) ?_
  refine va_put (D := G.1) (ci := 6) (v := .int 2) (ty := .int) (C := RX7) (T := TX7) (N := 22) hx hb hts piX7 tyX7 tyX7_ok nmX7 hown hK hP hD hS 0 rfl rfl 7 (by decide) (hts _ pm150) (fun _ h9 => h9) rfl (by decide +kernel) rfl rfl (Nat.le_of_ble_eq_true rfl) dX7_copyDrawer_33 (fun H locs hP hD hS => ?_)
  have hP : va_P G.1 pxCl [(a0, .inr (6, [.ref a2, .ref a3, .ref a4, .int 0, .ref a5, .int 0, .int 0, .int 2, .int 0, .ref a6, .int 0, .ref a7, .int 0, .int 0, .int 0, .int (-1), .ref a8, .ref a9, .int 0, .ref a1, .ref a10, .ref a11])), (a1, .inl (G.2.1 0, 3, .inl (fun _ => 0)))] H := hP
  have hD : va_D A [(a0, .inr (6, [.ref a2, .ref a3, .ref a4, .int 0, .ref a5, .int 0, .int 0, .int 2, .int 0, .ref a6, .int 0, .ref a7, .int 0, .int 0, .int 0, .int (-1), .ref a8, .ref a9, .int 0, .ref a1, .ref a10, .ref a11])), (a1, .inl (G.2.1 0, 3, .inl (fun _ => 0)))] := hD
  refine lv_aload_n hx hb dX7_copyDrawer_36 rfl (lv_at hl 0 rfl) ?_
  refine va_get (D := G.1) (ci := 6) (v := .int 2) (C := RX7) (T := TX7) (N := 22) hx hb hts piX7 hown hK hP 0 rfl rfl 7 (by decide) (hts _ pm150) (fun _ h9 => h9) rfl dX7_copyDrawer_37 ?_
  refine lv_if_le (tgt := 45) hx hb dX7_copyDrawer_40 (by decide) (fun h9 => absurd h9 (by decide)) (fun _ => ?_)
  refine lv_iconst (v := 0) hx hb dX7_copyDrawer_43 (by decide) ?_
  have hD : va_D A [(a0, .inr (6, [.ref a2, .ref a3, .ref a4, .int 0, .ref a5, .int 0, .int 0, .int 2, .int 0, .ref a6, .int 0, .ref a7, .int 0, .int 0, .int 0, .int (-1), .ref a8, .ref a9, .int 0, .ref a1, .ref a10, .ref a11]))] := hD.sub [0] (by decide) rfl
  have hP : va_P G.1 pxCl [(a0, .inr (6, [.ref a2, .ref a3, .ref a4, .int 0, .ref a5, .int 0, .int 0, .int 2, .int 0, .ref a6, .int 0, .ref a7, .int 0, .int 0, .int 0, .int (-1), .ref a8, .ref a9, .int 0, .ref a1, .ref a10, .ref a11]))] H := hP.sub [0] rfl
  refine W.widen (k := 0) (n := 0) (Nat.le_of_ble_eq_true rfl) (Nat.le_of_ble_eq_true rfl) ?_
  exact W.iret (v := 0) hx hb hr (fun t ht hW => ⟨⟨0, (fun _ => 0), rfl, rfl, by rw [ht]; exact hP, hD⟩, hS.F ht⟩) hS.2.2 dX7_copyDrawer_44
set_option maxHeartbeats 4000000 in
set_option maxRecDepth 100000 in
theorem k319_X6_copyDrawer (l : Launch) (hl9 : l.stackTraces = false) (G : pxG) (sz : Nat) (a0 a1 a2 a3 a4 a5 : Nat) (i0 i1 : Int32) (h1 : 3 ≤ i1.toInt ∧ i1.toInt ≤ 2147483647) : vx_Met l yX6_copyDrawer (Cond.code yX6_copyDrawer cX6_copyDrawer 3 (some .int) :: pxAll) ({ frames := 7, cells := 1, slots := 6, locals := 111 } : Room) (va_Pc [.ref a0, .int i0, .int i1] (pxPre G [(a0, .inr (5, [.ref a1, .ref a2, .ref a3, .ref a4, .ref a5, .int 0, .int 0, .int (-1)]))] sz)) pxF (pxXC "java/lang/IndexOutOfBoundsException" (va_A [(a0, .inr (5, [.ref a1, .ref a2, .ref a3, .ref a4, .ref a5, .int 0, .int 0, .int (-1)]))] sz)) 1 6 (va_A [(a0, .inr (5, [.ref a1, .ref a2, .ref a3, .ref a4, .ref a5, .int 0, .int 0, .int (-1)]))] sz) := by
  refine vx_ofW (cc := cX6_copyDrawer) (maxL := 3) (ret := (some .int)) (by decide) rfl ?_
  intro p e s m args below meth c s₁ B hml hEx hv
  obtain ⟨rfl, hsz, hG, hZ, hP, hD0⟩ := hv
  have hx := B.exec
  have hb := B.bytes
  have hr := B.returns
  have hts0 := atoms_spec (ws := Cond.code yX6_copyDrawer cX6_copyDrawer 3 (some .int) :: pxAll) B.pre
  have hts : ∀ w ∈ pxAll, w.before _ s = true := fun w h => hts0 w (List.mem_cons_of_mem _ h)
  have hown : s.vm.findClass RX6 = some m.cls := findClass_of_methodNamed B.named
  have hlocks := B.notSynchronized
  subst hsz
  have hK := hG.1
  have hD := hD0.self (sz := s.heap.size)
  generalize hAe : va_A [(a0, .inr (5, [.ref a1, .ref a2, .ref a3, .ref a4, .ref a5, .int 0, .int 0, .int (-1)]))] s.heap.size = A at hD hZ ⊢
  have hA : ∀ q : Nat, s.heap.size ≤ q → A q := fun q h => by rw [← hAe]; exact Or.inr h
  have hS : va_S A s.heap s.heap [] := va_S.rf
  have hl := lv_entry ([.ref a0, .int i0, .int i1]) (n := 3) (Nat.le_of_ble_eq_true rfl)
  rw [lg_entry_eq]
  generalize (lg_sl ([.ref a0, .int i0, .int i1]) ++ List.replicate (3 - (lg_sl ([.ref a0, .int i0, .int i1])).length) Slot.unset).toArray = ls at hl ⊢
  have hl : lv_has ls 3 [(0, .ref a0), (1, .int i0), (2, .int i1)] := hl
  have r0 := pxRng i0
  have r1 := pxRng i1
  refine lv_aload_n hx hb dX6_copyDrawer_0 rfl (lv_at hl 0 rfl) ?_
  refine lv_iload_n hx hb dX6_copyDrawer_1 rfl (lv_at hl 1 rfl) ?_
  rcases Int.lt_or_le i0.toInt 0 with f1 | f1
  · skip
    refine pxCx (vx_runV (As := [.int i0]) (rest := []) ⟨hx, hb, hml, hown, hts⟩ (k226_X6_requireDrawer l hl9 G s.heap.size a0 i0 ⟨by omega, by omega⟩) (cwV 1 hts (pxGV pm632 pm633 pm634 pm2 pm635) rfl rfl rfl (by decide +kernel) ⟨(Nat.le_of_ble_eq_true rfl), (Nat.le_of_ble_eq_true rfl)⟩) (pxV (ci := 5) (q0 := 0) hG hZ hP hD hS hA [] rfl (by decide) rfl rfl) rfl rfl hl.1 rfl (lv_room (Nat.le_of_ble_eq_true rfl)) dX6_copyDrawer_2 ⟨(Nat.le_of_ble_eq_true rfl), (Nat.le_of_ble_eq_true rfl)⟩) hD hS hA [] rfl (fun ce q9 H locs hS hce hcv hcl => ?_)
    exact vx_out (fun x hx => (hEx x hx).elim) hlocks hce hcv hcl (fun t ht _ => ⟨rfl, hS.F ht⟩) hS.2.2 (Nat.le_of_ble_eq_true rfl) (Nat.le_of_ble_eq_true rfl)
  · skip
    rcases Int.lt_or_le i0.toInt 3 with f2 | f2
    · skip
      refine pxCv (va_runV (As := [.int i0]) (rest := []) ⟨hx, hb, hml, hown, hts⟩ (k232_X6_requireDrawer l G s.heap.size a0 i0 ⟨by omega, by omega⟩) (cwV 1 hts (pxGV pm632 pm633 pm634 pm2 pm635) rfl rfl rfl (by decide +kernel) ⟨(Nat.le_of_ble_eq_true rfl), (Nat.le_of_ble_eq_true rfl)⟩) (pxV (ci := 5) (q0 := 0) hG hZ hP hD hS hA [] rfl (by decide) rfl rfl) rfl rfl hl.1 rfl (lv_room (Nat.le_of_ble_eq_true rfl)) dX6_copyDrawer_2 ⟨(Nat.le_of_ble_eq_true rfl), (Nat.le_of_ble_eq_true rfl)⟩) hP hD hS hA [] [0] rfl rfl (by decide) (by decide) (fun q1 H locs hP hD hS => ?_)
      have hP : va_P G.1 pxCl [(a0, .inr (5, [.ref a1, .ref a2, .ref a3, .ref a4, .ref a5, .int 0, .int 0, .int (-1)]))] H := hP
      have hD : va_D A [(a0, .inr (5, [.ref a1, .ref a2, .ref a3, .ref a4, .ref a5, .int 0, .int 0, .int (-1)]))] := hD
      refine lv_aload_n hx hb dX6_copyDrawer_5 rfl (lv_at hl 0 rfl) ?_
      refine lv_iload_n hx hb dX6_copyDrawer_6 rfl (lv_at hl 2 rfl) ?_
      refine pxCx (vx_runV (As := [.int i1]) (rest := []) ⟨hx, hb, hml, hown, hts⟩ (k292_X6_requireDrawer l hl9 G H.size a0 i1 ⟨by omega, by omega⟩) (cwV 1 hts (pxGV pm632 pm633 pm634 pm2 pm635) rfl rfl rfl (by decide +kernel) ⟨(Nat.le_of_ble_eq_true rfl), (Nat.le_of_ble_eq_true rfl)⟩) (pxV (ci := 5) (q0 := 0) hG hZ hP hD hS hA [] rfl (by decide) rfl rfl) rfl rfl hl.1 rfl (lv_room (Nat.le_of_ble_eq_true rfl)) dX6_copyDrawer_7 ⟨(Nat.le_of_ble_eq_true rfl), (Nat.le_of_ble_eq_true rfl)⟩) hD hS hA [] rfl (fun ce q9 H locs hS hce hcv hcl => ?_)
      exact vx_out (fun x hx => (hEx x hx).elim) hlocks hce hcv hcl (fun t ht _ => ⟨rfl, hS.F ht⟩) hS.2.2 (Nat.le_of_ble_eq_true rfl) (Nat.le_of_ble_eq_true rfl)
    · skip
      refine pxCx (vx_runV (As := [.int i0]) (rest := []) ⟨hx, hb, hml, hown, hts⟩ (k292_X6_requireDrawer l hl9 G s.heap.size a0 i0 ⟨by omega, by omega⟩) (cwV 1 hts (pxGV pm632 pm633 pm634 pm2 pm635) rfl rfl rfl (by decide +kernel) ⟨(Nat.le_of_ble_eq_true rfl), (Nat.le_of_ble_eq_true rfl)⟩) (pxV (ci := 5) (q0 := 0) hG hZ hP hD hS hA [] rfl (by decide) rfl rfl) rfl rfl hl.1 rfl (lv_room (Nat.le_of_ble_eq_true rfl)) dX6_copyDrawer_2 ⟨(Nat.le_of_ble_eq_true rfl), (Nat.le_of_ble_eq_true rfl)⟩) hD hS hA [] rfl (fun ce q9 H locs hS hce hcv hcl => ?_)
      exact vx_out (fun x hx => (hEx x hx).elim) hlocks hce hcv hcl (fun t ht _ => ⟨rfl, hS.F ht⟩) hS.2.2 (Nat.le_of_ble_eq_true rfl) (Nat.le_of_ble_eq_true rfl)
set_option maxHeartbeats 4000000 in
set_option maxRecDepth 100000 in
theorem k319_L_copyDrawer (l : Launch) (hl9 : l.stackTraces = false) (G : pxG) (sz : Nat) (a0 a1 a2 a3 a4 a5 a6 : Nat) (i0 i1 : Int32) (h1 : 3 ≤ i1.toInt ∧ i1.toInt ≤ 2147483647) : Met l yL_copyDrawer (Cond.codeWith yL_copyDrawer cL_copyDrawer 5 (some .int) [(0, 10, 13, 67), (0, 10, 17, 53)] :: pxAll) ({ frames := 8, cells := 1, slots := 6, locals := 133 } : Room) (va_Pc [.ref a0, .int i0, .int i1, .ref a1] (pxPre G [(a0, .inr (5, [.ref a2, .ref a3, .ref a4, .ref a5, .ref a6, .int 0, .int 0, .int (-1)]))] sz)) (pxQi G (fun r => r = 1) (fun q => []) (va_A [(a0, .inr (5, [.ref a2, .ref a3, .ref a4, .ref a5, .ref a6, .int 0, .int 0, .int (-1)]))] sz)) 1 6 (va_A [(a0, .inr (5, [.ref a2, .ref a3, .ref a4, .ref a5, .ref a6, .int 0, .int 0, .int (-1)]))] sz) := by
  refine va_MetW (cc := cL_copyDrawer) (maxL := 5) (ret := (some .int)) (hh := [(0, 10, 13, 67), (0, 10, 17, 53)]) (by decide) rfl ?_
  intro p e s m args below meth c s₁ B hml hv
  obtain ⟨rfl, hsz, hG, hZ, hP, hD0⟩ := hv
  have hx := B.exec
  have hb := B.bytes
  have hr := B.returns
  have hts0 := atoms_spec (ws := Cond.codeWith yL_copyDrawer cL_copyDrawer 5 (some .int) [(0, 10, 13, 67), (0, 10, 17, 53)] :: pxAll) B.pre
  have hts : ∀ w ∈ pxAll, w.before _ s = true := fun w h => hts0 w (List.mem_cons_of_mem _ h)
  have hown : s.vm.findClass RL = some m.cls := findClass_of_methodNamed B.named
  have hlocks := B.notSynchronized
  have hTab := vx_table (x := yL_copyDrawer) B (hts0 _ List.mem_cons_self)
  subst hsz
  have hK := hG.1
  have hD := hD0.self (sz := s.heap.size)
  generalize hAe : va_A [(a0, .inr (5, [.ref a2, .ref a3, .ref a4, .ref a5, .ref a6, .int 0, .int 0, .int (-1)]))] s.heap.size = A at hD hZ ⊢
  have hA : ∀ q : Nat, s.heap.size ≤ q → A q := fun q h => by rw [← hAe]; exact Or.inr h
  have hS : va_S A s.heap s.heap [] := va_S.rf
  have hl := lv_entry ([.ref a0, .int i0, .int i1, .ref a1]) (n := 5) (Nat.le_of_ble_eq_true rfl)
  rw [lg_entry_eq]
  generalize (lg_sl ([.ref a0, .int i0, .int i1, .ref a1]) ++ List.replicate (5 - (lg_sl ([.ref a0, .int i0, .int i1, .ref a1])).length) Slot.unset).toArray = ls at hl ⊢
  have hl : lv_has ls 5 [(0, .ref a0), (1, .int i0), (2, .int i1), (3, .ref a1)] := hl
  refine lv_aload_n hx hb dL_copyDrawer_0 rfl (lv_at hl 3 rfl) ?_
  refine lv_iconst (v := 0) hx hb dL_copyDrawer_1 (by decide) ?_
  refine lv_aload_n hx hb dL_copyDrawer_2 rfl (lv_at hl 0 rfl) ?_
  refine lv_iload_n hx hb dL_copyDrawer_3 rfl (lv_at hl 1 rfl) ?_
  refine lv_iload_n hx hb dL_copyDrawer_4 rfl (lv_at hl 2 rfl) ?_
  refine pxCx (vx_runV (As := [.int i0, .int i1]) (rest := [.int 0, .ref a1]) ⟨hx, hb, hml, hown, hts⟩ (k319_X6_copyDrawer l hl9 G s.heap.size a0 a2 a3 a4 a5 a6 i0 i1 ⟨by omega, by omega⟩) (cwV 2 hts (pxGV pm700 pm701 pm702 pm2 pm703) rfl rfl rfl (by decide +kernel) ⟨(Nat.le_of_ble_eq_true rfl), (Nat.le_of_ble_eq_true rfl)⟩) (pxV (ci := 5) (q0 := 0) hG hZ hP hD hS hA [0] rfl (by decide) rfl rfl) rfl rfl hl.1 rfl (lv_room (Nat.le_of_ble_eq_true rfl)) dL_copyDrawer_5 ⟨(Nat.le_of_ble_eq_true rfl), (Nat.le_of_ble_eq_true rfl)⟩) hD hS hA [0] rfl (fun ce q9 H locs hS hce hcv hcl => ?_)
  refine vx_catch (own := RL) (name := "java/lang/IndexOutOfBoundsException") (E := "java/lang/IndexOutOfBoundsException") hown [] ⟨0, 10, 13, 67⟩ [⟨0, 10, 17, 53⟩] (by rw [hTab]; rfl) (fun z hz => nomatch hz) (by decide) (by decide) (hts _ pm437) (va_Nw.use rfl (hG.2.2.1 "java/lang/IndexOutOfBoundsException" (by simp [pxBadC]))) hce hcv hcl ?_
  have hP : va_P G.1 pxCl [] H := fun k q h => by simp at h
  have hD : va_D A [] := ⟨fun i j p q h => by simp at h, fun k q h => by simp at h⟩
  refine lv_astore (lv' := [(4, .ref q9), (0, .ref a0), (1, .int i0), (2, .int i1), (3, .ref a1)]) hx hb dL_copyDrawer_13 hl (by decide) rfl (fun ls hl => ?_)
  refine lv_iconst (v := 1) hx hb dL_copyDrawer_15 (by decide) ?_
  refine W.widen (k := 1) (n := 6) (Nat.le_of_ble_eq_true rfl) (Nat.le_of_ble_eq_true rfl) ?_
  exact W.iret (v := 1) hx hb hr (fun t ht hW => ⟨⟨1, (fun _ => 0), rfl, rfl, by rw [ht]; exact hP, hD⟩, hS.F ht⟩) hS.2.2 dL_copyDrawer_16
set_option maxHeartbeats 4000000 in
set_option maxRecDepth 100000 in
theorem k321_X7_copyDrawer (l : Launch) (G : pxG) (sz : Nat) (a0 a1 a2 a3 a4 a5 a6 a7 a8 a9 a10 a11 : Nat) (i0 i1 : Int32) (h1 : 3 ≤ i1.toInt ∧ i1.toInt ≤ 2147483647) : Met l yX7_copyDrawer (Cond.code yX7_copyDrawer cX7_copyDrawer 3 (some .int) :: pxAll) ({ frames := 2, cells := 0, slots := 0, locals := 42 } : Room) (va_Pc [.ref a0, .int i0, .int i1] (pxPre G [(a0, .inr (6, [.ref a1, .ref a2, .ref a3, .int 0, .ref a4, .int 0, .int 0, .int 0, .int 0, .ref a5, .int 0, .ref a6, .int 0, .int 0, .int 0, .int (-1), .ref a7, .ref a8, .int 0, .ref a9, .ref a10, .ref a11]))] sz)) (pxQi G (fun r => r = 0) (fun q => [(a0, .inr (6, [.ref a1, .ref a2, .ref a3, .int 0, .ref a4, .int 0, .int 0, .int 1, .int 0, .ref a5, .int 0, .ref a6, .int 0, .int 0, .int 0, .int (-1), .ref a7, .ref a8, .int 0, .ref a9, .ref a10, .ref a11]))]) (va_A [(a0, .inr (6, [.ref a1, .ref a2, .ref a3, .int 0, .ref a4, .int 0, .int 0, .int 0, .int 0, .ref a5, .int 0, .ref a6, .int 0, .int 0, .int 0, .int (-1), .ref a7, .ref a8, .int 0, .ref a9, .ref a10, .ref a11]))] sz)) 0 0 (va_A [(a0, .inr (6, [.ref a1, .ref a2, .ref a3, .int 0, .ref a4, .int 0, .int 0, .int 0, .int 0, .ref a5, .int 0, .ref a6, .int 0, .int 0, .int 0, .int (-1), .ref a7, .ref a8, .int 0, .ref a9, .ref a10, .ref a11]))] sz) := by
  refine Met.ofW (cc := cX7_copyDrawer) (maxL := 3) (ret := (some .int)) (by decide) rfl ?_
  intro p e s m args below meth c s₁ B hml hv
  obtain ⟨rfl, hsz, hG, hZ, hP, hD0⟩ := hv
  have hx := B.exec
  have hb := B.bytes
  have hr := B.returns
  have hts0 := atoms_spec (ws := Cond.code yX7_copyDrawer cX7_copyDrawer 3 (some .int) :: pxAll) B.pre
  have hts : ∀ w ∈ pxAll, w.before _ s = true := fun w h => hts0 w (List.mem_cons_of_mem _ h)
  have hown : s.vm.findClass RX7 = some m.cls := findClass_of_methodNamed B.named
  have hlocks := B.notSynchronized
  subst hsz
  have hK := hG.1
  have hD := hD0.self (sz := s.heap.size)
  generalize hAe : va_A [(a0, .inr (6, [.ref a1, .ref a2, .ref a3, .int 0, .ref a4, .int 0, .int 0, .int 0, .int 0, .ref a5, .int 0, .ref a6, .int 0, .int 0, .int 0, .int (-1), .ref a7, .ref a8, .int 0, .ref a9, .ref a10, .ref a11]))] s.heap.size = A at hD hZ ⊢
  have hA : ∀ q : Nat, s.heap.size ≤ q → A q := fun q h => by rw [← hAe]; exact Or.inr h
  have hS : va_S A s.heap s.heap [] := va_S.rf
  have hl := lv_entry ([.ref a0, .int i0, .int i1]) (n := 3) (Nat.le_of_ble_eq_true rfl)
  rw [lg_entry_eq]
  generalize (lg_sl ([.ref a0, .int i0, .int i1]) ++ List.replicate (3 - (lg_sl ([.ref a0, .int i0, .int i1])).length) Slot.unset).toArray = ls at hl ⊢
  have hl : lv_has ls 3 [(0, .ref a0), (1, .int i0), (2, .int i1)] := hl
  have r0 := pxRng i0
  have r1 := pxRng i1
  refine lv_aload_n hx hb dX7_copyDrawer_0 rfl (lv_at hl 0 rfl) ?_
  refine lv_iload_n hx hb dX7_copyDrawer_1 rfl (lv_at hl 1 rfl) ?_
  rcases Int.lt_or_le i0.toInt 0 with f1 | f1
  · skip
    refine pxCi (va_runS (As := [.int i0]) (rest := [.ref a0]) ⟨hx, hb, hml, hown, hts⟩ (k229_X7_isDrawer l G s.heap.size i0 ⟨by omega, by omega⟩) (va_cwS 1 hts (pxGS pm643 pm644 pm71 pm645) rfl rfl rfl (by decide +kernel) ⟨(Nat.le_of_ble_eq_true rfl), (Nat.le_of_ble_eq_true rfl)⟩) (pxS hG hZ hP hD hS hA [] rfl (by decide)) rfl rfl hl.1 rfl (lv_room (Nat.le_of_ble_eq_true rfl)) dX7_copyDrawer_2 ⟨(Nat.le_of_ble_eq_true rfl), (Nat.le_of_ble_eq_true rfl)⟩) hP hD hS hA [] [0] rfl rfl (by decide) (by decide) (fun r2 q1 H locs hw hP hD hS => ?_)
    have hw : r2 = 0 := hw
    subst hw
    have hP : va_P G.1 pxCl [(a0, .inr (6, [.ref a1, .ref a2, .ref a3, .int 0, .ref a4, .int 0, .int 0, .int 0, .int 0, .ref a5, .int 0, .ref a6, .int 0, .int 0, .int 0, .int (-1), .ref a7, .ref a8, .int 0, .ref a9, .ref a10, .ref a11]))] H := hP
    have hD : va_D A [(a0, .inr (6, [.ref a1, .ref a2, .ref a3, .int 0, .ref a4, .int 0, .int 0, .int 0, .int 0, .ref a5, .int 0, .ref a6, .int 0, .int 0, .int 0, .int (-1), .ref a7, .ref a8, .int 0, .ref a9, .ref a10, .ref a11]))] := hD
    refine lv_if_eq (tgt := 15) hx hb dX7_copyDrawer_5 (by decide) (fun _ => ?_) (fun h9 => absurd (by decide) h9)
    refine lv_iconst (v := 1) hx hb dX7_copyDrawer_15 (by decide) ?_
    refine lv_goto (tgt := 33) hx hb dX7_copyDrawer_16 (by decide) ?_
    refine va_put (D := G.1) (ci := 6) (v := .int 1) (ty := .int) (C := RX7) (T := TX7) (N := 22) hx hb hts piX7 tyX7 tyX7_ok nmX7 hown hK hP hD hS 0 rfl rfl 7 (by decide) (hts _ pm150) (fun _ h9 => h9) rfl (by decide +kernel) rfl rfl (Nat.le_of_ble_eq_true rfl) dX7_copyDrawer_33 (fun H locs hP hD hS => ?_)
    have hP : va_P G.1 pxCl [(a0, .inr (6, [.ref a1, .ref a2, .ref a3, .int 0, .ref a4, .int 0, .int 0, .int 1, .int 0, .ref a5, .int 0, .ref a6, .int 0, .int 0, .int 0, .int (-1), .ref a7, .ref a8, .int 0, .ref a9, .ref a10, .ref a11]))] H := hP
    have hD : va_D A [(a0, .inr (6, [.ref a1, .ref a2, .ref a3, .int 0, .ref a4, .int 0, .int 0, .int 1, .int 0, .ref a5, .int 0, .ref a6, .int 0, .int 0, .int 0, .int (-1), .ref a7, .ref a8, .int 0, .ref a9, .ref a10, .ref a11]))] := hD
    refine lv_aload_n hx hb dX7_copyDrawer_36 rfl (lv_at hl 0 rfl) ?_
    refine va_get (D := G.1) (ci := 6) (v := .int 1) (C := RX7) (T := TX7) (N := 22) hx hb hts piX7 hown hK hP 0 rfl rfl 7 (by decide) (hts _ pm150) (fun _ h9 => h9) rfl dX7_copyDrawer_37 ?_
    refine lv_if_le (tgt := 45) hx hb dX7_copyDrawer_40 (by decide) (fun h9 => absurd h9 (by decide)) (fun _ => ?_)
    refine lv_iconst (v := 0) hx hb dX7_copyDrawer_43 (by decide) ?_
    refine W.widen (k := 0) (n := 0) (Nat.le_of_ble_eq_true rfl) (Nat.le_of_ble_eq_true rfl) ?_
    exact W.iret (v := 0) hx hb hr (fun t ht hW => ⟨⟨0, (fun _ => 0), rfl, rfl, by rw [ht]; exact hP, hD⟩, hS.F ht⟩) hS.2.2 dX7_copyDrawer_44
  · skip
    rcases Int.lt_or_le i0.toInt 3 with f2 | f2
    · skip
      refine pxCi (va_runS (As := [.int i0]) (rest := [.ref a0]) ⟨hx, hb, hml, hown, hts⟩ (k236_X7_isDrawer l G s.heap.size i0 ⟨by omega, by omega⟩) (va_cwS 1 hts (pxGS pm643 pm644 pm71 pm645) rfl rfl rfl (by decide +kernel) ⟨(Nat.le_of_ble_eq_true rfl), (Nat.le_of_ble_eq_true rfl)⟩) (pxS hG hZ hP hD hS hA [] rfl (by decide)) rfl rfl hl.1 rfl (lv_room (Nat.le_of_ble_eq_true rfl)) dX7_copyDrawer_2 ⟨(Nat.le_of_ble_eq_true rfl), (Nat.le_of_ble_eq_true rfl)⟩) hP hD hS hA [] [0] rfl rfl (by decide) (by decide) (fun r2 q1 H locs hw hP hD hS => ?_)
      have hw : r2 = 1 := hw
      subst hw
      have hP : va_P G.1 pxCl [(a0, .inr (6, [.ref a1, .ref a2, .ref a3, .int 0, .ref a4, .int 0, .int 0, .int 0, .int 0, .ref a5, .int 0, .ref a6, .int 0, .int 0, .int 0, .int (-1), .ref a7, .ref a8, .int 0, .ref a9, .ref a10, .ref a11]))] H := hP
      have hD : va_D A [(a0, .inr (6, [.ref a1, .ref a2, .ref a3, .int 0, .ref a4, .int 0, .int 0, .int 0, .int 0, .ref a5, .int 0, .ref a6, .int 0, .int 0, .int 0, .int (-1), .ref a7, .ref a8, .int 0, .ref a9, .ref a10, .ref a11]))] := hD
      refine lv_if_eq (tgt := 15) hx hb dX7_copyDrawer_5 (by decide) (fun h9 => absurd h9 (by decide)) (fun _ => ?_)
      refine lv_iload_n hx hb dX7_copyDrawer_8 rfl (lv_at hl 2 rfl) ?_
      refine pxCi (va_runS (As := [.int i1]) (rest := [.ref a0]) ⟨hx, hb, hml, hown, hts⟩ (k295_X7_isDrawer l G H.size i1 ⟨by omega, by omega⟩) (va_cwS 1 hts (pxGS pm643 pm644 pm71 pm645) rfl rfl rfl (by decide +kernel) ⟨(Nat.le_of_ble_eq_true rfl), (Nat.le_of_ble_eq_true rfl)⟩) (pxS hG hZ hP hD hS hA [] rfl (by decide)) rfl rfl hl.1 rfl (lv_room (Nat.le_of_ble_eq_true rfl)) dX7_copyDrawer_9 ⟨(Nat.le_of_ble_eq_true rfl), (Nat.le_of_ble_eq_true rfl)⟩) hP hD hS hA [] [0] rfl rfl (by decide) (by decide) (fun r4 q3 H locs hw hP hD hS => ?_)
      have hw : r4 = 0 := hw
      subst hw
      have hP : va_P G.1 pxCl [(a0, .inr (6, [.ref a1, .ref a2, .ref a3, .int 0, .ref a4, .int 0, .int 0, .int 0, .int 0, .ref a5, .int 0, .ref a6, .int 0, .int 0, .int 0, .int (-1), .ref a7, .ref a8, .int 0, .ref a9, .ref a10, .ref a11]))] H := hP
      have hD : va_D A [(a0, .inr (6, [.ref a1, .ref a2, .ref a3, .int 0, .ref a4, .int 0, .int 0, .int 0, .int 0, .ref a5, .int 0, .ref a6, .int 0, .int 0, .int 0, .int (-1), .ref a7, .ref a8, .int 0, .ref a9, .ref a10, .ref a11]))] := hD
      refine lv_if_ne (tgt := 19) hx hb dX7_copyDrawer_12 (by decide) (fun h9 => absurd h9 (by decide)) (fun _ => ?_)
      refine lv_iconst (v := 1) hx hb dX7_copyDrawer_15 (by decide) ?_
      refine lv_goto (tgt := 33) hx hb dX7_copyDrawer_16 (by decide) ?_
      refine va_put (D := G.1) (ci := 6) (v := .int 1) (ty := .int) (C := RX7) (T := TX7) (N := 22) hx hb hts piX7 tyX7 tyX7_ok nmX7 hown hK hP hD hS 0 rfl rfl 7 (by decide) (hts _ pm150) (fun _ h9 => h9) rfl (by decide +kernel) rfl rfl (Nat.le_of_ble_eq_true rfl) dX7_copyDrawer_33 (fun H locs hP hD hS => ?_)
      have hP : va_P G.1 pxCl [(a0, .inr (6, [.ref a1, .ref a2, .ref a3, .int 0, .ref a4, .int 0, .int 0, .int 1, .int 0, .ref a5, .int 0, .ref a6, .int 0, .int 0, .int 0, .int (-1), .ref a7, .ref a8, .int 0, .ref a9, .ref a10, .ref a11]))] H := hP
      have hD : va_D A [(a0, .inr (6, [.ref a1, .ref a2, .ref a3, .int 0, .ref a4, .int 0, .int 0, .int 1, .int 0, .ref a5, .int 0, .ref a6, .int 0, .int 0, .int 0, .int (-1), .ref a7, .ref a8, .int 0, .ref a9, .ref a10, .ref a11]))] := hD
      refine lv_aload_n hx hb dX7_copyDrawer_36 rfl (lv_at hl 0 rfl) ?_
      refine va_get (D := G.1) (ci := 6) (v := .int 1) (C := RX7) (T := TX7) (N := 22) hx hb hts piX7 hown hK hP 0 rfl rfl 7 (by decide) (hts _ pm150) (fun _ h9 => h9) rfl dX7_copyDrawer_37 ?_
      refine lv_if_le (tgt := 45) hx hb dX7_copyDrawer_40 (by decide) (fun h9 => absurd h9 (by decide)) (fun _ => ?_)
      refine lv_iconst (v := 0) hx hb dX7_copyDrawer_43 (by decide) ?_
      refine W.widen (k := 0) (n := 0) (Nat.le_of_ble_eq_true rfl) (Nat.le_of_ble_eq_true rfl) ?_
      exact W.iret (v := 0) hx hb hr (fun t ht hW => ⟨⟨0, (fun _ => 0), rfl, rfl, by rw [ht]; exact hP, hD⟩, hS.F ht⟩) hS.2.2 dX7_copyDrawer_44
    · skip
      refine pxCi (va_runS (As := [.int i0]) (rest := [.ref a0]) ⟨hx, hb, hml, hown, hts⟩ (k295_X7_isDrawer l G s.heap.size i0 ⟨by omega, by omega⟩) (va_cwS 1 hts (pxGS pm643 pm644 pm71 pm645) rfl rfl rfl (by decide +kernel) ⟨(Nat.le_of_ble_eq_true rfl), (Nat.le_of_ble_eq_true rfl)⟩) (pxS hG hZ hP hD hS hA [] rfl (by decide)) rfl rfl hl.1 rfl (lv_room (Nat.le_of_ble_eq_true rfl)) dX7_copyDrawer_2 ⟨(Nat.le_of_ble_eq_true rfl), (Nat.le_of_ble_eq_true rfl)⟩) hP hD hS hA [] [0] rfl rfl (by decide) (by decide) (fun r2 q1 H locs hw hP hD hS => ?_)
      have hw : r2 = 0 := hw
      subst hw
      have hP : va_P G.1 pxCl [(a0, .inr (6, [.ref a1, .ref a2, .ref a3, .int 0, .ref a4, .int 0, .int 0, .int 0, .int 0, .ref a5, .int 0, .ref a6, .int 0, .int 0, .int 0, .int (-1), .ref a7, .ref a8, .int 0, .ref a9, .ref a10, .ref a11]))] H := hP
      have hD : va_D A [(a0, .inr (6, [.ref a1, .ref a2, .ref a3, .int 0, .ref a4, .int 0, .int 0, .int 0, .int 0, .ref a5, .int 0, .ref a6, .int 0, .int 0, .int 0, .int (-1), .ref a7, .ref a8, .int 0, .ref a9, .ref a10, .ref a11]))] := hD
      refine lv_if_eq (tgt := 15) hx hb dX7_copyDrawer_5 (by decide) (fun _ => ?_) (fun h9 => absurd (by decide) h9)
      refine lv_iconst (v := 1) hx hb dX7_copyDrawer_15 (by decide) ?_
      refine lv_goto (tgt := 33) hx hb dX7_copyDrawer_16 (by decide) ?_
      refine va_put (D := G.1) (ci := 6) (v := .int 1) (ty := .int) (C := RX7) (T := TX7) (N := 22) hx hb hts piX7 tyX7 tyX7_ok nmX7 hown hK hP hD hS 0 rfl rfl 7 (by decide) (hts _ pm150) (fun _ h9 => h9) rfl (by decide +kernel) rfl rfl (Nat.le_of_ble_eq_true rfl) dX7_copyDrawer_33 (fun H locs hP hD hS => ?_)
      have hP : va_P G.1 pxCl [(a0, .inr (6, [.ref a1, .ref a2, .ref a3, .int 0, .ref a4, .int 0, .int 0, .int 1, .int 0, .ref a5, .int 0, .ref a6, .int 0, .int 0, .int 0, .int (-1), .ref a7, .ref a8, .int 0, .ref a9, .ref a10, .ref a11]))] H := hP
      have hD : va_D A [(a0, .inr (6, [.ref a1, .ref a2, .ref a3, .int 0, .ref a4, .int 0, .int 0, .int 1, .int 0, .ref a5, .int 0, .ref a6, .int 0, .int 0, .int 0, .int (-1), .ref a7, .ref a8, .int 0, .ref a9, .ref a10, .ref a11]))] := hD
      refine lv_aload_n hx hb dX7_copyDrawer_36 rfl (lv_at hl 0 rfl) ?_
      refine va_get (D := G.1) (ci := 6) (v := .int 1) (C := RX7) (T := TX7) (N := 22) hx hb hts piX7 hown hK hP 0 rfl rfl 7 (by decide) (hts _ pm150) (fun _ h9 => h9) rfl dX7_copyDrawer_37 ?_
      refine lv_if_le (tgt := 45) hx hb dX7_copyDrawer_40 (by decide) (fun h9 => absurd h9 (by decide)) (fun _ => ?_)
      refine lv_iconst (v := 0) hx hb dX7_copyDrawer_43 (by decide) ?_
      refine W.widen (k := 0) (n := 0) (Nat.le_of_ble_eq_true rfl) (Nat.le_of_ble_eq_true rfl) ?_
      exact W.iret (v := 0) hx hb hr (fun t ht hW => ⟨⟨0, (fun _ => 0), rfl, rfl, by rw [ht]; exact hP, hD⟩, hS.F ht⟩) hS.2.2 dX7_copyDrawer_44
set_option maxHeartbeats 4000000 in
set_option maxRecDepth 100000 in
theorem k322_X6_copyDrawer (l : Launch) (hl9 : l.stackTraces = false) (G : pxG) (sz : Nat) (a0 a1 a2 a3 a4 a5 : Nat) (i0 i1 : Int32) (h0 : 3 ≤ i0.toInt ∧ i0.toInt ≤ 2147483647) : vx_Met l yX6_copyDrawer (Cond.code yX6_copyDrawer cX6_copyDrawer 3 (some .int) :: pxAll) ({ frames := 7, cells := 1, slots := 6, locals := 111 } : Room) (va_Pc [.ref a0, .int i0, .int i1] (pxPre G [(a0, .inr (5, [.ref a1, .ref a2, .ref a3, .ref a4, .ref a5, .int 0, .int 0, .int (-1)]))] sz)) pxF (pxXC "java/lang/IndexOutOfBoundsException" (va_A [(a0, .inr (5, [.ref a1, .ref a2, .ref a3, .ref a4, .ref a5, .int 0, .int 0, .int (-1)]))] sz)) 1 6 (va_A [(a0, .inr (5, [.ref a1, .ref a2, .ref a3, .ref a4, .ref a5, .int 0, .int 0, .int (-1)]))] sz) := by
  refine vx_ofW (cc := cX6_copyDrawer) (maxL := 3) (ret := (some .int)) (by decide) rfl ?_
  intro p e s m args below meth c s₁ B hml hEx hv
  obtain ⟨rfl, hsz, hG, hZ, hP, hD0⟩ := hv
  have hx := B.exec
  have hb := B.bytes
  have hr := B.returns
  have hts0 := atoms_spec (ws := Cond.code yX6_copyDrawer cX6_copyDrawer 3 (some .int) :: pxAll) B.pre
  have hts : ∀ w ∈ pxAll, w.before _ s = true := fun w h => hts0 w (List.mem_cons_of_mem _ h)
  have hown : s.vm.findClass RX6 = some m.cls := findClass_of_methodNamed B.named
  have hlocks := B.notSynchronized
  subst hsz
  have hK := hG.1
  have hD := hD0.self (sz := s.heap.size)
  generalize hAe : va_A [(a0, .inr (5, [.ref a1, .ref a2, .ref a3, .ref a4, .ref a5, .int 0, .int 0, .int (-1)]))] s.heap.size = A at hD hZ ⊢
  have hA : ∀ q : Nat, s.heap.size ≤ q → A q := fun q h => by rw [← hAe]; exact Or.inr h
  have hS : va_S A s.heap s.heap [] := va_S.rf
  have hl := lv_entry ([.ref a0, .int i0, .int i1]) (n := 3) (Nat.le_of_ble_eq_true rfl)
  rw [lg_entry_eq]
  generalize (lg_sl ([.ref a0, .int i0, .int i1]) ++ List.replicate (3 - (lg_sl ([.ref a0, .int i0, .int i1])).length) Slot.unset).toArray = ls at hl ⊢
  have hl : lv_has ls 3 [(0, .ref a0), (1, .int i0), (2, .int i1)] := hl
  refine lv_aload_n hx hb dX6_copyDrawer_0 rfl (lv_at hl 0 rfl) ?_
  refine lv_iload_n hx hb dX6_copyDrawer_1 rfl (lv_at hl 1 rfl) ?_
  refine pxCx (vx_runV (As := [.int i0]) (rest := []) ⟨hx, hb, hml, hown, hts⟩ (k292_X6_requireDrawer l hl9 G s.heap.size a0 i0 ⟨by omega, by omega⟩) (cwV 1 hts (pxGV pm632 pm633 pm634 pm2 pm635) rfl rfl rfl (by decide +kernel) ⟨(Nat.le_of_ble_eq_true rfl), (Nat.le_of_ble_eq_true rfl)⟩) (pxV (ci := 5) (q0 := 0) hG hZ hP hD hS hA [] rfl (by decide) rfl rfl) rfl rfl hl.1 rfl (lv_room (Nat.le_of_ble_eq_true rfl)) dX6_copyDrawer_2 ⟨(Nat.le_of_ble_eq_true rfl), (Nat.le_of_ble_eq_true rfl)⟩) hD hS hA [] rfl (fun ce q9 H locs hS hce hcv hcl => ?_)
  exact vx_out (fun x hx => (hEx x hx).elim) hlocks hce hcv hcl (fun t ht _ => ⟨rfl, hS.F ht⟩) hS.2.2 (Nat.le_of_ble_eq_true rfl) (Nat.le_of_ble_eq_true rfl)
set_option maxHeartbeats 4000000 in
set_option maxRecDepth 100000 in
theorem k322_L_copyDrawer (l : Launch) (hl9 : l.stackTraces = false) (G : pxG) (sz : Nat) (a0 a1 a2 a3 a4 a5 a6 : Nat) (i0 i1 : Int32) (h0 : 3 ≤ i0.toInt ∧ i0.toInt ≤ 2147483647) : Met l yL_copyDrawer (Cond.codeWith yL_copyDrawer cL_copyDrawer 5 (some .int) [(0, 10, 13, 67), (0, 10, 17, 53)] :: pxAll) ({ frames := 8, cells := 1, slots := 6, locals := 133 } : Room) (va_Pc [.ref a0, .int i0, .int i1, .ref a1] (pxPre G [(a0, .inr (5, [.ref a2, .ref a3, .ref a4, .ref a5, .ref a6, .int 0, .int 0, .int (-1)]))] sz)) (pxQi G (fun r => r = 1) (fun q => []) (va_A [(a0, .inr (5, [.ref a2, .ref a3, .ref a4, .ref a5, .ref a6, .int 0, .int 0, .int (-1)]))] sz)) 1 6 (va_A [(a0, .inr (5, [.ref a2, .ref a3, .ref a4, .ref a5, .ref a6, .int 0, .int 0, .int (-1)]))] sz) := by
  refine va_MetW (cc := cL_copyDrawer) (maxL := 5) (ret := (some .int)) (hh := [(0, 10, 13, 67), (0, 10, 17, 53)]) (by decide) rfl ?_
  intro p e s m args below meth c s₁ B hml hv
  obtain ⟨rfl, hsz, hG, hZ, hP, hD0⟩ := hv
  have hx := B.exec
  have hb := B.bytes
  have hr := B.returns
  have hts0 := atoms_spec (ws := Cond.codeWith yL_copyDrawer cL_copyDrawer 5 (some .int) [(0, 10, 13, 67), (0, 10, 17, 53)] :: pxAll) B.pre
  have hts : ∀ w ∈ pxAll, w.before _ s = true := fun w h => hts0 w (List.mem_cons_of_mem _ h)
  have hown : s.vm.findClass RL = some m.cls := findClass_of_methodNamed B.named
  have hlocks := B.notSynchronized
  have hTab := vx_table (x := yL_copyDrawer) B (hts0 _ List.mem_cons_self)
  subst hsz
  have hK := hG.1
  have hD := hD0.self (sz := s.heap.size)
  generalize hAe : va_A [(a0, .inr (5, [.ref a2, .ref a3, .ref a4, .ref a5, .ref a6, .int 0, .int 0, .int (-1)]))] s.heap.size = A at hD hZ ⊢
  have hA : ∀ q : Nat, s.heap.size ≤ q → A q := fun q h => by rw [← hAe]; exact Or.inr h
  have hS : va_S A s.heap s.heap [] := va_S.rf
  have hl := lv_entry ([.ref a0, .int i0, .int i1, .ref a1]) (n := 5) (Nat.le_of_ble_eq_true rfl)
  rw [lg_entry_eq]
  generalize (lg_sl ([.ref a0, .int i0, .int i1, .ref a1]) ++ List.replicate (5 - (lg_sl ([.ref a0, .int i0, .int i1, .ref a1])).length) Slot.unset).toArray = ls at hl ⊢
  have hl : lv_has ls 5 [(0, .ref a0), (1, .int i0), (2, .int i1), (3, .ref a1)] := hl
  refine lv_aload_n hx hb dL_copyDrawer_0 rfl (lv_at hl 3 rfl) ?_
  refine lv_iconst (v := 0) hx hb dL_copyDrawer_1 (by decide) ?_
  refine lv_aload_n hx hb dL_copyDrawer_2 rfl (lv_at hl 0 rfl) ?_
  refine lv_iload_n hx hb dL_copyDrawer_3 rfl (lv_at hl 1 rfl) ?_
  refine lv_iload_n hx hb dL_copyDrawer_4 rfl (lv_at hl 2 rfl) ?_
  refine pxCx (vx_runV (As := [.int i0, .int i1]) (rest := [.int 0, .ref a1]) ⟨hx, hb, hml, hown, hts⟩ (k322_X6_copyDrawer l hl9 G s.heap.size a0 a2 a3 a4 a5 a6 i0 i1 ⟨by omega, by omega⟩) (cwV 2 hts (pxGV pm700 pm701 pm702 pm2 pm703) rfl rfl rfl (by decide +kernel) ⟨(Nat.le_of_ble_eq_true rfl), (Nat.le_of_ble_eq_true rfl)⟩) (pxV (ci := 5) (q0 := 0) hG hZ hP hD hS hA [0] rfl (by decide) rfl rfl) rfl rfl hl.1 rfl (lv_room (Nat.le_of_ble_eq_true rfl)) dL_copyDrawer_5 ⟨(Nat.le_of_ble_eq_true rfl), (Nat.le_of_ble_eq_true rfl)⟩) hD hS hA [0] rfl (fun ce q9 H locs hS hce hcv hcl => ?_)
  refine vx_catch (own := RL) (name := "java/lang/IndexOutOfBoundsException") (E := "java/lang/IndexOutOfBoundsException") hown [] ⟨0, 10, 13, 67⟩ [⟨0, 10, 17, 53⟩] (by rw [hTab]; rfl) (fun z hz => nomatch hz) (by decide) (by decide) (hts _ pm437) (va_Nw.use rfl (hG.2.2.1 "java/lang/IndexOutOfBoundsException" (by simp [pxBadC]))) hce hcv hcl ?_
  have hP : va_P G.1 pxCl [] H := fun k q h => by simp at h
  have hD : va_D A [] := ⟨fun i j p q h => by simp at h, fun k q h => by simp at h⟩
  refine lv_astore (lv' := [(4, .ref q9), (0, .ref a0), (1, .int i0), (2, .int i1), (3, .ref a1)]) hx hb dL_copyDrawer_13 hl (by decide) rfl (fun ls hl => ?_)
  refine lv_iconst (v := 1) hx hb dL_copyDrawer_15 (by decide) ?_
  refine W.widen (k := 1) (n := 6) (Nat.le_of_ble_eq_true rfl) (Nat.le_of_ble_eq_true rfl) ?_
  exact W.iret (v := 1) hx hb hr (fun t ht hW => ⟨⟨1, (fun _ => 0), rfl, rfl, by rw [ht]; exact hP, hD⟩, hS.F ht⟩) hS.2.2 dL_copyDrawer_16
set_option maxHeartbeats 4000000 in
set_option maxRecDepth 100000 in
theorem k324_X7_copyDrawer (l : Launch) (G : pxG) (sz : Nat) (a0 a1 a2 a3 a4 a5 a6 a7 a8 a9 a10 a11 : Nat) (i0 i1 : Int32) (h0 : 3 ≤ i0.toInt ∧ i0.toInt ≤ 2147483647) : Met l yX7_copyDrawer (Cond.code yX7_copyDrawer cX7_copyDrawer 3 (some .int) :: pxAll) ({ frames := 2, cells := 0, slots := 0, locals := 42 } : Room) (va_Pc [.ref a0, .int i0, .int i1] (pxPre G [(a0, .inr (6, [.ref a1, .ref a2, .ref a3, .int 0, .ref a4, .int 0, .int 0, .int 0, .int 0, .ref a5, .int 0, .ref a6, .int 0, .int 0, .int 0, .int (-1), .ref a7, .ref a8, .int 0, .ref a9, .ref a10, .ref a11]))] sz)) (pxQi G (fun r => r = 0) (fun q => [(a0, .inr (6, [.ref a1, .ref a2, .ref a3, .int 0, .ref a4, .int 0, .int 0, .int 1, .int 0, .ref a5, .int 0, .ref a6, .int 0, .int 0, .int 0, .int (-1), .ref a7, .ref a8, .int 0, .ref a9, .ref a10, .ref a11]))]) (va_A [(a0, .inr (6, [.ref a1, .ref a2, .ref a3, .int 0, .ref a4, .int 0, .int 0, .int 0, .int 0, .ref a5, .int 0, .ref a6, .int 0, .int 0, .int 0, .int (-1), .ref a7, .ref a8, .int 0, .ref a9, .ref a10, .ref a11]))] sz)) 0 0 (va_A [(a0, .inr (6, [.ref a1, .ref a2, .ref a3, .int 0, .ref a4, .int 0, .int 0, .int 0, .int 0, .ref a5, .int 0, .ref a6, .int 0, .int 0, .int 0, .int (-1), .ref a7, .ref a8, .int 0, .ref a9, .ref a10, .ref a11]))] sz) := by
  refine Met.ofW (cc := cX7_copyDrawer) (maxL := 3) (ret := (some .int)) (by decide) rfl ?_
  intro p e s m args below meth c s₁ B hml hv
  obtain ⟨rfl, hsz, hG, hZ, hP, hD0⟩ := hv
  have hx := B.exec
  have hb := B.bytes
  have hr := B.returns
  have hts0 := atoms_spec (ws := Cond.code yX7_copyDrawer cX7_copyDrawer 3 (some .int) :: pxAll) B.pre
  have hts : ∀ w ∈ pxAll, w.before _ s = true := fun w h => hts0 w (List.mem_cons_of_mem _ h)
  have hown : s.vm.findClass RX7 = some m.cls := findClass_of_methodNamed B.named
  have hlocks := B.notSynchronized
  subst hsz
  have hK := hG.1
  have hD := hD0.self (sz := s.heap.size)
  generalize hAe : va_A [(a0, .inr (6, [.ref a1, .ref a2, .ref a3, .int 0, .ref a4, .int 0, .int 0, .int 0, .int 0, .ref a5, .int 0, .ref a6, .int 0, .int 0, .int 0, .int (-1), .ref a7, .ref a8, .int 0, .ref a9, .ref a10, .ref a11]))] s.heap.size = A at hD hZ ⊢
  have hA : ∀ q : Nat, s.heap.size ≤ q → A q := fun q h => by rw [← hAe]; exact Or.inr h
  have hS : va_S A s.heap s.heap [] := va_S.rf
  have hl := lv_entry ([.ref a0, .int i0, .int i1]) (n := 3) (Nat.le_of_ble_eq_true rfl)
  rw [lg_entry_eq]
  generalize (lg_sl ([.ref a0, .int i0, .int i1]) ++ List.replicate (3 - (lg_sl ([.ref a0, .int i0, .int i1])).length) Slot.unset).toArray = ls at hl ⊢
  have hl : lv_has ls 3 [(0, .ref a0), (1, .int i0), (2, .int i1)] := hl
  refine lv_aload_n hx hb dX7_copyDrawer_0 rfl (lv_at hl 0 rfl) ?_
  refine lv_iload_n hx hb dX7_copyDrawer_1 rfl (lv_at hl 1 rfl) ?_
  refine pxCi (va_runS (As := [.int i0]) (rest := [.ref a0]) ⟨hx, hb, hml, hown, hts⟩ (k295_X7_isDrawer l G s.heap.size i0 ⟨by omega, by omega⟩) (va_cwS 1 hts (pxGS pm643 pm644 pm71 pm645) rfl rfl rfl (by decide +kernel) ⟨(Nat.le_of_ble_eq_true rfl), (Nat.le_of_ble_eq_true rfl)⟩) (pxS hG hZ hP hD hS hA [] rfl (by decide)) rfl rfl hl.1 rfl (lv_room (Nat.le_of_ble_eq_true rfl)) dX7_copyDrawer_2 ⟨(Nat.le_of_ble_eq_true rfl), (Nat.le_of_ble_eq_true rfl)⟩) hP hD hS hA [] [0] rfl rfl (by decide) (by decide) (fun r2 q1 H locs hw hP hD hS => ?_)
  have hw : r2 = 0 := hw
  subst hw
  have hP : va_P G.1 pxCl [(a0, .inr (6, [.ref a1, .ref a2, .ref a3, .int 0, .ref a4, .int 0, .int 0, .int 0, .int 0, .ref a5, .int 0, .ref a6, .int 0, .int 0, .int 0, .int (-1), .ref a7, .ref a8, .int 0, .ref a9, .ref a10, .ref a11]))] H := hP
  have hD : va_D A [(a0, .inr (6, [.ref a1, .ref a2, .ref a3, .int 0, .ref a4, .int 0, .int 0, .int 0, .int 0, .ref a5, .int 0, .ref a6, .int 0, .int 0, .int 0, .int (-1), .ref a7, .ref a8, .int 0, .ref a9, .ref a10, .ref a11]))] := hD
  refine lv_if_eq (tgt := 15) hx hb dX7_copyDrawer_5 (by decide) (fun _ => ?_) (fun h9 => absurd (by decide) h9)
  refine lv_iconst (v := 1) hx hb dX7_copyDrawer_15 (by decide) ?_
  refine lv_goto (tgt := 33) hx hb dX7_copyDrawer_16 (by decide) ?_
  refine va_put (D := G.1) (ci := 6) (v := .int 1) (ty := .int) (C := RX7) (T := TX7) (N := 22) hx hb hts piX7 tyX7 tyX7_ok nmX7 hown hK hP hD hS 0 rfl rfl 7 (by decide) (hts _ pm150) (fun _ h9 => h9) rfl (by decide +kernel) rfl rfl (Nat.le_of_ble_eq_true rfl) dX7_copyDrawer_33 (fun H locs hP hD hS => ?_)
  have hP : va_P G.1 pxCl [(a0, .inr (6, [.ref a1, .ref a2, .ref a3, .int 0, .ref a4, .int 0, .int 0, .int 1, .int 0, .ref a5, .int 0, .ref a6, .int 0, .int 0, .int 0, .int (-1), .ref a7, .ref a8, .int 0, .ref a9, .ref a10, .ref a11]))] H := hP
  have hD : va_D A [(a0, .inr (6, [.ref a1, .ref a2, .ref a3, .int 0, .ref a4, .int 0, .int 0, .int 1, .int 0, .ref a5, .int 0, .ref a6, .int 0, .int 0, .int 0, .int (-1), .ref a7, .ref a8, .int 0, .ref a9, .ref a10, .ref a11]))] := hD
  refine lv_aload_n hx hb dX7_copyDrawer_36 rfl (lv_at hl 0 rfl) ?_
  refine va_get (D := G.1) (ci := 6) (v := .int 1) (C := RX7) (T := TX7) (N := 22) hx hb hts piX7 hown hK hP 0 rfl rfl 7 (by decide) (hts _ pm150) (fun _ h9 => h9) rfl dX7_copyDrawer_37 ?_
  refine lv_if_le (tgt := 45) hx hb dX7_copyDrawer_40 (by decide) (fun h9 => absurd h9 (by decide)) (fun _ => ?_)
  refine lv_iconst (v := 0) hx hb dX7_copyDrawer_43 (by decide) ?_
  refine W.widen (k := 0) (n := 0) (Nat.le_of_ble_eq_true rfl) (Nat.le_of_ble_eq_true rfl) ?_
  exact W.iret (v := 0) hx hb hr (fun t ht hW => ⟨⟨0, (fun _ => 0), rfl, rfl, by rw [ht]; exact hP, hD⟩, hS.F ht⟩) hS.2.2 dX7_copyDrawer_44
set_option maxHeartbeats 4000000 in
set_option maxRecDepth 100000 in
theorem lc32 {p : Program} {l : Launch} {e : Env} {s : State} {m : MethodId} {below : List Frame} {meth : Method} {c : Code} {b : Nat} {xs : Nat → Int32} (hl9 : l.stackTraces = false) (G : pxG) (C0 : lw_At p s m meth c b 5 xs) (hG : pxOk G s) (hZ : pxZ (fun q : Nat => s.heap.size ≤ q) s s.heap) (a1 a2 a43 a86 a127 a131 a132 a133 a134 a135 a136 a137 a138 a139 a140 a149 a150 a151 a152 a153 a154 a155 a156 a157 a158 a159 a160 a161 a162 : Nat) (H : Heap) (locs : List Loc) (hP : va_P G.1 pxCl [(a1, .inr (5, [.ref a2, .ref a43, .ref a86, .ref a127, .ref a131, .int 0, .int 0, .int (-1)])), (a131, .inl (G.2.1 6, 3, .inr (.inr (.inr (.inr (va_up (va_up (va_up (fun _ => none) 0 (some a132)) 1 (some a135)) 2 (some a138))))))), (a132, .inr (0, [.ref a133, .ref a134, .int 0, .int 0])), (a135, .inr (0, [.ref a136, .ref a137, .int 0, .int 0])), (a138, .inr (0, [.ref a139, .ref a140, .int 0, .int 0])), (a149, .inr (6, [.ref a150, .ref a151, .ref a152, .int 0, .ref a153, .int 0, .int 0, .int 0, .int 0, .ref a154, .int 0, .ref a155, .int 0, .int 0, .int 0, .int (-1), .ref a156, .ref a157, .int 0, .ref a158, .ref a159, .ref a160])), (a158, .inl (G.2.1 0, 3, .inl (fun _ => 0)))] H) (hD : va_D (fun q : Nat => s.heap.size ≤ q) [(a1, .inr (5, [.ref a2, .ref a43, .ref a86, .ref a127, .ref a131, .int 0, .int 0, .int (-1)])), (a131, .inl (G.2.1 6, 3, .inr (.inr (.inr (.inr (va_up (va_up (va_up (fun _ => none) 0 (some a132)) 1 (some a135)) 2 (some a138))))))), (a132, .inr (0, [.ref a133, .ref a134, .int 0, .int 0])), (a135, .inr (0, [.ref a136, .ref a137, .int 0, .int 0])), (a138, .inr (0, [.ref a139, .ref a140, .int 0, .int 0])), (a149, .inr (6, [.ref a150, .ref a151, .ref a152, .int 0, .ref a153, .int 0, .int 0, .int 0, .int 0, .ref a154, .int 0, .ref a155, .int 0, .int 0, .int 0, .int (-1), .ref a156, .ref a157, .int 0, .ref a158, .ref a159, .ref a160])), (a158, .inl (G.2.1 0, 3, .inl (fun _ => 0)))]) (hS : va_S (fun q : Nat => s.heap.size ≤ q) s.heap H locs) (ls : Array Slot) (hl : lv_has ls 9 [(5, .int 0), (4, .ref a162), (3, .ref a161), (2, .ref a149), (1, .ref a1), (0, .ref b)]) : W p l e room_1 s m #[Value.ref b] below meth c H locs 482 60053 (lw_Z below #[Value.ref b] s) (F0 m 2433 ls []) := by
  obtain ⟨hx, hb, hr, hml, hown, hts0, hX, hbl, hlocks, hgv⟩ := id C0
  have hts : ∀ w ∈ pxAll, w.before #[Value.ref b] s = true := fun w h => hts0 w (List.mem_filter.mp h).1
  have hA : ∀ q : Nat, s.heap.size ≤ q → (fun q : Nat => s.heap.size ≤ q) q := fun _ h => h
  have hbA : ¬ (fun q : Nat => s.heap.size ≤ q) b := Nat.not_le.mpr hbl
  have hK := hG.1
  obtain ⟨p1, hp1⟩ : ∃ z : Int32, xs 1 = z := ⟨_, rfl⟩
  have r1 := pxRng p1
  obtain ⟨p2, hp2⟩ : ∃ z : Int32, xs 2 = z := ⟨_, rfl⟩
  have r2 := pxRng p2
  refine lv_aload_n hx hb dL_law_2433 rfl (lv_at hl 4 rfl) ?_
  refine lv_aload_n hx hb dL_law_2434 rfl (lv_at hl 5 rfl) ?_
  refine lv_iload hx hb dL_law_2435 (lv_at hl 0 rfl) ?_
  refine lv_iconst (v := 1) hx hb dL_law_2437 (by decide) ?_
  refine lv_iadd hx hb dL_law_2438 ?_
  refine pxTop (w := .int 1) (congrArg Value.int (by decide)) ?_
  refine va_sld hx hb hX hbl hbA hS (show ¬ ((1 : Int32) < 0 ∨ 5 ≤ (1 : Int32).toNatClampNeg) by decide +kernel) dL_law_2439 ?_
  refine pxTop (w := .int p1) (congrArg Value.int hp1) ?_
  refine lv_aload_n hx hb dL_law_2440 rfl (lv_at hl 5 rfl) ?_
  refine lv_iload hx hb dL_law_2441 (lv_at hl 0 rfl) ?_
  refine lv_iconst (v := 2) hx hb dL_law_2443 (by decide) ?_
  refine lv_iadd hx hb dL_law_2444 ?_
  refine pxTop (w := .int 2) (congrArg Value.int (by decide)) ?_
  refine va_sld hx hb hX hbl hbA hS (show ¬ ((2 : Int32) < 0 ∨ 5 ≤ (2 : Int32).toNatClampNeg) by decide +kernel) dL_law_2445 ?_
  refine pxTop (w := .int p2) (congrArg Value.int hp2) ?_
  refine lv_aload_n hx hb dL_law_2446 rfl (lv_at hl 2 rfl) ?_
  rcases Int.lt_or_le p1.toInt 0 with f1 | f1
  · skip
    refine pxCi (vx_runSW (As := [.ref a1, .int p1, .int p2, .ref a161]) (rest := []) ⟨hx, hb, hml, hown, hts⟩ (k310_L_copyDrawer l hl9 G H.size a1 a161 a2 a43 a86 a127 a131 p1 p2 ⟨by omega, by omega⟩) (vx_cwSW 4 hts (pxGS pm704 pm705 pm136 pm706) rfl rfl rfl (by decide +kernel) ⟨(Nat.le_of_ble_eq_true rfl), (Nat.le_of_ble_eq_true rfl)⟩) (pxS hG hZ hP hD hS hA [0] rfl (by decide)) rfl rfl hl.1 rfl (lv_room (Nat.le_of_ble_eq_true rfl)) dL_law_2447 ⟨(Nat.le_of_ble_eq_true rfl), (Nat.le_of_ble_eq_true rfl)⟩) hP hD hS hA [0] [1, 2, 3, 4, 5, 6] rfl rfl (by decide) (by decide) (fun r2 q1 H locs hw hP hD hS => ?_)
    have hw : r2 = 1 := hw
    subst hw
    have hP : va_P G.1 pxCl [(a131, .inl (G.2.1 6, 3, .inr (.inr (.inr (.inr (va_up (va_up (va_up (fun _ => none) 0 (some a132)) 1 (some a135)) 2 (some a138))))))), (a132, .inr (0, [.ref a133, .ref a134, .int 0, .int 0])), (a135, .inr (0, [.ref a136, .ref a137, .int 0, .int 0])), (a138, .inr (0, [.ref a139, .ref a140, .int 0, .int 0])), (a149, .inr (6, [.ref a150, .ref a151, .ref a152, .int 0, .ref a153, .int 0, .int 0, .int 0, .int 0, .ref a154, .int 0, .ref a155, .int 0, .int 0, .int 0, .int (-1), .ref a156, .ref a157, .int 0, .ref a158, .ref a159, .ref a160])), (a158, .inl (G.2.1 0, 3, .inl (fun _ => 0)))] H := hP
    have hD : va_D (fun q : Nat => s.heap.size ≤ q) [(a131, .inl (G.2.1 6, 3, .inr (.inr (.inr (.inr (va_up (va_up (va_up (fun _ => none) 0 (some a132)) 1 (some a135)) 2 (some a138))))))), (a132, .inr (0, [.ref a133, .ref a134, .int 0, .int 0])), (a135, .inr (0, [.ref a136, .ref a137, .int 0, .int 0])), (a138, .inr (0, [.ref a139, .ref a140, .int 0, .int 0])), (a149, .inr (6, [.ref a150, .ref a151, .ref a152, .int 0, .ref a153, .int 0, .int 0, .int 0, .int 0, .ref a154, .int 0, .ref a155, .int 0, .int 0, .int 0, .int (-1), .ref a156, .ref a157, .int 0, .ref a158, .ref a159, .ref a160])), (a158, .inl (G.2.1 0, 3, .inl (fun _ => 0)))] := hD
    refine W.widen (k := 483) (n := 60059) (Nat.le_of_ble_eq_true rfl) (Nat.le_of_ble_eq_true rfl) ?_
    refine lv_istore (lv' := [(6, .int 1), (5, .int 0), (4, .ref a162), (3, .ref a161), (2, .ref a149), (1, .ref a1), (0, .ref b)]) hx hb dL_law_2450 hl (by decide) rfl (fun ls hl => ?_)
    refine lv_aload_n hx hb dL_law_2452 rfl (lv_at hl 4 rfl) ?_
    refine lv_aload_n hx hb dL_law_2453 rfl (lv_at hl 6 rfl) ?_
    refine lv_iload hx hb dL_law_2454 (lv_at hl 1 rfl) ?_
    refine lv_iconst (v := 1) hx hb dL_law_2456 (by decide) ?_
    refine lv_iadd hx hb dL_law_2457 ?_
    refine pxTop (w := .int 1) (congrArg Value.int (by decide)) ?_
    refine va_sld hx hb hX hbl hbA hS (show ¬ ((1 : Int32) < 0 ∨ 5 ≤ (1 : Int32).toNatClampNeg) by decide +kernel) dL_law_2458 ?_
    refine pxTop (w := .int p1) (congrArg Value.int hp1) ?_
    refine lv_aload_n hx hb dL_law_2459 rfl (lv_at hl 6 rfl) ?_
    refine lv_iload hx hb dL_law_2460 (lv_at hl 1 rfl) ?_
    refine lv_iconst (v := 2) hx hb dL_law_2462 (by decide) ?_
    refine lv_iadd hx hb dL_law_2463 ?_
    refine pxTop (w := .int 2) (congrArg Value.int (by decide)) ?_
    refine va_sld hx hb hX hbl hbA hS (show ¬ ((2 : Int32) < 0 ∨ 5 ≤ (2 : Int32).toNatClampNeg) by decide +kernel) dL_law_2464 ?_
    refine pxTop (w := .int p2) (congrArg Value.int hp2) ?_
    refine pxCi (va_runV (As := [.int p1, .int p2]) (rest := []) ⟨hx, hb, hml, hown, hts⟩ (k312_X7_copyDrawer l G H.size a149 a150 a151 a152 a153 a154 a155 a156 a157 a158 a159 a160 p1 p2 ⟨by omega, by omega⟩) (cwV 2 hts (pxGV pm707 pm708 pm709 pm71 pm710) rfl rfl rfl (by decide +kernel) ⟨(Nat.le_of_ble_eq_true rfl), (Nat.le_of_ble_eq_true rfl)⟩) (pxV (ci := 6) (q0 := 4) hG hZ hP hD hS hA [4] rfl (by decide) rfl rfl) rfl rfl hl.1 rfl (lv_room (Nat.le_of_ble_eq_true rfl)) dL_law_2465 ⟨(Nat.le_of_ble_eq_true rfl), (Nat.le_of_ble_eq_true rfl)⟩) hP hD hS hA [4] [0, 1, 2, 3, 5] rfl rfl (by decide) (by decide) (fun r4 q3 H locs hw hP hD hS => ?_)
    have hw : r4 = 0 := hw
    subst hw
    have hP : va_P G.1 pxCl [(a131, .inl (G.2.1 6, 3, .inr (.inr (.inr (.inr (va_up (va_up (va_up (fun _ => none) 0 (some a132)) 1 (some a135)) 2 (some a138))))))), (a132, .inr (0, [.ref a133, .ref a134, .int 0, .int 0])), (a135, .inr (0, [.ref a136, .ref a137, .int 0, .int 0])), (a138, .inr (0, [.ref a139, .ref a140, .int 0, .int 0])), (a158, .inl (G.2.1 0, 3, .inl (fun _ => 0))), (a149, .inr (6, [.ref a150, .ref a151, .ref a152, .int 0, .ref a153, .int 0, .int 0, .int 1, .int 0, .ref a154, .int 0, .ref a155, .int 0, .int 0, .int 0, .int (-1), .ref a156, .ref a157, .int 0, .ref a158, .ref a159, .ref a160]))] H := hP
    have hD : va_D (fun q : Nat => s.heap.size ≤ q) [(a131, .inl (G.2.1 6, 3, .inr (.inr (.inr (.inr (va_up (va_up (va_up (fun _ => none) 0 (some a132)) 1 (some a135)) 2 (some a138))))))), (a132, .inr (0, [.ref a133, .ref a134, .int 0, .int 0])), (a135, .inr (0, [.ref a136, .ref a137, .int 0, .int 0])), (a138, .inr (0, [.ref a139, .ref a140, .int 0, .int 0])), (a158, .inl (G.2.1 0, 3, .inl (fun _ => 0))), (a149, .inr (6, [.ref a150, .ref a151, .ref a152, .int 0, .ref a153, .int 0, .int 0, .int 1, .int 0, .ref a154, .int 0, .ref a155, .int 0, .int 0, .int 0, .int (-1), .ref a156, .ref a157, .int 0, .ref a158, .ref a159, .ref a160]))] := hD
    refine lv_istore (lv' := [(7, .int 0), (6, .int 1), (5, .int 0), (4, .ref a162), (3, .ref a161), (2, .ref a149), (1, .ref a1), (0, .ref b)]) hx hb dL_law_2468 hl (by decide) rfl (fun ls hl => ?_)
    refine lv_aload_n hx hb dL_law_2470 rfl (lv_at hl 5 rfl) ?_
    refine pxCi (va_runV (As := []) (rest := []) ⟨hx, hb, hml, hown, hts⟩ (k158_X7_thrown l G H.size a149 a150 a151 a152 a153 a154 a155 a156 a157 a158 a159 a160) (cwV 0 hts (pxGV pm160 pm161 pm162 pm71 pm163) rfl rfl rfl (by decide +kernel) ⟨(Nat.le_of_ble_eq_true rfl), (Nat.le_of_ble_eq_true rfl)⟩) (pxV (ci := 6) (q0 := 5) hG hZ hP hD hS hA [5] rfl (by decide) rfl rfl) rfl rfl hl.1 rfl (lv_room (Nat.le_of_ble_eq_true rfl)) dL_law_2471 ⟨(Nat.le_of_ble_eq_true rfl), (Nat.le_of_ble_eq_true rfl)⟩) hP hD hS hA [5] [0, 1, 2, 3, 4] rfl rfl (by decide) (by decide) (fun r6 q5 H locs hw hP hD hS => ?_)
    have hw : r6 = 1 := hw
    subst hw
    have hP : va_P G.1 pxCl [(a131, .inl (G.2.1 6, 3, .inr (.inr (.inr (.inr (va_up (va_up (va_up (fun _ => none) 0 (some a132)) 1 (some a135)) 2 (some a138))))))), (a132, .inr (0, [.ref a133, .ref a134, .int 0, .int 0])), (a135, .inr (0, [.ref a136, .ref a137, .int 0, .int 0])), (a138, .inr (0, [.ref a139, .ref a140, .int 0, .int 0])), (a158, .inl (G.2.1 0, 3, .inl (fun _ => 0))), (a149, .inr (6, [.ref a150, .ref a151, .ref a152, .int 0, .ref a153, .int 0, .int 0, .int 1, .int 0, .ref a154, .int 0, .ref a155, .int 0, .int 0, .int 0, .int (-1), .ref a156, .ref a157, .int 0, .ref a158, .ref a159, .ref a160]))] H := hP
    have hD : va_D (fun q : Nat => s.heap.size ≤ q) [(a131, .inl (G.2.1 6, 3, .inr (.inr (.inr (.inr (va_up (va_up (va_up (fun _ => none) 0 (some a132)) 1 (some a135)) 2 (some a138))))))), (a132, .inr (0, [.ref a133, .ref a134, .int 0, .int 0])), (a135, .inr (0, [.ref a136, .ref a137, .int 0, .int 0])), (a138, .inr (0, [.ref a139, .ref a140, .int 0, .int 0])), (a158, .inl (G.2.1 0, 3, .inl (fun _ => 0))), (a149, .inr (6, [.ref a150, .ref a151, .ref a152, .int 0, .ref a153, .int 0, .int 0, .int 1, .int 0, .ref a154, .int 0, .ref a155, .int 0, .int 0, .int 0, .int (-1), .ref a156, .ref a157, .int 0, .ref a158, .ref a159, .ref a160]))] := hD
    refine lv_iload hx hb dL_law_2474 (lv_at hl 1 rfl) ?_
    refine lv_icmp_eq (tgt := 2481) hx hb dL_law_2476 (by decide) (fun _ => ?_) (fun h9 => absurd (by decide) h9)
    refine lv_iload hx hb dL_law_2481 (lv_at hl 1 rfl) ?_
    refine lv_if_ne (tgt := 2498) hx hb dL_law_2483 (by decide) (fun _ => ?_) (fun h9 => absurd h9 (by decide))
    refine lv_goto (tgt := 2658) hx hb dL_law_2498 (by decide) ?_
    refine W.widen (k := 2000) (n := 200000) (Nat.le_of_ble_eq_true rfl) (Nat.le_of_ble_eq_true rfl) ?_
    exact law_tail hl9 G C0 hG hZ H locs hS ls (lv_sub hl [2, 7] rfl)
  · skip
    rcases Int.lt_or_le p1.toInt 3 with f2 | f2
    · skip
      rcases Int.lt_or_le p2.toInt 0 with f3 | f3
      · skip
        refine pxCi (vx_runSW (As := [.ref a1, .int p1, .int p2, .ref a161]) (rest := []) ⟨hx, hb, hml, hown, hts⟩ (k313_L_copyDrawer l hl9 G H.size a1 a161 a2 a43 a86 a127 a131 p1 p2 ⟨by omega, by omega⟩) (vx_cwSW 4 hts (pxGS pm704 pm705 pm136 pm706) rfl rfl rfl (by decide +kernel) ⟨(Nat.le_of_ble_eq_true rfl), (Nat.le_of_ble_eq_true rfl)⟩) (pxS hG hZ hP hD hS hA [0] rfl (by decide)) rfl rfl hl.1 rfl (lv_room (Nat.le_of_ble_eq_true rfl)) dL_law_2447 ⟨(Nat.le_of_ble_eq_true rfl), (Nat.le_of_ble_eq_true rfl)⟩) hP hD hS hA [0] [1, 2, 3, 4, 5, 6] rfl rfl (by decide) (by decide) (fun r2 q1 H locs hw hP hD hS => ?_)
        have hw : r2 = 1 := hw
        subst hw
        have hP : va_P G.1 pxCl [(a131, .inl (G.2.1 6, 3, .inr (.inr (.inr (.inr (va_up (va_up (va_up (fun _ => none) 0 (some a132)) 1 (some a135)) 2 (some a138))))))), (a132, .inr (0, [.ref a133, .ref a134, .int 0, .int 0])), (a135, .inr (0, [.ref a136, .ref a137, .int 0, .int 0])), (a138, .inr (0, [.ref a139, .ref a140, .int 0, .int 0])), (a149, .inr (6, [.ref a150, .ref a151, .ref a152, .int 0, .ref a153, .int 0, .int 0, .int 0, .int 0, .ref a154, .int 0, .ref a155, .int 0, .int 0, .int 0, .int (-1), .ref a156, .ref a157, .int 0, .ref a158, .ref a159, .ref a160])), (a158, .inl (G.2.1 0, 3, .inl (fun _ => 0)))] H := hP
        have hD : va_D (fun q : Nat => s.heap.size ≤ q) [(a131, .inl (G.2.1 6, 3, .inr (.inr (.inr (.inr (va_up (va_up (va_up (fun _ => none) 0 (some a132)) 1 (some a135)) 2 (some a138))))))), (a132, .inr (0, [.ref a133, .ref a134, .int 0, .int 0])), (a135, .inr (0, [.ref a136, .ref a137, .int 0, .int 0])), (a138, .inr (0, [.ref a139, .ref a140, .int 0, .int 0])), (a149, .inr (6, [.ref a150, .ref a151, .ref a152, .int 0, .ref a153, .int 0, .int 0, .int 0, .int 0, .ref a154, .int 0, .ref a155, .int 0, .int 0, .int 0, .int (-1), .ref a156, .ref a157, .int 0, .ref a158, .ref a159, .ref a160])), (a158, .inl (G.2.1 0, 3, .inl (fun _ => 0)))] := hD
        refine W.widen (k := 483) (n := 60059) (Nat.le_of_ble_eq_true rfl) (Nat.le_of_ble_eq_true rfl) ?_
        refine lv_istore (lv' := [(6, .int 1), (5, .int 0), (4, .ref a162), (3, .ref a161), (2, .ref a149), (1, .ref a1), (0, .ref b)]) hx hb dL_law_2450 hl (by decide) rfl (fun ls hl => ?_)
        refine lv_aload_n hx hb dL_law_2452 rfl (lv_at hl 4 rfl) ?_
        refine lv_aload_n hx hb dL_law_2453 rfl (lv_at hl 6 rfl) ?_
        refine lv_iload hx hb dL_law_2454 (lv_at hl 1 rfl) ?_
        refine lv_iconst (v := 1) hx hb dL_law_2456 (by decide) ?_
        refine lv_iadd hx hb dL_law_2457 ?_
        refine pxTop (w := .int 1) (congrArg Value.int (by decide)) ?_
        refine va_sld hx hb hX hbl hbA hS (show ¬ ((1 : Int32) < 0 ∨ 5 ≤ (1 : Int32).toNatClampNeg) by decide +kernel) dL_law_2458 ?_
        refine pxTop (w := .int p1) (congrArg Value.int hp1) ?_
        refine lv_aload_n hx hb dL_law_2459 rfl (lv_at hl 6 rfl) ?_
        refine lv_iload hx hb dL_law_2460 (lv_at hl 1 rfl) ?_
        refine lv_iconst (v := 2) hx hb dL_law_2462 (by decide) ?_
        refine lv_iadd hx hb dL_law_2463 ?_
        refine pxTop (w := .int 2) (congrArg Value.int (by decide)) ?_
        refine va_sld hx hb hX hbl hbA hS (show ¬ ((2 : Int32) < 0 ∨ 5 ≤ (2 : Int32).toNatClampNeg) by decide +kernel) dL_law_2464 ?_
        refine pxTop (w := .int p2) (congrArg Value.int hp2) ?_
        refine pxCi (va_runV (As := [.int p1, .int p2]) (rest := []) ⟨hx, hb, hml, hown, hts⟩ (k315_X7_copyDrawer l G H.size a149 a150 a151 a152 a153 a154 a155 a156 a157 a158 a159 a160 p1 p2 ⟨by omega, by omega⟩) (cwV 2 hts (pxGV pm707 pm708 pm709 pm71 pm710) rfl rfl rfl (by decide +kernel) ⟨(Nat.le_of_ble_eq_true rfl), (Nat.le_of_ble_eq_true rfl)⟩) (pxV (ci := 6) (q0 := 4) hG hZ hP hD hS hA [4] rfl (by decide) rfl rfl) rfl rfl hl.1 rfl (lv_room (Nat.le_of_ble_eq_true rfl)) dL_law_2465 ⟨(Nat.le_of_ble_eq_true rfl), (Nat.le_of_ble_eq_true rfl)⟩) hP hD hS hA [4] [0, 1, 2, 3, 5] rfl rfl (by decide) (by decide) (fun r4 q3 H locs hw hP hD hS => ?_)
        have hw : r4 = 0 := hw
        subst hw
        have hP : va_P G.1 pxCl [(a131, .inl (G.2.1 6, 3, .inr (.inr (.inr (.inr (va_up (va_up (va_up (fun _ => none) 0 (some a132)) 1 (some a135)) 2 (some a138))))))), (a132, .inr (0, [.ref a133, .ref a134, .int 0, .int 0])), (a135, .inr (0, [.ref a136, .ref a137, .int 0, .int 0])), (a138, .inr (0, [.ref a139, .ref a140, .int 0, .int 0])), (a158, .inl (G.2.1 0, 3, .inl (fun _ => 0))), (a149, .inr (6, [.ref a150, .ref a151, .ref a152, .int 0, .ref a153, .int 0, .int 0, .int 1, .int 0, .ref a154, .int 0, .ref a155, .int 0, .int 0, .int 0, .int (-1), .ref a156, .ref a157, .int 0, .ref a158, .ref a159, .ref a160]))] H := hP
        have hD : va_D (fun q : Nat => s.heap.size ≤ q) [(a131, .inl (G.2.1 6, 3, .inr (.inr (.inr (.inr (va_up (va_up (va_up (fun _ => none) 0 (some a132)) 1 (some a135)) 2 (some a138))))))), (a132, .inr (0, [.ref a133, .ref a134, .int 0, .int 0])), (a135, .inr (0, [.ref a136, .ref a137, .int 0, .int 0])), (a138, .inr (0, [.ref a139, .ref a140, .int 0, .int 0])), (a158, .inl (G.2.1 0, 3, .inl (fun _ => 0))), (a149, .inr (6, [.ref a150, .ref a151, .ref a152, .int 0, .ref a153, .int 0, .int 0, .int 1, .int 0, .ref a154, .int 0, .ref a155, .int 0, .int 0, .int 0, .int (-1), .ref a156, .ref a157, .int 0, .ref a158, .ref a159, .ref a160]))] := hD
        refine lv_istore (lv' := [(7, .int 0), (6, .int 1), (5, .int 0), (4, .ref a162), (3, .ref a161), (2, .ref a149), (1, .ref a1), (0, .ref b)]) hx hb dL_law_2468 hl (by decide) rfl (fun ls hl => ?_)
        refine lv_aload_n hx hb dL_law_2470 rfl (lv_at hl 5 rfl) ?_
        refine pxCi (va_runV (As := []) (rest := []) ⟨hx, hb, hml, hown, hts⟩ (k158_X7_thrown l G H.size a149 a150 a151 a152 a153 a154 a155 a156 a157 a158 a159 a160) (cwV 0 hts (pxGV pm160 pm161 pm162 pm71 pm163) rfl rfl rfl (by decide +kernel) ⟨(Nat.le_of_ble_eq_true rfl), (Nat.le_of_ble_eq_true rfl)⟩) (pxV (ci := 6) (q0 := 5) hG hZ hP hD hS hA [5] rfl (by decide) rfl rfl) rfl rfl hl.1 rfl (lv_room (Nat.le_of_ble_eq_true rfl)) dL_law_2471 ⟨(Nat.le_of_ble_eq_true rfl), (Nat.le_of_ble_eq_true rfl)⟩) hP hD hS hA [5] [0, 1, 2, 3, 4] rfl rfl (by decide) (by decide) (fun r6 q5 H locs hw hP hD hS => ?_)
        have hw : r6 = 1 := hw
        subst hw
        have hP : va_P G.1 pxCl [(a131, .inl (G.2.1 6, 3, .inr (.inr (.inr (.inr (va_up (va_up (va_up (fun _ => none) 0 (some a132)) 1 (some a135)) 2 (some a138))))))), (a132, .inr (0, [.ref a133, .ref a134, .int 0, .int 0])), (a135, .inr (0, [.ref a136, .ref a137, .int 0, .int 0])), (a138, .inr (0, [.ref a139, .ref a140, .int 0, .int 0])), (a158, .inl (G.2.1 0, 3, .inl (fun _ => 0))), (a149, .inr (6, [.ref a150, .ref a151, .ref a152, .int 0, .ref a153, .int 0, .int 0, .int 1, .int 0, .ref a154, .int 0, .ref a155, .int 0, .int 0, .int 0, .int (-1), .ref a156, .ref a157, .int 0, .ref a158, .ref a159, .ref a160]))] H := hP
        have hD : va_D (fun q : Nat => s.heap.size ≤ q) [(a131, .inl (G.2.1 6, 3, .inr (.inr (.inr (.inr (va_up (va_up (va_up (fun _ => none) 0 (some a132)) 1 (some a135)) 2 (some a138))))))), (a132, .inr (0, [.ref a133, .ref a134, .int 0, .int 0])), (a135, .inr (0, [.ref a136, .ref a137, .int 0, .int 0])), (a138, .inr (0, [.ref a139, .ref a140, .int 0, .int 0])), (a158, .inl (G.2.1 0, 3, .inl (fun _ => 0))), (a149, .inr (6, [.ref a150, .ref a151, .ref a152, .int 0, .ref a153, .int 0, .int 0, .int 1, .int 0, .ref a154, .int 0, .ref a155, .int 0, .int 0, .int 0, .int (-1), .ref a156, .ref a157, .int 0, .ref a158, .ref a159, .ref a160]))] := hD
        refine lv_iload hx hb dL_law_2474 (lv_at hl 1 rfl) ?_
        refine lv_icmp_eq (tgt := 2481) hx hb dL_law_2476 (by decide) (fun _ => ?_) (fun h9 => absurd (by decide) h9)
        refine lv_iload hx hb dL_law_2481 (lv_at hl 1 rfl) ?_
        refine lv_if_ne (tgt := 2498) hx hb dL_law_2483 (by decide) (fun _ => ?_) (fun h9 => absurd h9 (by decide))
        refine lv_goto (tgt := 2658) hx hb dL_law_2498 (by decide) ?_
        refine W.widen (k := 2000) (n := 200000) (Nat.le_of_ble_eq_true rfl) (Nat.le_of_ble_eq_true rfl) ?_
        exact law_tail hl9 G C0 hG hZ H locs hS ls (lv_sub hl [2, 7] rfl)
      · skip
        rcases Int.lt_or_le p2.toInt 3 with f4 | f4
        · skip
          refine pxCi (vx_runSW (As := [.ref a1, .int p1, .int p2, .ref a161]) (rest := []) ⟨hx, hb, hml, hown, hts⟩ (k316_L_copyDrawer l hl9 G H.size a1 a131 a132 a135 a138 a161 a2 a43 a86 a127 a133 a134 a136 a137 a139 a140 p1 p2 ⟨by omega, by omega⟩ ⟨by omega, by omega⟩) (vx_cwSW 4 hts (pxGS pm704 pm705 pm136 pm706) rfl rfl rfl (by decide +kernel) ⟨(Nat.le_of_ble_eq_true rfl), (Nat.le_of_ble_eq_true rfl)⟩) (pxS hG hZ hP hD hS hA [0, 1, 2, 3, 4] rfl (by decide)) rfl rfl hl.1 rfl (lv_room (Nat.le_of_ble_eq_true rfl)) dL_law_2447 ⟨(Nat.le_of_ble_eq_true rfl), (Nat.le_of_ble_eq_true rfl)⟩) hP hD hS hA [0, 1, 2, 3, 4] [5, 6] rfl rfl (by decide) (by decide) (fun r2 q1 H locs hw hP hD hS => ?_)
          have hw : r2 = 2 := hw
          subst hw
          have hP : va_P G.1 pxCl [(a149, .inr (6, [.ref a150, .ref a151, .ref a152, .int 0, .ref a153, .int 0, .int 0, .int 0, .int 0, .ref a154, .int 0, .ref a155, .int 0, .int 0, .int 0, .int (-1), .ref a156, .ref a157, .int 0, .ref a158, .ref a159, .ref a160])), (a158, .inl (G.2.1 0, 3, .inl (fun _ => 0)))] H := hP
          have hD : va_D (fun q : Nat => s.heap.size ≤ q) [(a149, .inr (6, [.ref a150, .ref a151, .ref a152, .int 0, .ref a153, .int 0, .int 0, .int 0, .int 0, .ref a154, .int 0, .ref a155, .int 0, .int 0, .int 0, .int (-1), .ref a156, .ref a157, .int 0, .ref a158, .ref a159, .ref a160])), (a158, .inl (G.2.1 0, 3, .inl (fun _ => 0)))] := hD
          refine W.widen (k := 483) (n := 60059) (Nat.le_of_ble_eq_true rfl) (Nat.le_of_ble_eq_true rfl) ?_
          refine lv_istore (lv' := [(6, .int 2), (5, .int 0), (4, .ref a162), (3, .ref a161), (2, .ref a149), (1, .ref a1), (0, .ref b)]) hx hb dL_law_2450 hl (by decide) rfl (fun ls hl => ?_)
          refine lv_aload_n hx hb dL_law_2452 rfl (lv_at hl 4 rfl) ?_
          refine lv_aload_n hx hb dL_law_2453 rfl (lv_at hl 6 rfl) ?_
          refine lv_iload hx hb dL_law_2454 (lv_at hl 1 rfl) ?_
          refine lv_iconst (v := 1) hx hb dL_law_2456 (by decide) ?_
          refine lv_iadd hx hb dL_law_2457 ?_
          refine pxTop (w := .int 1) (congrArg Value.int (by decide)) ?_
          refine va_sld hx hb hX hbl hbA hS (show ¬ ((1 : Int32) < 0 ∨ 5 ≤ (1 : Int32).toNatClampNeg) by decide +kernel) dL_law_2458 ?_
          refine pxTop (w := .int p1) (congrArg Value.int hp1) ?_
          refine lv_aload_n hx hb dL_law_2459 rfl (lv_at hl 6 rfl) ?_
          refine lv_iload hx hb dL_law_2460 (lv_at hl 1 rfl) ?_
          refine lv_iconst (v := 2) hx hb dL_law_2462 (by decide) ?_
          refine lv_iadd hx hb dL_law_2463 ?_
          refine pxTop (w := .int 2) (congrArg Value.int (by decide)) ?_
          refine va_sld hx hb hX hbl hbA hS (show ¬ ((2 : Int32) < 0 ∨ 5 ≤ (2 : Int32).toNatClampNeg) by decide +kernel) dL_law_2464 ?_
          refine pxTop (w := .int p2) (congrArg Value.int hp2) ?_
          refine pxCi (va_runV (As := [.int p1, .int p2]) (rest := []) ⟨hx, hb, hml, hown, hts⟩ (k318_X7_copyDrawer l G H.size a149 a158 a150 a151 a152 a153 a154 a155 a156 a157 a159 a160 p1 p2 ⟨by omega, by omega⟩ ⟨by omega, by omega⟩) (cwV 2 hts (pxGV pm707 pm708 pm709 pm71 pm710) rfl rfl rfl (by decide +kernel) ⟨(Nat.le_of_ble_eq_true rfl), (Nat.le_of_ble_eq_true rfl)⟩) (pxV (ci := 6) (q0 := 0) hG hZ hP hD hS hA [0, 1] rfl (by decide) rfl rfl) rfl rfl hl.1 rfl (lv_room (Nat.le_of_ble_eq_true rfl)) dL_law_2465 ⟨(Nat.le_of_ble_eq_true rfl), (Nat.le_of_ble_eq_true rfl)⟩) hP hD hS hA [0, 1] [] rfl rfl (by decide) (by decide) (fun r4 q3 H locs hw hP hD hS => ?_)
          have hw : r4 = 0 := hw
          subst hw
          have hP : va_P G.1 pxCl [(a149, .inr (6, [.ref a150, .ref a151, .ref a152, .int 0, .ref a153, .int 0, .int 0, .int 2, .int 0, .ref a154, .int 0, .ref a155, .int 0, .int 0, .int 0, .int (-1), .ref a156, .ref a157, .int 0, .ref a158, .ref a159, .ref a160]))] H := hP
          have hD : va_D (fun q : Nat => s.heap.size ≤ q) [(a149, .inr (6, [.ref a150, .ref a151, .ref a152, .int 0, .ref a153, .int 0, .int 0, .int 2, .int 0, .ref a154, .int 0, .ref a155, .int 0, .int 0, .int 0, .int (-1), .ref a156, .ref a157, .int 0, .ref a158, .ref a159, .ref a160]))] := hD
          refine lv_istore (lv' := [(7, .int 0), (6, .int 2), (5, .int 0), (4, .ref a162), (3, .ref a161), (2, .ref a149), (1, .ref a1), (0, .ref b)]) hx hb dL_law_2468 hl (by decide) rfl (fun ls hl => ?_)
          refine lv_aload_n hx hb dL_law_2470 rfl (lv_at hl 5 rfl) ?_
          refine pxCi (va_runV (As := []) (rest := []) ⟨hx, hb, hml, hown, hts⟩ (k240_X7_thrown l G H.size a149 a150 a151 a152 a153 a154 a155 a156 a157 a158 a159 a160) (cwV 0 hts (pxGV pm160 pm161 pm162 pm71 pm163) rfl rfl rfl (by decide +kernel) ⟨(Nat.le_of_ble_eq_true rfl), (Nat.le_of_ble_eq_true rfl)⟩) (pxV (ci := 6) (q0 := 0) hG hZ hP hD hS hA [0] rfl (by decide) rfl rfl) rfl rfl hl.1 rfl (lv_room (Nat.le_of_ble_eq_true rfl)) dL_law_2471 ⟨(Nat.le_of_ble_eq_true rfl), (Nat.le_of_ble_eq_true rfl)⟩) hP hD hS hA [0] [] rfl rfl (by decide) (by decide) (fun r6 q5 H locs hw hP hD hS => ?_)
          have hw : r6 = 2 := hw
          subst hw
          have hP : va_P G.1 pxCl [(a149, .inr (6, [.ref a150, .ref a151, .ref a152, .int 0, .ref a153, .int 0, .int 0, .int 2, .int 0, .ref a154, .int 0, .ref a155, .int 0, .int 0, .int 0, .int (-1), .ref a156, .ref a157, .int 0, .ref a158, .ref a159, .ref a160]))] H := hP
          have hD : va_D (fun q : Nat => s.heap.size ≤ q) [(a149, .inr (6, [.ref a150, .ref a151, .ref a152, .int 0, .ref a153, .int 0, .int 0, .int 2, .int 0, .ref a154, .int 0, .ref a155, .int 0, .int 0, .int 0, .int (-1), .ref a156, .ref a157, .int 0, .ref a158, .ref a159, .ref a160]))] := hD
          refine lv_iload hx hb dL_law_2474 (lv_at hl 1 rfl) ?_
          refine lv_icmp_eq (tgt := 2481) hx hb dL_law_2476 (by decide) (fun _ => ?_) (fun h9 => absurd (by decide) h9)
          refine lv_iload hx hb dL_law_2481 (lv_at hl 1 rfl) ?_
          refine lv_if_ne (tgt := 2498) hx hb dL_law_2483 (by decide) (fun _ => ?_) (fun h9 => absurd h9 (by decide))
          refine lv_goto (tgt := 2658) hx hb dL_law_2498 (by decide) ?_
          refine W.widen (k := 2000) (n := 200000) (Nat.le_of_ble_eq_true rfl) (Nat.le_of_ble_eq_true rfl) ?_
          exact law_tail hl9 G C0 hG hZ H locs hS ls (lv_sub hl [2, 7] rfl)
        · skip
          refine pxCi (vx_runSW (As := [.ref a1, .int p1, .int p2, .ref a161]) (rest := []) ⟨hx, hb, hml, hown, hts⟩ (k319_L_copyDrawer l hl9 G H.size a1 a161 a2 a43 a86 a127 a131 p1 p2 ⟨by omega, by omega⟩) (vx_cwSW 4 hts (pxGS pm704 pm705 pm136 pm706) rfl rfl rfl (by decide +kernel) ⟨(Nat.le_of_ble_eq_true rfl), (Nat.le_of_ble_eq_true rfl)⟩) (pxS hG hZ hP hD hS hA [0] rfl (by decide)) rfl rfl hl.1 rfl (lv_room (Nat.le_of_ble_eq_true rfl)) dL_law_2447 ⟨(Nat.le_of_ble_eq_true rfl), (Nat.le_of_ble_eq_true rfl)⟩) hP hD hS hA [0] [1, 2, 3, 4, 5, 6] rfl rfl (by decide) (by decide) (fun r2 q1 H locs hw hP hD hS => ?_)
          have hw : r2 = 1 := hw
          subst hw
          have hP : va_P G.1 pxCl [(a131, .inl (G.2.1 6, 3, .inr (.inr (.inr (.inr (va_up (va_up (va_up (fun _ => none) 0 (some a132)) 1 (some a135)) 2 (some a138))))))), (a132, .inr (0, [.ref a133, .ref a134, .int 0, .int 0])), (a135, .inr (0, [.ref a136, .ref a137, .int 0, .int 0])), (a138, .inr (0, [.ref a139, .ref a140, .int 0, .int 0])), (a149, .inr (6, [.ref a150, .ref a151, .ref a152, .int 0, .ref a153, .int 0, .int 0, .int 0, .int 0, .ref a154, .int 0, .ref a155, .int 0, .int 0, .int 0, .int (-1), .ref a156, .ref a157, .int 0, .ref a158, .ref a159, .ref a160])), (a158, .inl (G.2.1 0, 3, .inl (fun _ => 0)))] H := hP
          have hD : va_D (fun q : Nat => s.heap.size ≤ q) [(a131, .inl (G.2.1 6, 3, .inr (.inr (.inr (.inr (va_up (va_up (va_up (fun _ => none) 0 (some a132)) 1 (some a135)) 2 (some a138))))))), (a132, .inr (0, [.ref a133, .ref a134, .int 0, .int 0])), (a135, .inr (0, [.ref a136, .ref a137, .int 0, .int 0])), (a138, .inr (0, [.ref a139, .ref a140, .int 0, .int 0])), (a149, .inr (6, [.ref a150, .ref a151, .ref a152, .int 0, .ref a153, .int 0, .int 0, .int 0, .int 0, .ref a154, .int 0, .ref a155, .int 0, .int 0, .int 0, .int (-1), .ref a156, .ref a157, .int 0, .ref a158, .ref a159, .ref a160])), (a158, .inl (G.2.1 0, 3, .inl (fun _ => 0)))] := hD
          refine W.widen (k := 483) (n := 60059) (Nat.le_of_ble_eq_true rfl) (Nat.le_of_ble_eq_true rfl) ?_
          refine lv_istore (lv' := [(6, .int 1), (5, .int 0), (4, .ref a162), (3, .ref a161), (2, .ref a149), (1, .ref a1), (0, .ref b)]) hx hb dL_law_2450 hl (by decide) rfl (fun ls hl => ?_)
          refine lv_aload_n hx hb dL_law_2452 rfl (lv_at hl 4 rfl) ?_
          refine lv_aload_n hx hb dL_law_2453 rfl (lv_at hl 6 rfl) ?_
          refine lv_iload hx hb dL_law_2454 (lv_at hl 1 rfl) ?_
          refine lv_iconst (v := 1) hx hb dL_law_2456 (by decide) ?_
          refine lv_iadd hx hb dL_law_2457 ?_
          refine pxTop (w := .int 1) (congrArg Value.int (by decide)) ?_
          refine va_sld hx hb hX hbl hbA hS (show ¬ ((1 : Int32) < 0 ∨ 5 ≤ (1 : Int32).toNatClampNeg) by decide +kernel) dL_law_2458 ?_
          refine pxTop (w := .int p1) (congrArg Value.int hp1) ?_
          refine lv_aload_n hx hb dL_law_2459 rfl (lv_at hl 6 rfl) ?_
          refine lv_iload hx hb dL_law_2460 (lv_at hl 1 rfl) ?_
          refine lv_iconst (v := 2) hx hb dL_law_2462 (by decide) ?_
          refine lv_iadd hx hb dL_law_2463 ?_
          refine pxTop (w := .int 2) (congrArg Value.int (by decide)) ?_
          refine va_sld hx hb hX hbl hbA hS (show ¬ ((2 : Int32) < 0 ∨ 5 ≤ (2 : Int32).toNatClampNeg) by decide +kernel) dL_law_2464 ?_
          refine pxTop (w := .int p2) (congrArg Value.int hp2) ?_
          refine pxCi (va_runV (As := [.int p1, .int p2]) (rest := []) ⟨hx, hb, hml, hown, hts⟩ (k321_X7_copyDrawer l G H.size a149 a150 a151 a152 a153 a154 a155 a156 a157 a158 a159 a160 p1 p2 ⟨by omega, by omega⟩) (cwV 2 hts (pxGV pm707 pm708 pm709 pm71 pm710) rfl rfl rfl (by decide +kernel) ⟨(Nat.le_of_ble_eq_true rfl), (Nat.le_of_ble_eq_true rfl)⟩) (pxV (ci := 6) (q0 := 4) hG hZ hP hD hS hA [4] rfl (by decide) rfl rfl) rfl rfl hl.1 rfl (lv_room (Nat.le_of_ble_eq_true rfl)) dL_law_2465 ⟨(Nat.le_of_ble_eq_true rfl), (Nat.le_of_ble_eq_true rfl)⟩) hP hD hS hA [4] [0, 1, 2, 3, 5] rfl rfl (by decide) (by decide) (fun r4 q3 H locs hw hP hD hS => ?_)
          have hw : r4 = 0 := hw
          subst hw
          have hP : va_P G.1 pxCl [(a131, .inl (G.2.1 6, 3, .inr (.inr (.inr (.inr (va_up (va_up (va_up (fun _ => none) 0 (some a132)) 1 (some a135)) 2 (some a138))))))), (a132, .inr (0, [.ref a133, .ref a134, .int 0, .int 0])), (a135, .inr (0, [.ref a136, .ref a137, .int 0, .int 0])), (a138, .inr (0, [.ref a139, .ref a140, .int 0, .int 0])), (a158, .inl (G.2.1 0, 3, .inl (fun _ => 0))), (a149, .inr (6, [.ref a150, .ref a151, .ref a152, .int 0, .ref a153, .int 0, .int 0, .int 1, .int 0, .ref a154, .int 0, .ref a155, .int 0, .int 0, .int 0, .int (-1), .ref a156, .ref a157, .int 0, .ref a158, .ref a159, .ref a160]))] H := hP
          have hD : va_D (fun q : Nat => s.heap.size ≤ q) [(a131, .inl (G.2.1 6, 3, .inr (.inr (.inr (.inr (va_up (va_up (va_up (fun _ => none) 0 (some a132)) 1 (some a135)) 2 (some a138))))))), (a132, .inr (0, [.ref a133, .ref a134, .int 0, .int 0])), (a135, .inr (0, [.ref a136, .ref a137, .int 0, .int 0])), (a138, .inr (0, [.ref a139, .ref a140, .int 0, .int 0])), (a158, .inl (G.2.1 0, 3, .inl (fun _ => 0))), (a149, .inr (6, [.ref a150, .ref a151, .ref a152, .int 0, .ref a153, .int 0, .int 0, .int 1, .int 0, .ref a154, .int 0, .ref a155, .int 0, .int 0, .int 0, .int (-1), .ref a156, .ref a157, .int 0, .ref a158, .ref a159, .ref a160]))] := hD
          refine lv_istore (lv' := [(7, .int 0), (6, .int 1), (5, .int 0), (4, .ref a162), (3, .ref a161), (2, .ref a149), (1, .ref a1), (0, .ref b)]) hx hb dL_law_2468 hl (by decide) rfl (fun ls hl => ?_)
          refine lv_aload_n hx hb dL_law_2470 rfl (lv_at hl 5 rfl) ?_
          refine pxCi (va_runV (As := []) (rest := []) ⟨hx, hb, hml, hown, hts⟩ (k158_X7_thrown l G H.size a149 a150 a151 a152 a153 a154 a155 a156 a157 a158 a159 a160) (cwV 0 hts (pxGV pm160 pm161 pm162 pm71 pm163) rfl rfl rfl (by decide +kernel) ⟨(Nat.le_of_ble_eq_true rfl), (Nat.le_of_ble_eq_true rfl)⟩) (pxV (ci := 6) (q0 := 5) hG hZ hP hD hS hA [5] rfl (by decide) rfl rfl) rfl rfl hl.1 rfl (lv_room (Nat.le_of_ble_eq_true rfl)) dL_law_2471 ⟨(Nat.le_of_ble_eq_true rfl), (Nat.le_of_ble_eq_true rfl)⟩) hP hD hS hA [5] [0, 1, 2, 3, 4] rfl rfl (by decide) (by decide) (fun r6 q5 H locs hw hP hD hS => ?_)
          have hw : r6 = 1 := hw
          subst hw
          have hP : va_P G.1 pxCl [(a131, .inl (G.2.1 6, 3, .inr (.inr (.inr (.inr (va_up (va_up (va_up (fun _ => none) 0 (some a132)) 1 (some a135)) 2 (some a138))))))), (a132, .inr (0, [.ref a133, .ref a134, .int 0, .int 0])), (a135, .inr (0, [.ref a136, .ref a137, .int 0, .int 0])), (a138, .inr (0, [.ref a139, .ref a140, .int 0, .int 0])), (a158, .inl (G.2.1 0, 3, .inl (fun _ => 0))), (a149, .inr (6, [.ref a150, .ref a151, .ref a152, .int 0, .ref a153, .int 0, .int 0, .int 1, .int 0, .ref a154, .int 0, .ref a155, .int 0, .int 0, .int 0, .int (-1), .ref a156, .ref a157, .int 0, .ref a158, .ref a159, .ref a160]))] H := hP
          have hD : va_D (fun q : Nat => s.heap.size ≤ q) [(a131, .inl (G.2.1 6, 3, .inr (.inr (.inr (.inr (va_up (va_up (va_up (fun _ => none) 0 (some a132)) 1 (some a135)) 2 (some a138))))))), (a132, .inr (0, [.ref a133, .ref a134, .int 0, .int 0])), (a135, .inr (0, [.ref a136, .ref a137, .int 0, .int 0])), (a138, .inr (0, [.ref a139, .ref a140, .int 0, .int 0])), (a158, .inl (G.2.1 0, 3, .inl (fun _ => 0))), (a149, .inr (6, [.ref a150, .ref a151, .ref a152, .int 0, .ref a153, .int 0, .int 0, .int 1, .int 0, .ref a154, .int 0, .ref a155, .int 0, .int 0, .int 0, .int (-1), .ref a156, .ref a157, .int 0, .ref a158, .ref a159, .ref a160]))] := hD
          refine lv_iload hx hb dL_law_2474 (lv_at hl 1 rfl) ?_
          refine lv_icmp_eq (tgt := 2481) hx hb dL_law_2476 (by decide) (fun _ => ?_) (fun h9 => absurd (by decide) h9)
          refine lv_iload hx hb dL_law_2481 (lv_at hl 1 rfl) ?_
          refine lv_if_ne (tgt := 2498) hx hb dL_law_2483 (by decide) (fun _ => ?_) (fun h9 => absurd h9 (by decide))
          refine lv_goto (tgt := 2658) hx hb dL_law_2498 (by decide) ?_
          refine W.widen (k := 2000) (n := 200000) (Nat.le_of_ble_eq_true rfl) (Nat.le_of_ble_eq_true rfl) ?_
          exact law_tail hl9 G C0 hG hZ H locs hS ls (lv_sub hl [2, 7] rfl)
    · skip
      refine pxCi (vx_runSW (As := [.ref a1, .int p1, .int p2, .ref a161]) (rest := []) ⟨hx, hb, hml, hown, hts⟩ (k322_L_copyDrawer l hl9 G H.size a1 a161 a2 a43 a86 a127 a131 p1 p2 ⟨by omega, by omega⟩) (vx_cwSW 4 hts (pxGS pm704 pm705 pm136 pm706) rfl rfl rfl (by decide +kernel) ⟨(Nat.le_of_ble_eq_true rfl), (Nat.le_of_ble_eq_true rfl)⟩) (pxS hG hZ hP hD hS hA [0] rfl (by decide)) rfl rfl hl.1 rfl (lv_room (Nat.le_of_ble_eq_true rfl)) dL_law_2447 ⟨(Nat.le_of_ble_eq_true rfl), (Nat.le_of_ble_eq_true rfl)⟩) hP hD hS hA [0] [1, 2, 3, 4, 5, 6] rfl rfl (by decide) (by decide) (fun r2 q1 H locs hw hP hD hS => ?_)
      have hw : r2 = 1 := hw
      subst hw
      have hP : va_P G.1 pxCl [(a131, .inl (G.2.1 6, 3, .inr (.inr (.inr (.inr (va_up (va_up (va_up (fun _ => none) 0 (some a132)) 1 (some a135)) 2 (some a138))))))), (a132, .inr (0, [.ref a133, .ref a134, .int 0, .int 0])), (a135, .inr (0, [.ref a136, .ref a137, .int 0, .int 0])), (a138, .inr (0, [.ref a139, .ref a140, .int 0, .int 0])), (a149, .inr (6, [.ref a150, .ref a151, .ref a152, .int 0, .ref a153, .int 0, .int 0, .int 0, .int 0, .ref a154, .int 0, .ref a155, .int 0, .int 0, .int 0, .int (-1), .ref a156, .ref a157, .int 0, .ref a158, .ref a159, .ref a160])), (a158, .inl (G.2.1 0, 3, .inl (fun _ => 0)))] H := hP
      have hD : va_D (fun q : Nat => s.heap.size ≤ q) [(a131, .inl (G.2.1 6, 3, .inr (.inr (.inr (.inr (va_up (va_up (va_up (fun _ => none) 0 (some a132)) 1 (some a135)) 2 (some a138))))))), (a132, .inr (0, [.ref a133, .ref a134, .int 0, .int 0])), (a135, .inr (0, [.ref a136, .ref a137, .int 0, .int 0])), (a138, .inr (0, [.ref a139, .ref a140, .int 0, .int 0])), (a149, .inr (6, [.ref a150, .ref a151, .ref a152, .int 0, .ref a153, .int 0, .int 0, .int 0, .int 0, .ref a154, .int 0, .ref a155, .int 0, .int 0, .int 0, .int (-1), .ref a156, .ref a157, .int 0, .ref a158, .ref a159, .ref a160])), (a158, .inl (G.2.1 0, 3, .inl (fun _ => 0)))] := hD
      refine W.widen (k := 483) (n := 60059) (Nat.le_of_ble_eq_true rfl) (Nat.le_of_ble_eq_true rfl) ?_
      refine lv_istore (lv' := [(6, .int 1), (5, .int 0), (4, .ref a162), (3, .ref a161), (2, .ref a149), (1, .ref a1), (0, .ref b)]) hx hb dL_law_2450 hl (by decide) rfl (fun ls hl => ?_)
      refine lv_aload_n hx hb dL_law_2452 rfl (lv_at hl 4 rfl) ?_
      refine lv_aload_n hx hb dL_law_2453 rfl (lv_at hl 6 rfl) ?_
      refine lv_iload hx hb dL_law_2454 (lv_at hl 1 rfl) ?_
      refine lv_iconst (v := 1) hx hb dL_law_2456 (by decide) ?_
      refine lv_iadd hx hb dL_law_2457 ?_
      refine pxTop (w := .int 1) (congrArg Value.int (by decide)) ?_
      refine va_sld hx hb hX hbl hbA hS (show ¬ ((1 : Int32) < 0 ∨ 5 ≤ (1 : Int32).toNatClampNeg) by decide +kernel) dL_law_2458 ?_
      refine pxTop (w := .int p1) (congrArg Value.int hp1) ?_
      refine lv_aload_n hx hb dL_law_2459 rfl (lv_at hl 6 rfl) ?_
      refine lv_iload hx hb dL_law_2460 (lv_at hl 1 rfl) ?_
      refine lv_iconst (v := 2) hx hb dL_law_2462 (by decide) ?_
      refine lv_iadd hx hb dL_law_2463 ?_
      refine pxTop (w := .int 2) (congrArg Value.int (by decide)) ?_
      refine va_sld hx hb hX hbl hbA hS (show ¬ ((2 : Int32) < 0 ∨ 5 ≤ (2 : Int32).toNatClampNeg) by decide +kernel) dL_law_2464 ?_
      refine pxTop (w := .int p2) (congrArg Value.int hp2) ?_
      refine pxCi (va_runV (As := [.int p1, .int p2]) (rest := []) ⟨hx, hb, hml, hown, hts⟩ (k324_X7_copyDrawer l G H.size a149 a150 a151 a152 a153 a154 a155 a156 a157 a158 a159 a160 p1 p2 ⟨by omega, by omega⟩) (cwV 2 hts (pxGV pm707 pm708 pm709 pm71 pm710) rfl rfl rfl (by decide +kernel) ⟨(Nat.le_of_ble_eq_true rfl), (Nat.le_of_ble_eq_true rfl)⟩) (pxV (ci := 6) (q0 := 4) hG hZ hP hD hS hA [4] rfl (by decide) rfl rfl) rfl rfl hl.1 rfl (lv_room (Nat.le_of_ble_eq_true rfl)) dL_law_2465 ⟨(Nat.le_of_ble_eq_true rfl), (Nat.le_of_ble_eq_true rfl)⟩) hP hD hS hA [4] [0, 1, 2, 3, 5] rfl rfl (by decide) (by decide) (fun r4 q3 H locs hw hP hD hS => ?_)
      have hw : r4 = 0 := hw
      subst hw
      have hP : va_P G.1 pxCl [(a131, .inl (G.2.1 6, 3, .inr (.inr (.inr (.inr (va_up (va_up (va_up (fun _ => none) 0 (some a132)) 1 (some a135)) 2 (some a138))))))), (a132, .inr (0, [.ref a133, .ref a134, .int 0, .int 0])), (a135, .inr (0, [.ref a136, .ref a137, .int 0, .int 0])), (a138, .inr (0, [.ref a139, .ref a140, .int 0, .int 0])), (a158, .inl (G.2.1 0, 3, .inl (fun _ => 0))), (a149, .inr (6, [.ref a150, .ref a151, .ref a152, .int 0, .ref a153, .int 0, .int 0, .int 1, .int 0, .ref a154, .int 0, .ref a155, .int 0, .int 0, .int 0, .int (-1), .ref a156, .ref a157, .int 0, .ref a158, .ref a159, .ref a160]))] H := hP
      have hD : va_D (fun q : Nat => s.heap.size ≤ q) [(a131, .inl (G.2.1 6, 3, .inr (.inr (.inr (.inr (va_up (va_up (va_up (fun _ => none) 0 (some a132)) 1 (some a135)) 2 (some a138))))))), (a132, .inr (0, [.ref a133, .ref a134, .int 0, .int 0])), (a135, .inr (0, [.ref a136, .ref a137, .int 0, .int 0])), (a138, .inr (0, [.ref a139, .ref a140, .int 0, .int 0])), (a158, .inl (G.2.1 0, 3, .inl (fun _ => 0))), (a149, .inr (6, [.ref a150, .ref a151, .ref a152, .int 0, .ref a153, .int 0, .int 0, .int 1, .int 0, .ref a154, .int 0, .ref a155, .int 0, .int 0, .int 0, .int (-1), .ref a156, .ref a157, .int 0, .ref a158, .ref a159, .ref a160]))] := hD
      refine lv_istore (lv' := [(7, .int 0), (6, .int 1), (5, .int 0), (4, .ref a162), (3, .ref a161), (2, .ref a149), (1, .ref a1), (0, .ref b)]) hx hb dL_law_2468 hl (by decide) rfl (fun ls hl => ?_)
      refine lv_aload_n hx hb dL_law_2470 rfl (lv_at hl 5 rfl) ?_
      refine pxCi (va_runV (As := []) (rest := []) ⟨hx, hb, hml, hown, hts⟩ (k158_X7_thrown l G H.size a149 a150 a151 a152 a153 a154 a155 a156 a157 a158 a159 a160) (cwV 0 hts (pxGV pm160 pm161 pm162 pm71 pm163) rfl rfl rfl (by decide +kernel) ⟨(Nat.le_of_ble_eq_true rfl), (Nat.le_of_ble_eq_true rfl)⟩) (pxV (ci := 6) (q0 := 5) hG hZ hP hD hS hA [5] rfl (by decide) rfl rfl) rfl rfl hl.1 rfl (lv_room (Nat.le_of_ble_eq_true rfl)) dL_law_2471 ⟨(Nat.le_of_ble_eq_true rfl), (Nat.le_of_ble_eq_true rfl)⟩) hP hD hS hA [5] [0, 1, 2, 3, 4] rfl rfl (by decide) (by decide) (fun r6 q5 H locs hw hP hD hS => ?_)
      have hw : r6 = 1 := hw
      subst hw
      have hP : va_P G.1 pxCl [(a131, .inl (G.2.1 6, 3, .inr (.inr (.inr (.inr (va_up (va_up (va_up (fun _ => none) 0 (some a132)) 1 (some a135)) 2 (some a138))))))), (a132, .inr (0, [.ref a133, .ref a134, .int 0, .int 0])), (a135, .inr (0, [.ref a136, .ref a137, .int 0, .int 0])), (a138, .inr (0, [.ref a139, .ref a140, .int 0, .int 0])), (a158, .inl (G.2.1 0, 3, .inl (fun _ => 0))), (a149, .inr (6, [.ref a150, .ref a151, .ref a152, .int 0, .ref a153, .int 0, .int 0, .int 1, .int 0, .ref a154, .int 0, .ref a155, .int 0, .int 0, .int 0, .int (-1), .ref a156, .ref a157, .int 0, .ref a158, .ref a159, .ref a160]))] H := hP
      have hD : va_D (fun q : Nat => s.heap.size ≤ q) [(a131, .inl (G.2.1 6, 3, .inr (.inr (.inr (.inr (va_up (va_up (va_up (fun _ => none) 0 (some a132)) 1 (some a135)) 2 (some a138))))))), (a132, .inr (0, [.ref a133, .ref a134, .int 0, .int 0])), (a135, .inr (0, [.ref a136, .ref a137, .int 0, .int 0])), (a138, .inr (0, [.ref a139, .ref a140, .int 0, .int 0])), (a158, .inl (G.2.1 0, 3, .inl (fun _ => 0))), (a149, .inr (6, [.ref a150, .ref a151, .ref a152, .int 0, .ref a153, .int 0, .int 0, .int 1, .int 0, .ref a154, .int 0, .ref a155, .int 0, .int 0, .int 0, .int (-1), .ref a156, .ref a157, .int 0, .ref a158, .ref a159, .ref a160]))] := hD
      refine lv_iload hx hb dL_law_2474 (lv_at hl 1 rfl) ?_
      refine lv_icmp_eq (tgt := 2481) hx hb dL_law_2476 (by decide) (fun _ => ?_) (fun h9 => absurd (by decide) h9)
      refine lv_iload hx hb dL_law_2481 (lv_at hl 1 rfl) ?_
      refine lv_if_ne (tgt := 2498) hx hb dL_law_2483 (by decide) (fun _ => ?_) (fun h9 => absurd h9 (by decide))
      refine lv_goto (tgt := 2658) hx hb dL_law_2498 (by decide) ?_
      refine W.widen (k := 2000) (n := 200000) (Nat.le_of_ble_eq_true rfl) (Nat.le_of_ble_eq_true rfl) ?_
      exact law_tail hl9 G C0 hG hZ H locs hS ls (lv_sub hl [2, 7] rfl)
