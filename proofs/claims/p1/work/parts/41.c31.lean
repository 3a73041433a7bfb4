theorem pm689 : Cond.methodLink RL 122 yX6_filed ∈ pxAll := pxM 1203 (by decide +kernel) rfl
theorem pm690 : Cond.instanceMethod yX6_filed ∈ pxAll := pxM 1204 (by decide +kernel) rfl
theorem pm691 : Cond.selects RX6 yX6_filed yX6_filed ∈ pxAll := pxM 1205 (by decide +kernel) rfl
set_option maxRecDepth 100000 in
theorem pm692 : Cond.code yX6_filed cX6_filed 4 (some .int) ∈ pxAll := pxM 1206 rfl rfl
theorem pm693 : Cond.methodLink RL 248 yL_filed ∈ pxAll := pxM 1200 (by decide +kernel) rfl
theorem pm694 : Cond.static yL_filed ∈ pxAll := pxM 1201 (by decide +kernel) rfl
set_option maxRecDepth 100000 in
theorem pm695 : Cond.codeWith yL_filed cL_filed 6 (some .int) [(0, 12, 15, 67), (0, 12, 19, 62)] ∈ pxAll := pxM 1202 rfl rfl
theorem pm696 : Cond.methodLink RL 250 yX7_filed ∈ pxAll := pxM 1758 (by decide +kernel) rfl
theorem pm697 : Cond.instanceMethod yX7_filed ∈ pxAll := pxM 1759 (by decide +kernel) rfl
theorem pm698 : Cond.selects RX7 yX7_filed yX7_filed ∈ pxAll := pxM 1760 (by decide +kernel) rfl
set_option maxRecDepth 100000 in
theorem pm699 : Cond.code yX7_filed cX7_filed 4 (some .int) ∈ pxAll := pxM 1761 rfl rfl
theorem dL_law_2337 : decode cL_law 2337 = .ok (.aload_n 1, 1) := by decide +kernel
theorem dL_law_2338 : decode cL_law 2338 = .ok (.aload_n 0, 1) := by decide +kernel
theorem dL_law_2339 : decode cL_law 2339 = .ok (.iload 5, 2) := by decide +kernel
theorem dL_law_2341 : decode cL_law 2341 = .ok (.iconst 1, 1) := by decide +kernel
theorem dL_law_2342 : decode cL_law 2342 = .ok (.iadd, 1) := by decide +kernel
theorem dL_law_2343 : decode cL_law 2343 = .ok (.iaload, 1) := by decide +kernel
theorem dL_law_2344 : decode cL_law 2344 = .ok (.aload_n 0, 1) := by decide +kernel
theorem dL_law_2345 : decode cL_law 2345 = .ok (.iload 5, 2) := by decide +kernel
theorem dL_law_2347 : decode cL_law 2347 = .ok (.iconst 2, 1) := by decide +kernel
theorem dL_law_2348 : decode cL_law 2348 = .ok (.iadd, 1) := by decide +kernel
theorem dL_law_2349 : decode cL_law 2349 = .ok (.iaload, 1) := by decide +kernel
theorem dL_law_2350 : decode cL_law 2350 = .ok (.aload_n 0, 1) := by decide +kernel
theorem dL_law_2351 : decode cL_law 2351 = .ok (.iload 5, 2) := by decide +kernel
theorem dL_law_2353 : decode cL_law 2353 = .ok (.iconst 3, 1) := by decide +kernel
theorem dL_law_2354 : decode cL_law 2354 = .ok (.iadd, 1) := by decide +kernel
theorem dL_law_2355 : decode cL_law 2355 = .ok (.iaload, 1) := by decide +kernel
theorem dL_law_2356 : decode cL_law 2356 = .ok (.ifCond .eq 7, 3) := by decide +kernel
theorem dL_law_2359 : decode cL_law 2359 = .ok (.iconst 1, 1) := by decide +kernel
theorem dL_law_2360 : decode cL_law 2360 = .ok (.goto 4, 3) := by decide +kernel
theorem dL_law_2364 : decode cL_law 2364 = .ok (.aload_n 3, 1) := by decide +kernel
theorem dL_filed_0 : decode cL_filed 0 = .ok (.aload 4, 2) := by decide +kernel
theorem dL_filed_2 : decode cL_filed 2 = .ok (.iconst 0, 1) := by decide +kernel
theorem dL_filed_3 : decode cL_filed 3 = .ok (.aload_n 0, 1) := by decide +kernel
theorem dL_filed_4 : decode cL_filed 4 = .ok (.iload_n 1, 1) := by decide +kernel
theorem dL_filed_5 : decode cL_filed 5 = .ok (.iload_n 2, 1) := by decide +kernel
theorem dL_filed_6 : decode cL_filed 6 = .ok (.iload_n 3, 1) := by decide +kernel
theorem dX6_filed_0 : decode cX6_filed 0 = .ok (.aload_n 0, 1) := by decide +kernel
theorem dX6_filed_1 : decode cX6_filed 1 = .ok (.iload_n 1, 1) := by decide +kernel
theorem dX6_filed_2 : decode cX6_filed 2 = .ok (.iload_n 2, 1) := by decide +kernel
theorem dX6_filed_3 : decode cX6_filed 3 = .ok (.invokevirtual 307, 3) := by decide +kernel
theorem dL_filed_7 : decode cL_filed 7 = .ok (.invokevirtual 122, 3) := by decide +kernel
theorem dL_filed_15 : decode cL_filed 15 = .ok (.astore 5, 2) := by decide +kernel
theorem dL_filed_17 : decode cL_filed 17 = .ok (.iconst 1, 1) := by decide +kernel
theorem dL_filed_18 : decode cL_filed 18 = .ok (.ireturn, 1) := by decide +kernel
theorem dL_law_2365 : decode cL_law 2365 = .ok (.invokestatic 248, 3) := by decide +kernel
theorem dL_law_2368 : decode cL_law 2368 = .ok (.istore 6, 2) := by decide +kernel
theorem dL_law_2370 : decode cL_law 2370 = .ok (.aload_n 2, 1) := by decide +kernel
theorem dL_law_2371 : decode cL_law 2371 = .ok (.aload_n 0, 1) := by decide +kernel
theorem dL_law_2372 : decode cL_law 2372 = .ok (.iload 5, 2) := by decide +kernel
theorem dL_law_2374 : decode cL_law 2374 = .ok (.iconst 1, 1) := by decide +kernel
theorem dL_law_2375 : decode cL_law 2375 = .ok (.iadd, 1) := by decide +kernel
theorem dL_law_2376 : decode cL_law 2376 = .ok (.iaload, 1) := by decide +kernel
theorem dL_law_2377 : decode cL_law 2377 = .ok (.aload_n 0, 1) := by decide +kernel
theorem dL_law_2378 : decode cL_law 2378 = .ok (.iload 5, 2) := by decide +kernel
theorem dL_law_2380 : decode cL_law 2380 = .ok (.iconst 2, 1) := by decide +kernel
theorem dL_law_2381 : decode cL_law 2381 = .ok (.iadd, 1) := by decide +kernel
theorem dL_law_2382 : decode cL_law 2382 = .ok (.iaload, 1) := by decide +kernel
theorem dL_law_2383 : decode cL_law 2383 = .ok (.aload_n 0, 1) := by decide +kernel
theorem dL_law_2384 : decode cL_law 2384 = .ok (.iload 5, 2) := by decide +kernel
theorem dL_law_2386 : decode cL_law 2386 = .ok (.iconst 3, 1) := by decide +kernel
theorem dL_law_2387 : decode cL_law 2387 = .ok (.iadd, 1) := by decide +kernel
theorem dL_law_2388 : decode cL_law 2388 = .ok (.iaload, 1) := by decide +kernel
theorem dL_law_2389 : decode cL_law 2389 = .ok (.ifCond .eq 7, 3) := by decide +kernel
theorem dL_law_2392 : decode cL_law 2392 = .ok (.iconst 1, 1) := by decide +kernel
theorem dL_law_2393 : decode cL_law 2393 = .ok (.goto 4, 3) := by decide +kernel
theorem dX7_filed_0 : decode cX7_filed 0 = .ok (.aload_n 0, 1) := by decide +kernel
theorem dX7_filed_1 : decode cX7_filed 1 = .ok (.aload_n 0, 1) := by decide +kernel
theorem dX7_filed_2 : decode cX7_filed 2 = .ok (.iload_n 1, 1) := by decide +kernel
theorem dX7_filed_3 : decode cX7_filed 3 = .ok (.iload_n 2, 1) := by decide +kernel
theorem dX7_filed_4 : decode cX7_filed 4 = .ok (.invokevirtual 307, 3) := by decide +kernel
theorem dX7_filed_7 : decode cX7_filed 7 = .ok (.ifCond .ne 7, 3) := by decide +kernel
theorem dX7_filed_10 : decode cX7_filed 10 = .ok (.iconst 1, 1) := by decide +kernel
theorem dX7_filed_11 : decode cX7_filed 11 = .ok (.goto 22, 3) := by decide +kernel
theorem dX7_filed_33 : decode cX7_filed 33 = .ok (.putfield 48, 3) := by decide +kernel
theorem dX7_filed_36 : decode cX7_filed 36 = .ok (.aload_n 0, 1) := by decide +kernel
theorem dX7_filed_37 : decode cX7_filed 37 = .ok (.getfield 48, 3) := by decide +kernel
theorem dX7_filed_40 : decode cX7_filed 40 = .ok (.ifCond .le 7, 3) := by decide +kernel
theorem dX7_filed_43 : decode cX7_filed 43 = .ok (.iconst 0, 1) := by decide +kernel
theorem dX7_filed_44 : decode cX7_filed 44 = .ok (.goto 23, 3) := by decide +kernel
theorem dX7_filed_67 : decode cX7_filed 67 = .ok (.ireturn, 1) := by decide +kernel
theorem dL_law_2397 : decode cL_law 2397 = .ok (.invokevirtual 250, 3) := by decide +kernel
theorem dL_law_2400 : decode cL_law 2400 = .ok (.istore 7, 2) := by decide +kernel
theorem dL_law_2402 : decode cL_law 2402 = .ok (.aload_n 2, 1) := by decide +kernel
theorem dL_law_2403 : decode cL_law 2403 = .ok (.invokevirtual 147, 3) := by decide +kernel
theorem dL_law_2406 : decode cL_law 2406 = .ok (.iload 6, 2) := by decide +kernel
theorem dL_law_2408 : decode cL_law 2408 = .ok (.if_icmp .eq 5, 3) := by decide +kernel
theorem dL_law_2413 : decode cL_law 2413 = .ok (.iload 6, 2) := by decide +kernel
theorem dL_law_2415 : decode cL_law 2415 = .ok (.ifCond .ne 15, 3) := by decide +kernel
theorem dL_law_2430 : decode cL_law 2430 = .ok (.goto 228, 3) := by decide +kernel
theorem dL_law_2363 : decode cL_law 2363 = .ok (.iconst 0, 1) := by decide +kernel
theorem dL_law_2396 : decode cL_law 2396 = .ok (.iconst 0, 1) := by decide +kernel
set_option maxHeartbeats 4000000 in
set_option maxRecDepth 100000 in
theorem k304_X6_filed (l : Launch) (hl9 : l.stackTraces = false) (G : pxG) (sz : Nat) (a0 a1 a2 a3 a4 a5 a6 a7 a8 a9 a10 a11 a12 a13 a14 : Nat) (i0 i1 : Int32) : vx_Met l yX6_filed (Cond.code yX6_filed cX6_filed 4 (some .int) :: pxAll) ({ frames := 8, cells := 1, slots := 6, locals := 133 } : Room) (va_Pc [.ref a0, .int i0, .int i1, .int 1] (pxPre G [(a0, .inr (5, [.ref a5, .ref a6, .ref a7, .ref a8, .ref a1, .int 0, .int 0, .int (-1)])), (a1, .inl (G.2.1 6, 3, .inr (.inr (.inr (.inr (va_up (va_up (va_up (fun _ => none) 0 (some a2)) 1 (some a3)) 2 (some a4))))))), (a2, .inr (0, [.ref a9, .ref a10, .int 0, .int 0])), (a3, .inr (0, [.ref a11, .ref a12, .int 0, .int 0])), (a4, .inr (0, [.ref a13, .ref a14, .int 0, .int 0]))] sz)) pxF (pxXC "java/lang/IndexOutOfBoundsException" (va_A [(a0, .inr (5, [.ref a5, .ref a6, .ref a7, .ref a8, .ref a1, .int 0, .int 0, .int (-1)])), (a1, .inl (G.2.1 6, 3, .inr (.inr (.inr (.inr (va_up (va_up (va_up (fun _ => none) 0 (some a2)) 1 (some a3)) 2 (some a4))))))), (a2, .inr (0, [.ref a9, .ref a10, .int 0, .int 0])), (a3, .inr (0, [.ref a11, .ref a12, .int 0, .int 0])), (a4, .inr (0, [.ref a13, .ref a14, .int 0, .int 0]))] sz)) 1 6 (va_A [(a0, .inr (5, [.ref a5, .ref a6, .ref a7, .ref a8, .ref a1, .int 0, .int 0, .int (-1)])), (a1, .inl (G.2.1 6, 3, .inr (.inr (.inr (.inr (va_up (va_up (va_up (fun _ => none) 0 (some a2)) 1 (some a3)) 2 (some a4))))))), (a2, .inr (0, [.ref a9, .ref a10, .int 0, .int 0])), (a3, .inr (0, [.ref a11, .ref a12, .int 0, .int 0])), (a4, .inr (0, [.ref a13, .ref a14, .int 0, .int 0]))] sz) := by
  refine vx_ofW (cc := cX6_filed) (maxL := 4) (ret := (some .int)) (by decide) rfl ?_
  intro p e s m args below meth c s₁ B hml hEx hv
  obtain ⟨rfl, hsz, hG, hZ, hP, hD0⟩ := hv
  have hx := B.exec
  have hb := B.bytes
  have hr := B.returns
  have hts0 := atoms_spec (ws := Cond.code yX6_filed cX6_filed 4 (some .int) :: pxAll) B.pre
  have hts : ∀ w ∈ pxAll, w.before _ s = true := fun w h => hts0 w (List.mem_cons_of_mem _ h)
  have hown : s.vm.findClass RX6 = some m.cls := findClass_of_methodNamed B.named
  have hlocks := B.notSynchronized
  subst hsz
  have hK := hG.1
  have hD := hD0.self (sz := s.heap.size)
  generalize hAe : va_A [(a0, .inr (5, [.ref a5, .ref a6, .ref a7, .ref a8, .ref a1, .int 0, .int 0, .int (-1)])), (a1, .inl (G.2.1 6, 3, .inr (.inr (.inr (.inr (va_up (va_up (va_up (fun _ => none) 0 (some a2)) 1 (some a3)) 2 (some a4))))))), (a2, .inr (0, [.ref a9, .ref a10, .int 0, .int 0])), (a3, .inr (0, [.ref a11, .ref a12, .int 0, .int 0])), (a4, .inr (0, [.ref a13, .ref a14, .int 0, .int 0]))] s.heap.size = A at hD hZ ⊢
  have hA : ∀ q : Nat, s.heap.size ≤ q → A q := fun q h => by rw [← hAe]; exact Or.inr h
  have hS : va_S A s.heap s.heap [] := va_S.rf
  have hl := lv_entry ([.ref a0, .int i0, .int i1, .int 1]) (n := 4) (Nat.le_of_ble_eq_true rfl)
  rw [lg_entry_eq]
  generalize (lg_sl ([.ref a0, .int i0, .int i1, .int 1]) ++ List.replicate (4 - (lg_sl ([.ref a0, .int i0, .int i1, .int 1])).length) Slot.unset).toArray = ls at hl ⊢
  have hl : lv_has ls 4 [(0, .ref a0), (1, .int i0), (2, .int i1), (3, .int 1)] := hl
  refine lv_aload_n hx hb dX6_filed_0 rfl (lv_at hl 0 rfl) ?_
  refine lv_iload_n hx hb dX6_filed_1 rfl (lv_at hl 1 rfl) ?_
  refine lv_iload_n hx hb dX6_filed_2 rfl (lv_at hl 2 rfl) ?_
  refine pxCx (vx_runV (As := [.int i0, .int i1]) (rest := []) ⟨hx, hb, hml, hown, hts⟩ (k298_X6_requirePlace l hl9 G s.heap.size a0 a1 a2 a3 a4 a5 a6 a7 a8 a9 a10 a11 a12 a13 a14 i0 i1) (cwV 2 hts (pxGV pm670 pm671 pm672 pm2 pm673) rfl rfl rfl (by decide +kernel) ⟨(Nat.le_of_ble_eq_true rfl), (Nat.le_of_ble_eq_true rfl)⟩) (pxV (ci := 5) (q0 := 0) hG hZ hP hD hS hA [0, 1, 2, 3, 4] rfl (by decide) rfl rfl) rfl rfl hl.1 rfl (lv_room (Nat.le_of_ble_eq_true rfl)) dX6_filed_3 ⟨(Nat.le_of_ble_eq_true rfl), (Nat.le_of_ble_eq_true rfl)⟩) hD hS hA [0, 1, 2, 3, 4] rfl (fun ce q9 H locs hS hce hcv hcl => ?_)
  exact vx_out (fun x hx => (hEx x hx).elim) hlocks hce hcv hcl (fun t ht _ => ⟨rfl, hS.F ht⟩) hS.2.2 (Nat.le_of_ble_eq_true rfl) (Nat.le_of_ble_eq_true rfl)
set_option maxHeartbeats 4000000 in
set_option maxRecDepth 100000 in
theorem k304_L_filed (l : Launch) (hl9 : l.stackTraces = false) (G : pxG) (sz : Nat) (a0 a1 a2 a3 a4 a5 a6 a7 a8 a9 a10 a11 a12 a13 a14 a15 : Nat) (i0 i1 : Int32) : Met l yL_filed (Cond.codeWith yL_filed cL_filed 6 (some .int) [(0, 12, 15, 67), (0, 12, 19, 62)] :: pxAll) ({ frames := 9, cells := 1, slots := 6, locals := 156 } : Room) (va_Pc [.ref a0, .int i0, .int i1, .int 1, .ref a5] (pxPre G [(a0, .inr (5, [.ref a6, .ref a7, .ref a8, .ref a9, .ref a1, .int 0, .int 0, .int (-1)])), (a1, .inl (G.2.1 6, 3, .inr (.inr (.inr (.inr (va_up (va_up (va_up (fun _ => none) 0 (some a2)) 1 (some a3)) 2 (some a4))))))), (a2, .inr (0, [.ref a10, .ref a11, .int 0, .int 0])), (a3, .inr (0, [.ref a12, .ref a13, .int 0, .int 0])), (a4, .inr (0, [.ref a14, .ref a15, .int 0, .int 0]))] sz)) (pxQi G (fun r => r = 1) (fun q => []) (va_A [(a0, .inr (5, [.ref a6, .ref a7, .ref a8, .ref a9, .ref a1, .int 0, .int 0, .int (-1)])), (a1, .inl (G.2.1 6, 3, .inr (.inr (.inr (.inr (va_up (va_up (va_up (fun _ => none) 0 (some a2)) 1 (some a3)) 2 (some a4))))))), (a2, .inr (0, [.ref a10, .ref a11, .int 0, .int 0])), (a3, .inr (0, [.ref a12, .ref a13, .int 0, .int 0])), (a4, .inr (0, [.ref a14, .ref a15, .int 0, .int 0]))] sz)) 1 6 (va_A [(a0, .inr (5, [.ref a6, .ref a7, .ref a8, .ref a9, .ref a1, .int 0, .int 0, .int (-1)])), (a1, .inl (G.2.1 6, 3, .inr (.inr (.inr (.inr (va_up (va_up (va_up (fun _ => none) 0 (some a2)) 1 (some a3)) 2 (some a4))))))), (a2, .inr (0, [.ref a10, .ref a11, .int 0, .int 0])), (a3, .inr (0, [.ref a12, .ref a13, .int 0, .int 0])), (a4, .inr (0, [.ref a14, .ref a15, .int 0, .int 0]))] sz) := by
  refine va_MetW (cc := cL_filed) (maxL := 6) (ret := (some .int)) (hh := [(0, 12, 15, 67), (0, 12, 19, 62)]) (by decide) rfl ?_
  intro p e s m args below meth c s₁ B hml hv
  obtain ⟨rfl, hsz, hG, hZ, hP, hD0⟩ := hv
  have hx := B.exec
  have hb := B.bytes
  have hr := B.returns
  have hts0 := atoms_spec (ws := Cond.codeWith yL_filed cL_filed 6 (some .int) [(0, 12, 15, 67), (0, 12, 19, 62)] :: pxAll) B.pre
  have hts : ∀ w ∈ pxAll, w.before _ s = true := fun w h => hts0 w (List.mem_cons_of_mem _ h)
  have hown : s.vm.findClass RL = some m.cls := findClass_of_methodNamed B.named
  have hlocks := B.notSynchronized
  have hTab := vx_table (x := yL_filed) B (hts0 _ List.mem_cons_self)
  subst hsz
  have hK := hG.1
  have hD := hD0.self (sz := s.heap.size)
  generalize hAe : va_A [(a0, .inr (5, [.ref a6, .ref a7, .ref a8, .ref a9, .ref a1, .int 0, .int 0, .int (-1)])), (a1, .inl (G.2.1 6, 3, .inr (.inr (.inr (.inr (va_up (va_up (va_up (fun _ => none) 0 (some a2)) 1 (some a3)) 2 (some a4))))))), (a2, .inr (0, [.ref a10, .ref a11, .int 0, .int 0])), (a3, .inr (0, [.ref a12, .ref a13, .int 0, .int 0])), (a4, .inr (0, [.ref a14, .ref a15, .int 0, .int 0]))] s.heap.size = A at hD hZ ⊢
  have hA : ∀ q : Nat, s.heap.size ≤ q → A q := fun q h => by rw [← hAe]; exact Or.inr h
  have hS : va_S A s.heap s.heap [] := va_S.rf
  have hl := lv_entry ([.ref a0, .int i0, .int i1, .int 1, .ref a5]) (n := 6) (Nat.le_of_ble_eq_true rfl)
  rw [lg_entry_eq]
  generalize (lg_sl ([.ref a0, .int i0, .int i1, .int 1, .ref a5]) ++ List.replicate (6 - (lg_sl ([.ref a0, .int i0, .int i1, .int 1, .ref a5])).length) Slot.unset).toArray = ls at hl ⊢
  have hl : lv_has ls 6 [(0, .ref a0), (1, .int i0), (2, .int i1), (3, .int 1), (4, .ref a5)] := hl
  refine lv_aload hx hb dL_filed_0 (lv_at hl 4 rfl) ?_
  refine lv_iconst (v := 0) hx hb dL_filed_2 (by decide) ?_
  refine lv_aload_n hx hb dL_filed_3 rfl (lv_at hl 0 rfl) ?_
  refine lv_iload_n hx hb dL_filed_4 rfl (lv_at hl 1 rfl) ?_
  refine lv_iload_n hx hb dL_filed_5 rfl (lv_at hl 2 rfl) ?_
  refine lv_iload_n hx hb dL_filed_6 rfl (lv_at hl 3 rfl) ?_
  refine pxCx (vx_runV (As := [.int i0, .int i1, .int 1]) (rest := [.int 0, .ref a5]) ⟨hx, hb, hml, hown, hts⟩ (k304_X6_filed l hl9 G s.heap.size a0 a1 a2 a3 a4 a6 a7 a8 a9 a10 a11 a12 a13 a14 a15 i0 i1) (cwV 3 hts (pxGV pm689 pm690 pm691 pm2 pm692) rfl rfl rfl (by decide +kernel) ⟨(Nat.le_of_ble_eq_true rfl), (Nat.le_of_ble_eq_true rfl)⟩) (pxV (ci := 5) (q0 := 0) hG hZ hP hD hS hA [0, 1, 2, 3, 4] rfl (by decide) rfl rfl) rfl rfl hl.1 rfl (lv_room (Nat.le_of_ble_eq_true rfl)) dL_filed_7 ⟨(Nat.le_of_ble_eq_true rfl), (Nat.le_of_ble_eq_true rfl)⟩) hD hS hA [0, 1, 2, 3, 4] rfl (fun ce q9 H locs hS hce hcv hcl => ?_)
  refine vx_catch (own := RL) (name := "java/lang/IndexOutOfBoundsException") (E := "java/lang/IndexOutOfBoundsException") hown [] ⟨0, 12, 15, 67⟩ [⟨0, 12, 19, 62⟩] (by rw [hTab]; rfl) (fun z hz => nomatch hz) (by decide) (by decide) (hts _ pm437) (va_Nw.use rfl (hG.2.2.1 "java/lang/IndexOutOfBoundsException" (by simp [pxBadC]))) hce hcv hcl ?_
  have hP : va_P G.1 pxCl [] H := fun k q h => by simp at h
  have hD : va_D A [] := ⟨fun i j p q h => by simp at h, fun k q h => by simp at h⟩
  refine lv_astore (lv' := [(5, .ref q9), (0, .ref a0), (1, .int i0), (2, .int i1), (3, .int 1), (4, .ref a5)]) hx hb dL_filed_15 hl (by decide) rfl (fun ls hl => ?_)
  refine lv_iconst (v := 1) hx hb dL_filed_17 (by decide) ?_
  refine W.widen (k := 1) (n := 6) (Nat.le_of_ble_eq_true rfl) (Nat.le_of_ble_eq_true rfl) ?_
  exact W.iret (v := 1) hx hb hr (fun t ht hW => ⟨⟨1, (fun _ => 0), rfl, rfl, by rw [ht]; exact hP, hD⟩, hS.F ht⟩) hS.2.2 dL_filed_18
set_option maxHeartbeats 4000000 in
set_option maxRecDepth 100000 in
theorem k306_X7_filed (l : Launch) (G : pxG) (sz : Nat) (a0 a1 a2 a3 a4 a5 a6 a7 a8 a9 a10 a11 : Nat) (i0 i1 : Int32) : Met l yX7_filed (Cond.code yX7_filed cX7_filed 4 (some .int) :: pxAll) ({ frames := 3, cells := 0, slots := 0, locals := 64 } : Room) (va_Pc [.ref a0, .int i0, .int i1, .int 1] (pxPre G [(a0, .inr (6, [.ref a2, .ref a3, .ref a4, .int 0, .ref a5, .int 0, .int 0, .int 0, .int 0, .ref a6, .int 0, .ref a7, .int 0, .int 0, .int 0, .int (-1), .ref a8, .ref a9, .int 0, .ref a1, .ref a10, .ref a11])), (a1, .inl (G.2.1 0, 3, .inl (fun _ => 0)))] sz)) (pxQi G (fun r => r = 0) (fun q => [(a0, .inr (6, [.ref a2, .ref a3, .ref a4, .int 0, .ref a5, .int 0, .int 0, .int 1, .int 0, .ref a6, .int 0, .ref a7, .int 0, .int 0, .int 0, .int (-1), .ref a8, .ref a9, .int 0, .ref a1, .ref a10, .ref a11]))]) (va_A [(a0, .inr (6, [.ref a2, .ref a3, .ref a4, .int 0, .ref a5, .int 0, .int 0, .int 0, .int 0, .ref a6, .int 0, .ref a7, .int 0, .int 0, .int 0, .int (-1), .ref a8, .ref a9, .int 0, .ref a1, .ref a10, .ref a11])), (a1, .inl (G.2.1 0, 3, .inl (fun _ => 0)))] sz)) 0 0 (va_A [(a0, .inr (6, [.ref a2, .ref a3, .ref a4, .int 0, .ref a5, .int 0, .int 0, .int 0, .int 0, .ref a6, .int 0, .ref a7, .int 0, .int 0, .int 0, .int (-1), .ref a8, .ref a9, .int 0, .ref a1, .ref a10, .ref a11])), (a1, .inl (G.2.1 0, 3, .inl (fun _ => 0)))] sz) := by
  refine Met.ofW (cc := cX7_filed) (maxL := 4) (ret := (some .int)) (by decide) rfl ?_
  intro p e s m args below meth c s₁ B hml hv
  obtain ⟨rfl, hsz, hG, hZ, hP, hD0⟩ := hv
  have hx := B.exec
  have hb := B.bytes
  have hr := B.returns
  have hts0 := atoms_spec (ws := Cond.code yX7_filed cX7_filed 4 (some .int) :: pxAll) B.pre
  have hts : ∀ w ∈ pxAll, w.before _ s = true := fun w h => hts0 w (List.mem_cons_of_mem _ h)
  have hown : s.vm.findClass RX7 = some m.cls := findClass_of_methodNamed B.named
  have hlocks := B.notSynchronized
  subst hsz
  have hK := hG.1
  have hD := hD0.self (sz := s.heap.size)
  generalize hAe : va_A [(a0, .inr (6, [.ref a2, .ref a3, .ref a4, .int 0, .ref a5, .int 0, .int 0, .int 0, .int 0, .ref a6, .int 0, .ref a7, .int 0, .int 0, .int 0, .int (-1), .ref a8, .ref a9, .int 0, .ref a1, .ref a10, .ref a11])), (a1, .inl (G.2.1 0, 3, .inl (fun _ => 0)))] s.heap.size = A at hD hZ ⊢
  have hA : ∀ q : Nat, s.heap.size ≤ q → A q := fun q h => by rw [← hAe]; exact Or.inr h
  have hS : va_S A s.heap s.heap [] := va_S.rf
  have hl := lv_entry ([.ref a0, .int i0, .int i1, .int 1]) (n := 4) (Nat.le_of_ble_eq_true rfl)
  rw [lg_entry_eq]
  generalize (lg_sl ([.ref a0, .int i0, .int i1, .int 1]) ++ List.replicate (4 - (lg_sl ([.ref a0, .int i0, .int i1, .int 1])).length) Slot.unset).toArray = ls at hl ⊢
  have hl : lv_has ls 4 [(0, .ref a0), (1, .int i0), (2, .int i1), (3, .int 1)] := hl
  refine lv_aload_n hx hb dX7_filed_0 rfl (lv_at hl 0 rfl) ?_
  refine lv_aload_n hx hb dX7_filed_1 rfl (lv_at hl 0 rfl) ?_
  refine lv_iload_n hx hb dX7_filed_2 rfl (lv_at hl 1 rfl) ?_
  refine lv_iload_n hx hb dX7_filed_3 rfl (lv_at hl 2 rfl) ?_
  refine pxCi (va_runV (As := [.int i0, .int i1]) (rest := [.ref a0]) ⟨hx, hb, hml, hown, hts⟩ (k302_X7_isPlace l G s.heap.size a0 a1 a2 a3 a4 a5 a6 a7 a8 a9 a10 a11 i0 i1) (cwV 2 hts (pxGV pm681 pm682 pm683 pm71 pm684) rfl rfl rfl (by decide +kernel) ⟨(Nat.le_of_ble_eq_true rfl), (Nat.le_of_ble_eq_true rfl)⟩) (pxV (ci := 6) (q0 := 0) hG hZ hP hD hS hA [0, 1] rfl (by decide) rfl rfl) rfl rfl hl.1 rfl (lv_room (Nat.le_of_ble_eq_true rfl)) dX7_filed_4 ⟨(Nat.le_of_ble_eq_true rfl), (Nat.le_of_ble_eq_true rfl)⟩) hP hD hS hA [0, 1] [] rfl rfl (by decide) (by decide) (fun r2 q1 H locs hw hP hD hS => ?_)
  have hw : r2 = 0 := hw
  subst hw
  have hP : va_P G.1 pxCl [(a0, .inr (6, [.ref a2, .ref a3, .ref a4, .int 0, .ref a5, .int 0, .int 0, .int 0, .int 0, .ref a6, .int 0, .ref a7, .int 0, .int 0, .int 0, .int (-1), .ref a8, .ref a9, .int 0, .ref a1, .ref a10, .ref a11])), (a1, .inl (G.2.1 0, 3, .inl (fun _ => 0)))] H := hP
  have hD : va_D A [(a0, .inr (6, [.ref a2, .ref a3, .ref a4, .int 0, .ref a5, .int 0, .int 0, .int 0, .int 0, .ref a6, .int 0, .ref a7, .int 0, .int 0, .int 0, .int (-1), .ref a8, .ref a9, .int 0, .ref a1, .ref a10, .ref a11])), (a1, .inl (G.2.1 0, 3, .inl (fun _ => 0)))] := hD
  refine lv_if_ne (tgt := 14) hx hb dX7_filed_7 (by decide) (fun h9 => absurd h9 (by decide)) (fun _ => ?_)
  refine lv_iconst (v := 1) hx hb dX7_filed_10 (by decide) ?_
  refine lv_goto (tgt := 33) hx hb dX7_filed_11 (by decide) ?_
  refine va_put (D := G.1) (ci := 6) (v := .int 1) (ty := .int) (C := RX7) (T := TX7) (N := 22) hx hb hts piX7 tyX7 tyX7_ok nmX7 hown hK hP hD hS 0 rfl rfl 7 (by decide) (hts _ pm150) (fun _ h9 => h9) rfl (by decide +kernel) rfl rfl (Nat.le_of_ble_eq_true rfl) dX7_filed_33 (fun H locs hP hD hS => ?_)
  have hP : va_P G.1 pxCl [(a0, .inr (6, [.ref a2, .ref a3, .ref a4, .int 0, .ref a5, .int 0, .int 0, .int 1, .int 0, .ref a6, .int 0, .ref a7, .int 0, .int 0, .int 0, .int (-1), .ref a8, .ref a9, .int 0, .ref a1, .ref a10, .ref a11])), (a1, .inl (G.2.1 0, 3, .inl (fun _ => 0)))] H := hP
  have hD : va_D A [(a0, .inr (6, [.ref a2, .ref a3, .ref a4, .int 0, .ref a5, .int 0, .int 0, .int 1, .int 0, .ref a6, .int 0, .ref a7, .int 0, .int 0, .int 0, .int (-1), .ref a8, .ref a9, .int 0, .ref a1, .ref a10, .ref a11])), (a1, .inl (G.2.1 0, 3, .inl (fun _ => 0)))] := hD
  refine lv_aload_n hx hb dX7_filed_36 rfl (lv_at hl 0 rfl) ?_
  refine va_get (D := G.1) (ci := 6) (v := .int 1) (C := RX7) (T := TX7) (N := 22) hx hb hts piX7 hown hK hP 0 rfl rfl 7 (by decide) (hts _ pm150) (fun _ h9 => h9) rfl dX7_filed_37 ?_
  refine lv_if_le (tgt := 47) hx hb dX7_filed_40 (by decide) (fun h9 => absurd h9 (by decide)) (fun _ => ?_)
  refine lv_iconst (v := 0) hx hb dX7_filed_43 (by decide) ?_
  refine lv_goto (tgt := 67) hx hb dX7_filed_44 (by decide) ?_
  have hD : va_D A [(a0, .inr (6, [.ref a2, .ref a3, .ref a4, .int 0, .ref a5, .int 0, .int 0, .int 1, .int 0, .ref a6, .int 0, .ref a7, .int 0, .int 0, .int 0, .int (-1), .ref a8, .ref a9, .int 0, .ref a1, .ref a10, .ref a11]))] := hD.sub [0] (by decide) rfl
  have hP : va_P G.1 pxCl [(a0, .inr (6, [.ref a2, .ref a3, .ref a4, .int 0, .ref a5, .int 0, .int 0, .int 1, .int 0, .ref a6, .int 0, .ref a7, .int 0, .int 0, .int 0, .int (-1), .ref a8, .ref a9, .int 0, .ref a1, .ref a10, .ref a11]))] H := hP.sub [0] rfl
  refine W.widen (k := 0) (n := 0) (Nat.le_of_ble_eq_true rfl) (Nat.le_of_ble_eq_true rfl) ?_
  exact W.iret (v := 0) hx hb hr (fun t ht hW => ⟨⟨0, (fun _ => 0), rfl, rfl, by rw [ht]; exact hP, hD⟩, hS.F ht⟩) hS.2.2 dX7_filed_67
set_option maxHeartbeats 4000000 in
set_option maxRecDepth 100000 in
theorem k307_X6_filed (l : Launch) (hl9 : l.stackTraces = false) (G : pxG) (sz : Nat) (a0 a1 a2 a3 a4 a5 a6 a7 a8 a9 a10 a11 a12 a13 a14 : Nat) (i0 i1 : Int32) : vx_Met l yX6_filed (Cond.code yX6_filed cX6_filed 4 (some .int) :: pxAll) ({ frames := 8, cells := 1, slots := 6, locals := 133 } : Room) (va_Pc [.ref a0, .int i0, .int i1, .int 0] (pxPre G [(a0, .inr (5, [.ref a5, .ref a6, .ref a7, .ref a8, .ref a1, .int 0, .int 0, .int (-1)])), (a1, .inl (G.2.1 6, 3, .inr (.inr (.inr (.inr (va_up (va_up (va_up (fun _ => none) 0 (some a2)) 1 (some a3)) 2 (some a4))))))), (a2, .inr (0, [.ref a9, .ref a10, .int 0, .int 0])), (a3, .inr (0, [.ref a11, .ref a12, .int 0, .int 0])), (a4, .inr (0, [.ref a13, .ref a14, .int 0, .int 0]))] sz)) pxF (pxXC "java/lang/IndexOutOfBoundsException" (va_A [(a0, .inr (5, [.ref a5, .ref a6, .ref a7, .ref a8, .ref a1, .int 0, .int 0, .int (-1)])), (a1, .inl (G.2.1 6, 3, .inr (.inr (.inr (.inr (va_up (va_up (va_up (fun _ => none) 0 (some a2)) 1 (some a3)) 2 (some a4))))))), (a2, .inr (0, [.ref a9, .ref a10, .int 0, .int 0])), (a3, .inr (0, [.ref a11, .ref a12, .int 0, .int 0])), (a4, .inr (0, [.ref a13, .ref a14, .int 0, .int 0]))] sz)) 1 6 (va_A [(a0, .inr (5, [.ref a5, .ref a6, .ref a7, .ref a8, .ref a1, .int 0, .int 0, .int (-1)])), (a1, .inl (G.2.1 6, 3, .inr (.inr (.inr (.inr (va_up (va_up (va_up (fun _ => none) 0 (some a2)) 1 (some a3)) 2 (some a4))))))), (a2, .inr (0, [.ref a9, .ref a10, .int 0, .int 0])), (a3, .inr (0, [.ref a11, .ref a12, .int 0, .int 0])), (a4, .inr (0, [.ref a13, .ref a14, .int 0, .int 0]))] sz) := by
  refine vx_ofW (cc := cX6_filed) (maxL := 4) (ret := (some .int)) (by decide) rfl ?_
  intro p e s m args below meth c s₁ B hml hEx hv
  obtain ⟨rfl, hsz, hG, hZ, hP, hD0⟩ := hv
  have hx := B.exec
  have hb := B.bytes
  have hr := B.returns
  have hts0 := atoms_spec (ws := Cond.code yX6_filed cX6_filed 4 (some .int) :: pxAll) B.pre
  have hts : ∀ w ∈ pxAll, w.before _ s = true := fun w h => hts0 w (List.mem_cons_of_mem _ h)
  have hown : s.vm.findClass RX6 = some m.cls := findClass_of_methodNamed B.named
  have hlocks := B.notSynchronized
  subst hsz
  have hK := hG.1
  have hD := hD0.self (sz := s.heap.size)
  generalize hAe : va_A [(a0, .inr (5, [.ref a5, .ref a6, .ref a7, .ref a8, .ref a1, .int 0, .int 0, .int (-1)])), (a1, .inl (G.2.1 6, 3, .inr (.inr (.inr (.inr (va_up (va_up (va_up (fun _ => none) 0 (some a2)) 1 (some a3)) 2 (some a4))))))), (a2, .inr (0, [.ref a9, .ref a10, .int 0, .int 0])), (a3, .inr (0, [.ref a11, .ref a12, .int 0, .int 0])), (a4, .inr (0, [.ref a13, .ref a14, .int 0, .int 0]))] s.heap.size = A at hD hZ ⊢
  have hA : ∀ q : Nat, s.heap.size ≤ q → A q := fun q h => by rw [← hAe]; exact Or.inr h
  have hS : va_S A s.heap s.heap [] := va_S.rf
  have hl := lv_entry ([.ref a0, .int i0, .int i1, .int 0]) (n := 4) (Nat.le_of_ble_eq_true rfl)
  rw [lg_entry_eq]
  generalize (lg_sl ([.ref a0, .int i0, .int i1, .int 0]) ++ List.replicate (4 - (lg_sl ([.ref a0, .int i0, .int i1, .int 0])).length) Slot.unset).toArray = ls at hl ⊢
  have hl : lv_has ls 4 [(0, .ref a0), (1, .int i0), (2, .int i1), (3, .int 0)] := hl
  refine lv_aload_n hx hb dX6_filed_0 rfl (lv_at hl 0 rfl) ?_
  refine lv_iload_n hx hb dX6_filed_1 rfl (lv_at hl 1 rfl) ?_
  refine lv_iload_n hx hb dX6_filed_2 rfl (lv_at hl 2 rfl) ?_
  refine pxCx (vx_runV (As := [.int i0, .int i1]) (rest := []) ⟨hx, hb, hml, hown, hts⟩ (k298_X6_requirePlace l hl9 G s.heap.size a0 a1 a2 a3 a4 a5 a6 a7 a8 a9 a10 a11 a12 a13 a14 i0 i1) (cwV 2 hts (pxGV pm670 pm671 pm672 pm2 pm673) rfl rfl rfl (by decide +kernel) ⟨(Nat.le_of_ble_eq_true rfl), (Nat.le_of_ble_eq_true rfl)⟩) (pxV (ci := 5) (q0 := 0) hG hZ hP hD hS hA [0, 1, 2, 3, 4] rfl (by decide) rfl rfl) rfl rfl hl.1 rfl (lv_room (Nat.le_of_ble_eq_true rfl)) dX6_filed_3 ⟨(Nat.le_of_ble_eq_true rfl), (Nat.le_of_ble_eq_true rfl)⟩) hD hS hA [0, 1, 2, 3, 4] rfl (fun ce q9 H locs hS hce hcv hcl => ?_)
  exact vx_out (fun x hx => (hEx x hx).elim) hlocks hce hcv hcl (fun t ht _ => ⟨rfl, hS.F ht⟩) hS.2.2 (Nat.le_of_ble_eq_true rfl) (Nat.le_of_ble_eq_true rfl)
set_option maxHeartbeats 4000000 in
set_option maxRecDepth 100000 in
theorem k307_L_filed (l : Launch) (hl9 : l.stackTraces = false) (G : pxG) (sz : Nat) (a0 a1 a2 a3 a4 a5 a6 a7 a8 a9 a10 a11 a12 a13 a14 a15 : Nat) (i0 i1 : Int32) : Met l yL_filed (Cond.codeWith yL_filed cL_filed 6 (some .int) [(0, 12, 15, 67), (0, 12, 19, 62)] :: pxAll) ({ frames := 9, cells := 1, slots := 6, locals := 156 } : Room) (va_Pc [.ref a0, .int i0, .int i1, .int 0, .ref a5] (pxPre G [(a0, .inr (5, [.ref a6, .ref a7, .ref a8, .ref a9, .ref a1, .int 0, .int 0, .int (-1)])), (a1, .inl (G.2.1 6, 3, .inr (.inr (.inr (.inr (va_up (va_up (va_up (fun _ => none) 0 (some a2)) 1 (some a3)) 2 (some a4))))))), (a2, .inr (0, [.ref a10, .ref a11, .int 0, .int 0])), (a3, .inr (0, [.ref a12, .ref a13, .int 0, .int 0])), (a4, .inr (0, [.ref a14, .ref a15, .int 0, .int 0]))] sz)) (pxQi G (fun r => r = 1) (fun q => []) (va_A [(a0, .inr (5, [.ref a6, .ref a7, .ref a8, .ref a9, .ref a1, .int 0, .int 0, .int (-1)])), (a1, .inl (G.2.1 6, 3, .inr (.inr (.inr (.inr (va_up (va_up (va_up (fun _ => none) 0 (some a2)) 1 (some a3)) 2 (some a4))))))), (a2, .inr (0, [.ref a10, .ref a11, .int 0, .int 0])), (a3, .inr (0, [.ref a12, .ref a13, .int 0, .int 0])), (a4, .inr (0, [.ref a14, .ref a15, .int 0, .int 0]))] sz)) 1 6 (va_A [(a0, .inr (5, [.ref a6, .ref a7, .ref a8, .ref a9, .ref a1, .int 0, .int 0, .int (-1)])), (a1, .inl (G.2.1 6, 3, .inr (.inr (.inr (.inr (va_up (va_up (va_up (fun _ => none) 0 (some a2)) 1 (some a3)) 2 (some a4))))))), (a2, .inr (0, [.ref a10, .ref a11, .int 0, .int 0])), (a3, .inr (0, [.ref a12, .ref a13, .int 0, .int 0])), (a4, .inr (0, [.ref a14, .ref a15, .int 0, .int 0]))] sz) := by
  refine va_MetW (cc := cL_filed) (maxL := 6) (ret := (some .int)) (hh := [(0, 12, 15, 67), (0, 12, 19, 62)]) (by decide) rfl ?_
  intro p e s m args below meth c s₁ B hml hv
  obtain ⟨rfl, hsz, hG, hZ, hP, hD0⟩ := hv
  have hx := B.exec
  have hb := B.bytes
  have hr := B.returns
  have hts0 := atoms_spec (ws := Cond.codeWith yL_filed cL_filed 6 (some .int) [(0, 12, 15, 67), (0, 12, 19, 62)] :: pxAll) B.pre
  have hts : ∀ w ∈ pxAll, w.before _ s = true := fun w h => hts0 w (List.mem_cons_of_mem _ h)
  have hown : s.vm.findClass RL = some m.cls := findClass_of_methodNamed B.named
  have hlocks := B.notSynchronized
  have hTab := vx_table (x := yL_filed) B (hts0 _ List.mem_cons_self)
  subst hsz
  have hK := hG.1
  have hD := hD0.self (sz := s.heap.size)
  generalize hAe : va_A [(a0, .inr (5, [.ref a6, .ref a7, .ref a8, .ref a9, .ref a1, .int 0, .int 0, .int (-1)])), (a1, .inl (G.2.1 6, 3, .inr (.inr (.inr (.inr (va_up (va_up (va_up (fun _ => none) 0 (some a2)) 1 (some a3)) 2 (some a4))))))), (a2, .inr (0, [.ref a10, .ref a11, .int 0, .int 0])), (a3, .inr (0, [.ref a12, .ref a13, .int 0, .int 0])), (a4, .inr (0, [.ref a14, .ref a15, .int 0, .int 0]))] s.heap.size = A at hD hZ ⊢
  have hA : ∀ q : Nat, s.heap.size ≤ q → A q := fun q h => by rw [← hAe]; exact Or.inr h
  have hS : va_S A s.heap s.heap [] := va_S.rf
  have hl := lv_entry ([.ref a0, .int i0, .int i1, .int 0, .ref a5]) (n := 6) (Nat.le_of_ble_eq_true rfl)
  rw [lg_entry_eq]
  generalize (lg_sl ([.ref a0, .int i0, .int i1, .int 0, .ref a5]) ++ List.replicate (6 - (lg_sl ([.ref a0, .int i0, .int i1, .int 0, .ref a5])).length) Slot.unset).toArray = ls at hl ⊢
  have hl : lv_has ls 6 [(0, .ref a0), (1, .int i0), (2, .int i1), (3, .int 0), (4, .ref a5)] := hl
  refine lv_aload hx hb dL_filed_0 (lv_at hl 4 rfl) ?_
  refine lv_iconst (v := 0) hx hb dL_filed_2 (by decide) ?_
  refine lv_aload_n hx hb dL_filed_3 rfl (lv_at hl 0 rfl) ?_
  refine lv_iload_n hx hb dL_filed_4 rfl (lv_at hl 1 rfl) ?_
  refine lv_iload_n hx hb dL_filed_5 rfl (lv_at hl 2 rfl) ?_
  refine lv_iload_n hx hb dL_filed_6 rfl (lv_at hl 3 rfl) ?_
  refine pxCx (vx_runV (As := [.int i0, .int i1, .int 0]) (rest := [.int 0, .ref a5]) ⟨hx, hb, hml, hown, hts⟩ (k307_X6_filed l hl9 G s.heap.size a0 a1 a2 a3 a4 a6 a7 a8 a9 a10 a11 a12 a13 a14 a15 i0 i1) (cwV 3 hts (pxGV pm689 pm690 pm691 pm2 pm692) rfl rfl rfl (by decide +kernel) ⟨(Nat.le_of_ble_eq_true rfl), (Nat.le_of_ble_eq_true rfl)⟩) (pxV (ci := 5) (q0 := 0) hG hZ hP hD hS hA [0, 1, 2, 3, 4] rfl (by decide) rfl rfl) rfl rfl hl.1 rfl (lv_room (Nat.le_of_ble_eq_true rfl)) dL_filed_7 ⟨(Nat.le_of_ble_eq_true rfl), (Nat.le_of_ble_eq_true rfl)⟩) hD hS hA [0, 1, 2, 3, 4] rfl (fun ce q9 H locs hS hce hcv hcl => ?_)
  refine vx_catch (own := RL) (name := "java/lang/IndexOutOfBoundsException") (E := "java/lang/IndexOutOfBoundsException") hown [] ⟨0, 12, 15, 67⟩ [⟨0, 12, 19, 62⟩] (by rw [hTab]; rfl) (fun z hz => nomatch hz) (by decide) (by decide) (hts _ pm437) (va_Nw.use rfl (hG.2.2.1 "java/lang/IndexOutOfBoundsException" (by simp [pxBadC]))) hce hcv hcl ?_
  have hP : va_P G.1 pxCl [] H := fun k q h => by simp at h
  have hD : va_D A [] := ⟨fun i j p q h => by simp at h, fun k q h => by simp at h⟩
  refine lv_astore (lv' := [(5, .ref q9), (0, .ref a0), (1, .int i0), (2, .int i1), (3, .int 0), (4, .ref a5)]) hx hb dL_filed_15 hl (by decide) rfl (fun ls hl => ?_)
  refine lv_iconst (v := 1) hx hb dL_filed_17 (by decide) ?_
  refine W.widen (k := 1) (n := 6) (Nat.le_of_ble_eq_true rfl) (Nat.le_of_ble_eq_true rfl) ?_
  exact W.iret (v := 1) hx hb hr (fun t ht hW => ⟨⟨1, (fun _ => 0), rfl, rfl, by rw [ht]; exact hP, hD⟩, hS.F ht⟩) hS.2.2 dL_filed_18
set_option maxHeartbeats 4000000 in
set_option maxRecDepth 100000 in
theorem k309_X7_filed (l : Launch) (G : pxG) (sz : Nat) (a0 a1 a2 a3 a4 a5 a6 a7 a8 a9 a10 a11 : Nat) (i0 i1 : Int32) : Met l yX7_filed (Cond.code yX7_filed cX7_filed 4 (some .int) :: pxAll) ({ frames := 3, cells := 0, slots := 0, locals := 64 } : Room) (va_Pc [.ref a0, .int i0, .int i1, .int 0] (pxPre G [(a0, .inr (6, [.ref a2, .ref a3, .ref a4, .int 0, .ref a5, .int 0, .int 0, .int 0, .int 0, .ref a6, .int 0, .ref a7, .int 0, .int 0, .int 0, .int (-1), .ref a8, .ref a9, .int 0, .ref a1, .ref a10, .ref a11])), (a1, .inl (G.2.1 0, 3, .inl (fun _ => 0)))] sz)) (pxQi G (fun r => r = 0) (fun q => [(a0, .inr (6, [.ref a2, .ref a3, .ref a4, .int 0, .ref a5, .int 0, .int 0, .int 1, .int 0, .ref a6, .int 0, .ref a7, .int 0, .int 0, .int 0, .int (-1), .ref a8, .ref a9, .int 0, .ref a1, .ref a10, .ref a11]))]) (va_A [(a0, .inr (6, [.ref a2, .ref a3, .ref a4, .int 0, .ref a5, .int 0, .int 0, .int 0, .int 0, .ref a6, .int 0, .ref a7, .int 0, .int 0, .int 0, .int (-1), .ref a8, .ref a9, .int 0, .ref a1, .ref a10, .ref a11])), (a1, .inl (G.2.1 0, 3, .inl (fun _ => 0)))] sz)) 0 0 (va_A [(a0, .inr (6, [.ref a2, .ref a3, .ref a4, .int 0, .ref a5, .int 0, .int 0, .int 0, .int 0, .ref a6, .int 0, .ref a7, .int 0, .int 0, .int 0, .int (-1), .ref a8, .ref a9, .int 0, .ref a1, .ref a10, .ref a11])), (a1, .inl (G.2.1 0, 3, .inl (fun _ => 0)))] sz) := by
  refine Met.ofW (cc := cX7_filed) (maxL := 4) (ret := (some .int)) (by decide) rfl ?_
  intro p e s m args below meth c s₁ B hml hv
  obtain ⟨rfl, hsz, hG, hZ, hP, hD0⟩ := hv
  have hx := B.exec
  have hb := B.bytes
  have hr := B.returns
  have hts0 := atoms_spec (ws := Cond.code yX7_filed cX7_filed 4 (some .int) :: pxAll) B.pre
  have hts : ∀ w ∈ pxAll, w.before _ s = true := fun w h => hts0 w (List.mem_cons_of_mem _ h)
  have hown : s.vm.findClass RX7 = some m.cls := findClass_of_methodNamed B.named
  have hlocks := B.notSynchronized
  subst hsz
  have hK := hG.1
  have hD := hD0.self (sz := s.heap.size)
  generalize hAe : va_A [(a0, .inr (6, [.ref a2, .ref a3, .ref a4, .int 0, .ref a5, .int 0, .int 0, .int 0, .int 0, .ref a6, .int 0, .ref a7, .int 0, .int 0, .int 0, .int (-1), .ref a8, .ref a9, .int 0, .ref a1, .ref a10, .ref a11])), (a1, .inl (G.2.1 0, 3, .inl (fun _ => 0)))] s.heap.size = A at hD hZ ⊢
  have hA : ∀ q : Nat, s.heap.size ≤ q → A q := fun q h => by rw [← hAe]; exact Or.inr h
  have hS : va_S A s.heap s.heap [] := va_S.rf
  have hl := lv_entry ([.ref a0, .int i0, .int i1, .int 0]) (n := 4) (Nat.le_of_ble_eq_true rfl)
  rw [lg_entry_eq]
  generalize (lg_sl ([.ref a0, .int i0, .int i1, .int 0]) ++ List.replicate (4 - (lg_sl ([.ref a0, .int i0, .int i1, .int 0])).length) Slot.unset).toArray = ls at hl ⊢
  have hl : lv_has ls 4 [(0, .ref a0), (1, .int i0), (2, .int i1), (3, .int 0)] := hl
  refine lv_aload_n hx hb dX7_filed_0 rfl (lv_at hl 0 rfl) ?_
  refine lv_aload_n hx hb dX7_filed_1 rfl (lv_at hl 0 rfl) ?_
  refine lv_iload_n hx hb dX7_filed_2 rfl (lv_at hl 1 rfl) ?_
  refine lv_iload_n hx hb dX7_filed_3 rfl (lv_at hl 2 rfl) ?_
  refine pxCi (va_runV (As := [.int i0, .int i1]) (rest := [.ref a0]) ⟨hx, hb, hml, hown, hts⟩ (k302_X7_isPlace l G s.heap.size a0 a1 a2 a3 a4 a5 a6 a7 a8 a9 a10 a11 i0 i1) (cwV 2 hts (pxGV pm681 pm682 pm683 pm71 pm684) rfl rfl rfl (by decide +kernel) ⟨(Nat.le_of_ble_eq_true rfl), (Nat.le_of_ble_eq_true rfl)⟩) (pxV (ci := 6) (q0 := 0) hG hZ hP hD hS hA [0, 1] rfl (by decide) rfl rfl) rfl rfl hl.1 rfl (lv_room (Nat.le_of_ble_eq_true rfl)) dX7_filed_4 ⟨(Nat.le_of_ble_eq_true rfl), (Nat.le_of_ble_eq_true rfl)⟩) hP hD hS hA [0, 1] [] rfl rfl (by decide) (by decide) (fun r2 q1 H locs hw hP hD hS => ?_)
  have hw : r2 = 0 := hw
  subst hw
  have hP : va_P G.1 pxCl [(a0, .inr (6, [.ref a2, .ref a3, .ref a4, .int 0, .ref a5, .int 0, .int 0, .int 0, .int 0, .ref a6, .int 0, .ref a7, .int 0, .int 0, .int 0, .int (-1), .ref a8, .ref a9, .int 0, .ref a1, .ref a10, .ref a11])), (a1, .inl (G.2.1 0, 3, .inl (fun _ => 0)))] H := hP
  have hD : va_D A [(a0, .inr (6, [.ref a2, .ref a3, .ref a4, .int 0, .ref a5, .int 0, .int 0, .int 0, .int 0, .ref a6, .int 0, .ref a7, .int 0, .int 0, .int 0, .int (-1), .ref a8, .ref a9, .int 0, .ref a1, .ref a10, .ref a11])), (a1, .inl (G.2.1 0, 3, .inl (fun _ => 0)))] := hD
  refine lv_if_ne (tgt := 14) hx hb dX7_filed_7 (by decide) (fun h9 => absurd h9 (by decide)) (fun _ => ?_)
  refine lv_iconst (v := 1) hx hb dX7_filed_10 (by decide) ?_
  refine lv_goto (tgt := 33) hx hb dX7_filed_11 (by decide) ?_
  refine va_put (D := G.1) (ci := 6) (v := .int 1) (ty := .int) (C := RX7) (T := TX7) (N := 22) hx hb hts piX7 tyX7 tyX7_ok nmX7 hown hK hP hD hS 0 rfl rfl 7 (by decide) (hts _ pm150) (fun _ h9 => h9) rfl (by decide +kernel) rfl rfl (Nat.le_of_ble_eq_true rfl) dX7_filed_33 (fun H locs hP hD hS => ?_)
  have hP : va_P G.1 pxCl [(a0, .inr (6, [.ref a2, .ref a3, .ref a4, .int 0, .ref a5, .int 0, .int 0, .int 1, .int 0, .ref a6, .int 0, .ref a7, .int 0, .int 0, .int 0, .int (-1), .ref a8, .ref a9, .int 0, .ref a1, .ref a10, .ref a11])), (a1, .inl (G.2.1 0, 3, .inl (fun _ => 0)))] H := hP
  have hD : va_D A [(a0, .inr (6, [.ref a2, .ref a3, .ref a4, .int 0, .ref a5, .int 0, .int 0, .int 1, .int 0, .ref a6, .int 0, .ref a7, .int 0, .int 0, .int 0, .int (-1), .ref a8, .ref a9, .int 0, .ref a1, .ref a10, .ref a11])), (a1, .inl (G.2.1 0, 3, .inl (fun _ => 0)))] := hD
  refine lv_aload_n hx hb dX7_filed_36 rfl (lv_at hl 0 rfl) ?_
  refine va_get (D := G.1) (ci := 6) (v := .int 1) (C := RX7) (T := TX7) (N := 22) hx hb hts piX7 hown hK hP 0 rfl rfl 7 (by decide) (hts _ pm150) (fun _ h9 => h9) rfl dX7_filed_37 ?_
  refine lv_if_le (tgt := 47) hx hb dX7_filed_40 (by decide) (fun h9 => absurd h9 (by decide)) (fun _ => ?_)
  refine lv_iconst (v := 0) hx hb dX7_filed_43 (by decide) ?_
  refine lv_goto (tgt := 67) hx hb dX7_filed_44 (by decide) ?_
  have hD : va_D A [(a0, .inr (6, [.ref a2, .ref a3, .ref a4, .int 0, .ref a5, .int 0, .int 0, .int 1, .int 0, .ref a6, .int 0, .ref a7, .int 0, .int 0, .int 0, .int (-1), .ref a8, .ref a9, .int 0, .ref a1, .ref a10, .ref a11]))] := hD.sub [0] (by decide) rfl
  have hP : va_P G.1 pxCl [(a0, .inr (6, [.ref a2, .ref a3, .ref a4, .int 0, .ref a5, .int 0, .int 0, .int 1, .int 0, .ref a6, .int 0, .ref a7, .int 0, .int 0, .int 0, .int (-1), .ref a8, .ref a9, .int 0, .ref a1, .ref a10, .ref a11]))] H := hP.sub [0] rfl
  refine W.widen (k := 0) (n := 0) (Nat.le_of_ble_eq_true rfl) (Nat.le_of_ble_eq_true rfl) ?_
  exact W.iret (v := 0) hx hb hr (fun t ht hW => ⟨⟨0, (fun _ => 0), rfl, rfl, by rw [ht]; exact hP, hD⟩, hS.F ht⟩) hS.2.2 dX7_filed_67
set_option maxHeartbeats 4000000 in
set_option maxRecDepth 100000 in
theorem lc31 {p : Program} {l : Launch} {e : Env} {s : State} {m : MethodId} {below : List Frame} {meth : Method} {c : Code} {b : Nat} {xs : Nat → Int32} (hl9 : l.stackTraces = false) (G : pxG) (C0 : lw_At p s m meth c b 5 xs) (hG : pxOk G s) (hZ : pxZ (fun q : Nat => s.heap.size ≤ q) s s.heap) (a1 a2 a43 a86 a127 a131 a132 a133 a134 a135 a136 a137 a138 a139 a140 a149 a150 a151 a152 a153 a154 a155 a156 a157 a158 a159 a160 a161 a162 : Nat) (H : Heap) (locs : List Loc) (hP : va_P G.1 pxCl [(a1, .inr (5, [.ref a2, .ref a43, .ref a86, .ref a127, .ref a131, .int 0, .int 0, .int (-1)])), (a131, .inl (G.2.1 6, 3, .inr (.inr (.inr (.inr (va_up (va_up (va_up (fun _ => none) 0 (some a132)) 1 (some a135)) 2 (some a138))))))), (a132, .inr (0, [.ref a133, .ref a134, .int 0, .int 0])), (a135, .inr (0, [.ref a136, .ref a137, .int 0, .int 0])), (a138, .inr (0, [.ref a139, .ref a140, .int 0, .int 0])), (a149, .inr (6, [.ref a150, .ref a151, .ref a152, .int 0, .ref a153, .int 0, .int 0, .int 0, .int 0, .ref a154, .int 0, .ref a155, .int 0, .int 0, .int 0, .int (-1), .ref a156, .ref a157, .int 0, .ref a158, .ref a159, .ref a160])), (a158, .inl (G.2.1 0, 3, .inl (fun _ => 0)))] H) (hD : va_D (fun q : Nat => s.heap.size ≤ q) [(a1, .inr (5, [.ref a2, .ref a43, .ref a86, .ref a127, .ref a131, .int 0, .int 0, .int (-1)])), (a131, .inl (G.2.1 6, 3, .inr (.inr (.inr (.inr (va_up (va_up (va_up (fun _ => none) 0 (some a132)) 1 (some a135)) 2 (some a138))))))), (a132, .inr (0, [.ref a133, .ref a134, .int 0, .int 0])), (a135, .inr (0, [.ref a136, .ref a137, .int 0, .int 0])), (a138, .inr (0, [.ref a139, .ref a140, .int 0, .int 0])), (a149, .inr (6, [.ref a150, .ref a151, .ref a152, .int 0, .ref a153, .int 0, .int 0, .int 0, .int 0, .ref a154, .int 0, .ref a155, .int 0, .int 0, .int 0, .int (-1), .ref a156, .ref a157, .int 0, .ref a158, .ref a159, .ref a160])), (a158, .inl (G.2.1 0, 3, .inl (fun _ => 0)))]) (hS : va_S (fun q : Nat => s.heap.size ≤ q) s.heap H locs) (ls : Array Slot) (hl : lv_has ls 9 [(5, .int 0), (4, .ref a162), (3, .ref a161), (2, .ref a149), (1, .ref a1), (0, .ref b)]) : W p l e room_1 s m #[Value.ref b] below meth c H locs 482 60053 (lw_Z below #[Value.ref b] s) (F0 m 2337 ls []) := by
  obtain ⟨hx, hb, hr, hml, hown, hts0, hX, hbl, hlocks, hgv⟩ := id C0
  have hts : ∀ w ∈ pxAll, w.before #[Value.ref b] s = true := fun w h => hts0 w (List.mem_filter.mp h).1
  have hA : ∀ q : Nat, s.heap.size ≤ q → (fun q : Nat => s.heap.size ≤ q) q := fun _ h => h
  have hbA : ¬ (fun q : Nat => s.heap.size ≤ q) b := Nat.not_le.mpr hbl
  have hK := hG.1
  obtain ⟨p1, hp1⟩ : ∃ z : Int32, xs 1 = z := ⟨_, rfl⟩
  have r1 := pxRng p1
  obtain ⟨p2, hp2⟩ : ∃ z : Int32, xs 2 = z := ⟨_, rfl⟩
  have r2 := pxRng p2
  obtain ⟨p3, hp3⟩ : ∃ z : Int32, xs 3 = z := ⟨_, rfl⟩
  have r3 := pxRng p3
  refine lv_aload_n hx hb dL_law_2337 rfl (lv_at hl 4 rfl) ?_
  refine lv_aload_n hx hb dL_law_2338 rfl (lv_at hl 5 rfl) ?_
  refine lv_iload hx hb dL_law_2339 (lv_at hl 0 rfl) ?_
  refine lv_iconst (v := 1) hx hb dL_law_2341 (by decide) ?_
  refine lv_iadd hx hb dL_law_2342 ?_
  refine pxTop (w := .int 1) (congrArg Value.int (by decide)) ?_
  refine va_sld hx hb hX hbl hbA hS (show ¬ ((1 : Int32) < 0 ∨ 5 ≤ (1 : Int32).toNatClampNeg) by decide +kernel) dL_law_2343 ?_
  refine pxTop (w := .int p1) (congrArg Value.int hp1) ?_
  refine lv_aload_n hx hb dL_law_2344 rfl (lv_at hl 5 rfl) ?_
  refine lv_iload hx hb dL_law_2345 (lv_at hl 0 rfl) ?_
  refine lv_iconst (v := 2) hx hb dL_law_2347 (by decide) ?_
  refine lv_iadd hx hb dL_law_2348 ?_
  refine pxTop (w := .int 2) (congrArg Value.int (by decide)) ?_
  refine va_sld hx hb hX hbl hbA hS (show ¬ ((2 : Int32) < 0 ∨ 5 ≤ (2 : Int32).toNatClampNeg) by decide +kernel) dL_law_2349 ?_
  refine pxTop (w := .int p2) (congrArg Value.int hp2) ?_
  refine lv_aload_n hx hb dL_law_2350 rfl (lv_at hl 5 rfl) ?_
  refine lv_iload hx hb dL_law_2351 (lv_at hl 0 rfl) ?_
  refine lv_iconst (v := 3) hx hb dL_law_2353 (by decide) ?_
  refine lv_iadd hx hb dL_law_2354 ?_
  refine pxTop (w := .int 3) (congrArg Value.int (by decide)) ?_
  refine va_sld hx hb hX hbl hbA hS (show ¬ ((3 : Int32) < 0 ∨ 5 ≤ (3 : Int32).toNatClampNeg) by decide +kernel) dL_law_2355 ?_
  refine pxTop (w := .int p3) (congrArg Value.int hp3) ?_
  rcases Int.lt_or_le p3.toInt 0 with f1 | f1
  · skip
    refine lv_if_eq (tgt := 2363) hx hb dL_law_2356 (by decide) (fun h9 => absurd h9 (pxNe 0 (by decide) (by omega))) (fun _ => ?_)
    refine lv_iconst (v := 1) hx hb dL_law_2359 (by decide) ?_
    refine lv_goto (tgt := 2364) hx hb dL_law_2360 (by decide) ?_
    refine lv_aload_n hx hb dL_law_2364 rfl (lv_at hl 2 rfl) ?_
    refine pxCi (vx_runSW (As := [.ref a1, .int p1, .int p2, .int 1, .ref a161]) (rest := []) ⟨hx, hb, hml, hown, hts⟩ (k304_L_filed l hl9 G H.size a1 a131 a132 a135 a138 a161 a2 a43 a86 a127 a133 a134 a136 a137 a139 a140 p1 p2) (vx_cwSW 5 hts (pxGS pm693 pm694 pm136 pm695) rfl rfl rfl (by decide +kernel) ⟨(Nat.le_of_ble_eq_true rfl), (Nat.le_of_ble_eq_true rfl)⟩) (pxS hG hZ hP hD hS hA [0, 1, 2, 3, 4] rfl (by decide)) rfl rfl hl.1 rfl (lv_room (Nat.le_of_ble_eq_true rfl)) dL_law_2365 ⟨(Nat.le_of_ble_eq_true rfl), (Nat.le_of_ble_eq_true rfl)⟩) hP hD hS hA [0, 1, 2, 3, 4] [5, 6] rfl rfl (by decide) (by decide) (fun r2 q1 H locs hw hP hD hS => ?_)
    have hw : r2 = 1 := hw
    subst hw
    have hP : va_P G.1 pxCl [(a149, .inr (6, [.ref a150, .ref a151, .ref a152, .int 0, .ref a153, .int 0, .int 0, .int 0, .int 0, .ref a154, .int 0, .ref a155, .int 0, .int 0, .int 0, .int (-1), .ref a156, .ref a157, .int 0, .ref a158, .ref a159, .ref a160])), (a158, .inl (G.2.1 0, 3, .inl (fun _ => 0)))] H := hP
    have hD : va_D (fun q : Nat => s.heap.size ≤ q) [(a149, .inr (6, [.ref a150, .ref a151, .ref a152, .int 0, .ref a153, .int 0, .int 0, .int 0, .int 0, .ref a154, .int 0, .ref a155, .int 0, .int 0, .int 0, .int (-1), .ref a156, .ref a157, .int 0, .ref a158, .ref a159, .ref a160])), (a158, .inl (G.2.1 0, 3, .inl (fun _ => 0)))] := hD
    refine W.widen (k := 483) (n := 60059) (Nat.le_of_ble_eq_true rfl) (Nat.le_of_ble_eq_true rfl) ?_
    refine lv_istore (lv' := [(6, .int 1), (5, .int 0), (4, .ref a162), (3, .ref a161), (2, .ref a149), (1, .ref a1), (0, .ref b)]) hx hb dL_law_2368 hl (by decide) rfl (fun ls hl => ?_)
    refine lv_aload_n hx hb dL_law_2370 rfl (lv_at hl 4 rfl) ?_
    refine lv_aload_n hx hb dL_law_2371 rfl (lv_at hl 6 rfl) ?_
    refine lv_iload hx hb dL_law_2372 (lv_at hl 1 rfl) ?_
    refine lv_iconst (v := 1) hx hb dL_law_2374 (by decide) ?_
    refine lv_iadd hx hb dL_law_2375 ?_
    refine pxTop (w := .int 1) (congrArg Value.int (by decide)) ?_
    refine va_sld hx hb hX hbl hbA hS (show ¬ ((1 : Int32) < 0 ∨ 5 ≤ (1 : Int32).toNatClampNeg) by decide +kernel) dL_law_2376 ?_
    refine pxTop (w := .int p1) (congrArg Value.int hp1) ?_
    refine lv_aload_n hx hb dL_law_2377 rfl (lv_at hl 6 rfl) ?_
    refine lv_iload hx hb dL_law_2378 (lv_at hl 1 rfl) ?_
    refine lv_iconst (v := 2) hx hb dL_law_2380 (by decide) ?_
    refine lv_iadd hx hb dL_law_2381 ?_
    refine pxTop (w := .int 2) (congrArg Value.int (by decide)) ?_
    refine va_sld hx hb hX hbl hbA hS (show ¬ ((2 : Int32) < 0 ∨ 5 ≤ (2 : Int32).toNatClampNeg) by decide +kernel) dL_law_2382 ?_
    refine pxTop (w := .int p2) (congrArg Value.int hp2) ?_
    refine lv_aload_n hx hb dL_law_2383 rfl (lv_at hl 6 rfl) ?_
    refine lv_iload hx hb dL_law_2384 (lv_at hl 1 rfl) ?_
    refine lv_iconst (v := 3) hx hb dL_law_2386 (by decide) ?_
    refine lv_iadd hx hb dL_law_2387 ?_
    refine pxTop (w := .int 3) (congrArg Value.int (by decide)) ?_
    refine va_sld hx hb hX hbl hbA hS (show ¬ ((3 : Int32) < 0 ∨ 5 ≤ (3 : Int32).toNatClampNeg) by decide +kernel) dL_law_2388 ?_
    refine pxTop (w := .int p3) (congrArg Value.int hp3) ?_
    refine lv_if_eq (tgt := 2396) hx hb dL_law_2389 (by decide) (fun h9 => absurd h9 (pxNe 0 (by decide) (by omega))) (fun _ => ?_)
    refine lv_iconst (v := 1) hx hb dL_law_2392 (by decide) ?_
    refine lv_goto (tgt := 2397) hx hb dL_law_2393 (by decide) ?_
    refine pxCi (va_runV (As := [.int p1, .int p2, .int 1]) (rest := []) ⟨hx, hb, hml, hown, hts⟩ (k306_X7_filed l G H.size a149 a158 a150 a151 a152 a153 a154 a155 a156 a157 a159 a160 p1 p2) (cwV 3 hts (pxGV pm696 pm697 pm698 pm71 pm699) rfl rfl rfl (by decide +kernel) ⟨(Nat.le_of_ble_eq_true rfl), (Nat.le_of_ble_eq_true rfl)⟩) (pxV (ci := 6) (q0 := 0) hG hZ hP hD hS hA [0, 1] rfl (by decide) rfl rfl) rfl rfl hl.1 rfl (lv_room (Nat.le_of_ble_eq_true rfl)) dL_law_2397 ⟨(Nat.le_of_ble_eq_true rfl), (Nat.le_of_ble_eq_true rfl)⟩) hP hD hS hA [0, 1] [] rfl rfl (by decide) (by decide) (fun r4 q3 H locs hw hP hD hS => ?_)
    have hw : r4 = 0 := hw
    subst hw
    have hP : va_P G.1 pxCl [(a149, .inr (6, [.ref a150, .ref a151, .ref a152, .int 0, .ref a153, .int 0, .int 0, .int 1, .int 0, .ref a154, .int 0, .ref a155, .int 0, .int 0, .int 0, .int (-1), .ref a156, .ref a157, .int 0, .ref a158, .ref a159, .ref a160]))] H := hP
    have hD : va_D (fun q : Nat => s.heap.size ≤ q) [(a149, .inr (6, [.ref a150, .ref a151, .ref a152, .int 0, .ref a153, .int 0, .int 0, .int 1, .int 0, .ref a154, .int 0, .ref a155, .int 0, .int 0, .int 0, .int (-1), .ref a156, .ref a157, .int 0, .ref a158, .ref a159, .ref a160]))] := hD
    refine lv_istore (lv' := [(7, .int 0), (6, .int 1), (5, .int 0), (4, .ref a162), (3, .ref a161), (2, .ref a149), (1, .ref a1), (0, .ref b)]) hx hb dL_law_2400 hl (by decide) rfl (fun ls hl => ?_)
    refine lv_aload_n hx hb dL_law_2402 rfl (lv_at hl 5 rfl) ?_
    refine pxCi (va_runV (As := []) (rest := []) ⟨hx, hb, hml, hown, hts⟩ (k158_X7_thrown l G H.size a149 a150 a151 a152 a153 a154 a155 a156 a157 a158 a159 a160) (cwV 0 hts (pxGV pm160 pm161 pm162 pm71 pm163) rfl rfl rfl (by decide +kernel) ⟨(Nat.le_of_ble_eq_true rfl), (Nat.le_of_ble_eq_true rfl)⟩) (pxV (ci := 6) (q0 := 0) hG hZ hP hD hS hA [0] rfl (by decide) rfl rfl) rfl rfl hl.1 rfl (lv_room (Nat.le_of_ble_eq_true rfl)) dL_law_2403 ⟨(Nat.le_of_ble_eq_true rfl), (Nat.le_of_ble_eq_true rfl)⟩) hP hD hS hA [0] [] rfl rfl (by decide) (by decide) (fun r6 q5 H locs hw hP hD hS => ?_)
    have hw : r6 = 1 := hw
    subst hw
    have hP : va_P G.1 pxCl [(a149, .inr (6, [.ref a150, .ref a151, .ref a152, .int 0, .ref a153, .int 0, .int 0, .int 1, .int 0, .ref a154, .int 0, .ref a155, .int 0, .int 0, .int 0, .int (-1), .ref a156, .ref a157, .int 0, .ref a158, .ref a159, .ref a160]))] H := hP
    have hD : va_D (fun q : Nat => s.heap.size ≤ q) [(a149, .inr (6, [.ref a150, .ref a151, .ref a152, .int 0, .ref a153, .int 0, .int 0, .int 1, .int 0, .ref a154, .int 0, .ref a155, .int 0, .int 0, .int 0, .int (-1), .ref a156, .ref a157, .int 0, .ref a158, .ref a159, .ref a160]))] := hD
    refine lv_iload hx hb dL_law_2406 (lv_at hl 1 rfl) ?_
    refine lv_icmp_eq (tgt := 2413) hx hb dL_law_2408 (by decide) (fun _ => ?_) (fun h9 => absurd (by decide) h9)
    refine lv_iload hx hb dL_law_2413 (lv_at hl 1 rfl) ?_
    refine lv_if_ne (tgt := 2430) hx hb dL_law_2415 (by decide) (fun _ => ?_) (fun h9 => absurd h9 (by decide))
    refine lv_goto (tgt := 2658) hx hb dL_law_2430 (by decide) ?_
    refine W.widen (k := 2000) (n := 200000) (Nat.le_of_ble_eq_true rfl) (Nat.le_of_ble_eq_true rfl) ?_
    exact law_tail hl9 G C0 hG hZ H locs hS ls (lv_sub hl [2, 7] rfl)
  · skip
    rcases Int.lt_or_le p3.toInt 1 with f2 | f2
    · skip
      obtain rfl : p3 = 0 := pxEq 0 (by have h9 : (0 : Int32).toInt = 0 := (by decide); omega)
      refine lv_if_eq (tgt := 2363) hx hb dL_law_2356 (by decide) (fun _ => ?_) (fun h9 => absurd (by decide) h9)
      refine lv_iconst (v := 0) hx hb dL_law_2363 (by decide) ?_
      refine lv_aload_n hx hb dL_law_2364 rfl (lv_at hl 2 rfl) ?_
      refine pxCi (vx_runSW (As := [.ref a1, .int p1, .int p2, .int 0, .ref a161]) (rest := []) ⟨hx, hb, hml, hown, hts⟩ (k307_L_filed l hl9 G H.size a1 a131 a132 a135 a138 a161 a2 a43 a86 a127 a133 a134 a136 a137 a139 a140 p1 p2) (vx_cwSW 5 hts (pxGS pm693 pm694 pm136 pm695) rfl rfl rfl (by decide +kernel) ⟨(Nat.le_of_ble_eq_true rfl), (Nat.le_of_ble_eq_true rfl)⟩) (pxS hG hZ hP hD hS hA [0, 1, 2, 3, 4] rfl (by decide)) rfl rfl hl.1 rfl (lv_room (Nat.le_of_ble_eq_true rfl)) dL_law_2365 ⟨(Nat.le_of_ble_eq_true rfl), (Nat.le_of_ble_eq_true rfl)⟩) hP hD hS hA [0, 1, 2, 3, 4] [5, 6] rfl rfl (by decide) (by decide) (fun r2 q1 H locs hw hP hD hS => ?_)
      have hw : r2 = 1 := hw
      subst hw
      have hP : va_P G.1 pxCl [(a149, .inr (6, [.ref a150, .ref a151, .ref a152, .int 0, .ref a153, .int 0, .int 0, .int 0, .int 0, .ref a154, .int 0, .ref a155, .int 0, .int 0, .int 0, .int (-1), .ref a156, .ref a157, .int 0, .ref a158, .ref a159, .ref a160])), (a158, .inl (G.2.1 0, 3, .inl (fun _ => 0)))] H := hP
      have hD : va_D (fun q : Nat => s.heap.size ≤ q) [(a149, .inr (6, [.ref a150, .ref a151, .ref a152, .int 0, .ref a153, .int 0, .int 0, .int 0, .int 0, .ref a154, .int 0, .ref a155, .int 0, .int 0, .int 0, .int (-1), .ref a156, .ref a157, .int 0, .ref a158, .ref a159, .ref a160])), (a158, .inl (G.2.1 0, 3, .inl (fun _ => 0)))] := hD
      refine W.widen (k := 483) (n := 60059) (Nat.le_of_ble_eq_true rfl) (Nat.le_of_ble_eq_true rfl) ?_
      refine lv_istore (lv' := [(6, .int 1), (5, .int 0), (4, .ref a162), (3, .ref a161), (2, .ref a149), (1, .ref a1), (0, .ref b)]) hx hb dL_law_2368 hl (by decide) rfl (fun ls hl => ?_)
      refine lv_aload_n hx hb dL_law_2370 rfl (lv_at hl 4 rfl) ?_
      refine lv_aload_n hx hb dL_law_2371 rfl (lv_at hl 6 rfl) ?_
      refine lv_iload hx hb dL_law_2372 (lv_at hl 1 rfl) ?_
      refine lv_iconst (v := 1) hx hb dL_law_2374 (by decide) ?_
      refine lv_iadd hx hb dL_law_2375 ?_
      refine pxTop (w := .int 1) (congrArg Value.int (by decide)) ?_
      refine va_sld hx hb hX hbl hbA hS (show ¬ ((1 : Int32) < 0 ∨ 5 ≤ (1 : Int32).toNatClampNeg) by decide +kernel) dL_law_2376 ?_
      refine pxTop (w := .int p1) (congrArg Value.int hp1) ?_
      refine lv_aload_n hx hb dL_law_2377 rfl (lv_at hl 6 rfl) ?_
      refine lv_iload hx hb dL_law_2378 (lv_at hl 1 rfl) ?_
      refine lv_iconst (v := 2) hx hb dL_law_2380 (by decide) ?_
      refine lv_iadd hx hb dL_law_2381 ?_
      refine pxTop (w := .int 2) (congrArg Value.int (by decide)) ?_
      refine va_sld hx hb hX hbl hbA hS (show ¬ ((2 : Int32) < 0 ∨ 5 ≤ (2 : Int32).toNatClampNeg) by decide +kernel) dL_law_2382 ?_
      refine pxTop (w := .int p2) (congrArg Value.int hp2) ?_
      refine lv_aload_n hx hb dL_law_2383 rfl (lv_at hl 6 rfl) ?_
      refine lv_iload hx hb dL_law_2384 (lv_at hl 1 rfl) ?_
      refine lv_iconst (v := 3) hx hb dL_law_2386 (by decide) ?_
      refine lv_iadd hx hb dL_law_2387 ?_
      refine pxTop (w := .int 3) (congrArg Value.int (by decide)) ?_
      refine va_sld hx hb hX hbl hbA hS (show ¬ ((3 : Int32) < 0 ∨ 5 ≤ (3 : Int32).toNatClampNeg) by decide +kernel) dL_law_2388 ?_
      refine pxTop (w := .int 0) (congrArg Value.int hp3) ?_
      refine lv_if_eq (tgt := 2396) hx hb dL_law_2389 (by decide) (fun _ => ?_) (fun h9 => absurd (by decide) h9)
      refine lv_iconst (v := 0) hx hb dL_law_2396 (by decide) ?_
      refine pxCi (va_runV (As := [.int p1, .int p2, .int 0]) (rest := []) ⟨hx, hb, hml, hown, hts⟩ (k309_X7_filed l G H.size a149 a158 a150 a151 a152 a153 a154 a155 a156 a157 a159 a160 p1 p2) (cwV 3 hts (pxGV pm696 pm697 pm698 pm71 pm699) rfl rfl rfl (by decide +kernel) ⟨(Nat.le_of_ble_eq_true rfl), (Nat.le_of_ble_eq_true rfl)⟩) (pxV (ci := 6) (q0 := 0) hG hZ hP hD hS hA [0, 1] rfl (by decide) rfl rfl) rfl rfl hl.1 rfl (lv_room (Nat.le_of_ble_eq_true rfl)) dL_law_2397 ⟨(Nat.le_of_ble_eq_true rfl), (Nat.le_of_ble_eq_true rfl)⟩) hP hD hS hA [0, 1] [] rfl rfl (by decide) (by decide) (fun r4 q3 H locs hw hP hD hS => ?_)
      have hw : r4 = 0 := hw
      subst hw
      have hP : va_P G.1 pxCl [(a149, .inr (6, [.ref a150, .ref a151, .ref a152, .int 0, .ref a153, .int 0, .int 0, .int 1, .int 0, .ref a154, .int 0, .ref a155, .int 0, .int 0, .int 0, .int (-1), .ref a156, .ref a157, .int 0, .ref a158, .ref a159, .ref a160]))] H := hP
      have hD : va_D (fun q : Nat => s.heap.size ≤ q) [(a149, .inr (6, [.ref a150, .ref a151, .ref a152, .int 0, .ref a153, .int 0, .int 0, .int 1, .int 0, .ref a154, .int 0, .ref a155, .int 0, .int 0, .int 0, .int (-1), .ref a156, .ref a157, .int 0, .ref a158, .ref a159, .ref a160]))] := hD
      refine lv_istore (lv' := [(7, .int 0), (6, .int 1), (5, .int 0), (4, .ref a162), (3, .ref a161), (2, .ref a149), (1, .ref a1), (0, .ref b)]) hx hb dL_law_2400 hl (by decide) rfl (fun ls hl => ?_)
      refine lv_aload_n hx hb dL_law_2402 rfl (lv_at hl 5 rfl) ?_
      refine pxCi (va_runV (As := []) (rest := []) ⟨hx, hb, hml, hown, hts⟩ (k158_X7_thrown l G H.size a149 a150 a151 a152 a153 a154 a155 a156 a157 a158 a159 a160) (cwV 0 hts (pxGV pm160 pm161 pm162 pm71 pm163) rfl rfl rfl (by decide +kernel) ⟨(Nat.le_of_ble_eq_true rfl), (Nat.le_of_ble_eq_true rfl)⟩) (pxV (ci := 6) (q0 := 0) hG hZ hP hD hS hA [0] rfl (by decide) rfl rfl) rfl rfl hl.1 rfl (lv_room (Nat.le_of_ble_eq_true rfl)) dL_law_2403 ⟨(Nat.le_of_ble_eq_true rfl), (Nat.le_of_ble_eq_true rfl)⟩) hP hD hS hA [0] [] rfl rfl (by decide) (by decide) (fun r6 q5 H locs hw hP hD hS => ?_)
      have hw : r6 = 1 := hw
      subst hw
      have hP : va_P G.1 pxCl [(a149, .inr (6, [.ref a150, .ref a151, .ref a152, .int 0, .ref a153, .int 0, .int 0, .int 1, .int 0, .ref a154, .int 0, .ref a155, .int 0, .int 0, .int 0, .int (-1), .ref a156, .ref a157, .int 0, .ref a158, .ref a159, .ref a160]))] H := hP
      have hD : va_D (fun q : Nat => s.heap.size ≤ q) [(a149, .inr (6, [.ref a150, .ref a151, .ref a152, .int 0, .ref a153, .int 0, .int 0, .int 1, .int 0, .ref a154, .int 0, .ref a155, .int 0, .int 0, .int 0, .int (-1), .ref a156, .ref a157, .int 0, .ref a158, .ref a159, .ref a160]))] := hD
      refine lv_iload hx hb dL_law_2406 (lv_at hl 1 rfl) ?_
      refine lv_icmp_eq (tgt := 2413) hx hb dL_law_2408 (by decide) (fun _ => ?_) (fun h9 => absurd (by decide) h9)
      refine lv_iload hx hb dL_law_2413 (lv_at hl 1 rfl) ?_
      refine lv_if_ne (tgt := 2430) hx hb dL_law_2415 (by decide) (fun _ => ?_) (fun h9 => absurd h9 (by decide))
      refine lv_goto (tgt := 2658) hx hb dL_law_2430 (by decide) ?_
      refine W.widen (k := 2000) (n := 200000) (Nat.le_of_ble_eq_true rfl) (Nat.le_of_ble_eq_true rfl) ?_
      exact law_tail hl9 G C0 hG hZ H locs hS ls (lv_sub hl [2, 7] rfl)
    · skip
      refine lv_if_eq (tgt := 2363) hx hb dL_law_2356 (by decide) (fun h9 => absurd h9 (pxNe 0 (by decide) (by omega))) (fun _ => ?_)
      refine lv_iconst (v := 1) hx hb dL_law_2359 (by decide) ?_
      refine lv_goto (tgt := 2364) hx hb dL_law_2360 (by decide) ?_
      refine lv_aload_n hx hb dL_law_2364 rfl (lv_at hl 2 rfl) ?_
      refine pxCi (vx_runSW (As := [.ref a1, .int p1, .int p2, .int 1, .ref a161]) (rest := []) ⟨hx, hb, hml, hown, hts⟩ (k304_L_filed l hl9 G H.size a1 a131 a132 a135 a138 a161 a2 a43 a86 a127 a133 a134 a136 a137 a139 a140 p1 p2) (vx_cwSW 5 hts (pxGS pm693 pm694 pm136 pm695) rfl rfl rfl (by decide +kernel) ⟨(Nat.le_of_ble_eq_true rfl), (Nat.le_of_ble_eq_true rfl)⟩) (pxS hG hZ hP hD hS hA [0, 1, 2, 3, 4] rfl (by decide)) rfl rfl hl.1 rfl (lv_room (Nat.le_of_ble_eq_true rfl)) dL_law_2365 ⟨(Nat.le_of_ble_eq_true rfl), (Nat.le_of_ble_eq_true rfl)⟩) hP hD hS hA [0, 1, 2, 3, 4] [5, 6] rfl rfl (by decide) (by decide) (fun r2 q1 H locs hw hP hD hS => ?_)
      have hw : r2 = 1 := hw
      subst hw
      have hP : va_P G.1 pxCl [(a149, .inr (6, [.ref a150, .ref a151, .ref a152, .int 0, .ref a153, .int 0, .int 0, .int 0, .int 0, .ref a154, .int 0, .ref a155, .int 0, .int 0, .int 0, .int (-1), .ref a156, .ref a157, .int 0, .ref a158, .ref a159, .ref a160])), (a158, .inl (G.2.1 0, 3, .inl (fun _ => 0)))] H := hP
      have hD : va_D (fun q : Nat => s.heap.size ≤ q) [(a149, .inr (6, [.ref a150, .ref a151, .ref a152, .int 0, .ref a153, .int 0, .int 0, .int 0, .int 0, .ref a154, .int 0, .ref a155, .int 0, .int 0, .int 0, .int (-1), .ref a156, .ref a157, .int 0, .ref a158, .ref a159, .ref a160])), (a158, .inl (G.2.1 0, 3, .inl (fun _ => 0)))] := hD
      refine W.widen (k := 483) (n := 60059) (Nat.le_of_ble_eq_true rfl) (Nat.le_of_ble_eq_true rfl) ?_
      refine lv_istore (lv' := [(6, .int 1), (5, .int 0), (4, .ref a162), (3, .ref a161), (2, .ref a149), (1, .ref a1), (0, .ref b)]) hx hb dL_law_2368 hl (by decide) rfl (fun ls hl => ?_)
      refine lv_aload_n hx hb dL_law_2370 rfl (lv_at hl 4 rfl) ?_
      refine lv_aload_n hx hb dL_law_2371 rfl (lv_at hl 6 rfl) ?_
      refine lv_iload hx hb dL_law_2372 (lv_at hl 1 rfl) ?_
      refine lv_iconst (v := 1) hx hb dL_law_2374 (by decide) ?_
      refine lv_iadd hx hb dL_law_2375 ?_
      refine pxTop (w := .int 1) (congrArg Value.int (by decide)) ?_
      refine va_sld hx hb hX hbl hbA hS (show ¬ ((1 : Int32) < 0 ∨ 5 ≤ (1 : Int32).toNatClampNeg) by decide +kernel) dL_law_2376 ?_
      refine pxTop (w := .int p1) (congrArg Value.int hp1) ?_
      refine lv_aload_n hx hb dL_law_2377 rfl (lv_at hl 6 rfl) ?_
      refine lv_iload hx hb dL_law_2378 (lv_at hl 1 rfl) ?_
      refine lv_iconst (v := 2) hx hb dL_law_2380 (by decide) ?_
      refine lv_iadd hx hb dL_law_2381 ?_
      refine pxTop (w := .int 2) (congrArg Value.int (by decide)) ?_
      refine va_sld hx hb hX hbl hbA hS (show ¬ ((2 : Int32) < 0 ∨ 5 ≤ (2 : Int32).toNatClampNeg) by decide +kernel) dL_law_2382 ?_
      refine pxTop (w := .int p2) (congrArg Value.int hp2) ?_
      refine lv_aload_n hx hb dL_law_2383 rfl (lv_at hl 6 rfl) ?_
      refine lv_iload hx hb dL_law_2384 (lv_at hl 1 rfl) ?_
      refine lv_iconst (v := 3) hx hb dL_law_2386 (by decide) ?_
      refine lv_iadd hx hb dL_law_2387 ?_
      refine pxTop (w := .int 3) (congrArg Value.int (by decide)) ?_
      refine va_sld hx hb hX hbl hbA hS (show ¬ ((3 : Int32) < 0 ∨ 5 ≤ (3 : Int32).toNatClampNeg) by decide +kernel) dL_law_2388 ?_
      refine pxTop (w := .int p3) (congrArg Value.int hp3) ?_
      refine lv_if_eq (tgt := 2396) hx hb dL_law_2389 (by decide) (fun h9 => absurd h9 (pxNe 0 (by decide) (by omega))) (fun _ => ?_)
      refine lv_iconst (v := 1) hx hb dL_law_2392 (by decide) ?_
      refine lv_goto (tgt := 2397) hx hb dL_law_2393 (by decide) ?_
      refine pxCi (va_runV (As := [.int p1, .int p2, .int 1]) (rest := []) ⟨hx, hb, hml, hown, hts⟩ (k306_X7_filed l G H.size a149 a158 a150 a151 a152 a153 a154 a155 a156 a157 a159 a160 p1 p2) (cwV 3 hts (pxGV pm696 pm697 pm698 pm71 pm699) rfl rfl rfl (by decide +kernel) ⟨(Nat.le_of_ble_eq_true rfl), (Nat.le_of_ble_eq_true rfl)⟩) (pxV (ci := 6) (q0 := 0) hG hZ hP hD hS hA [0, 1] rfl (by decide) rfl rfl) rfl rfl hl.1 rfl (lv_room (Nat.le_of_ble_eq_true rfl)) dL_law_2397 ⟨(Nat.le_of_ble_eq_true rfl), (Nat.le_of_ble_eq_true rfl)⟩) hP hD hS hA [0, 1] [] rfl rfl (by decide) (by decide) (fun r4 q3 H locs hw hP hD hS => ?_)
      have hw : r4 = 0 := hw
      subst hw
      have hP : va_P G.1 pxCl [(a149, .inr (6, [.ref a150, .ref a151, .ref a152, .int 0, .ref a153, .int 0, .int 0, .int 1, .int 0, .ref a154, .int 0, .ref a155, .int 0, .int 0, .int 0, .int (-1), .ref a156, .ref a157, .int 0, .ref a158, .ref a159, .ref a160]))] H := hP
      have hD : va_D (fun q : Nat => s.heap.size ≤ q) [(a149, .inr (6, [.ref a150, .ref a151, .ref a152, .int 0, .ref a153, .int 0, .int 0, .int 1, .int 0, .ref a154, .int 0, .ref a155, .int 0, .int 0, .int 0, .int (-1), .ref a156, .ref a157, .int 0, .ref a158, .ref a159, .ref a160]))] := hD
      refine lv_istore (lv' := [(7, .int 0), (6, .int 1), (5, .int 0), (4, .ref a162), (3, .ref a161), (2, .ref a149), (1, .ref a1), (0, .ref b)]) hx hb dL_law_2400 hl (by decide) rfl (fun ls hl => ?_)
      refine lv_aload_n hx hb dL_law_2402 rfl (lv_at hl 5 rfl) ?_
      refine pxCi (va_runV (As := []) (rest := []) ⟨hx, hb, hml, hown, hts⟩ (k158_X7_thrown l G H.size a149 a150 a151 a152 a153 a154 a155 a156 a157 a158 a159 a160) (cwV 0 hts (pxGV pm160 pm161 pm162 pm71 pm163) rfl rfl rfl (by decide +kernel) ⟨(Nat.le_of_ble_eq_true rfl), (Nat.le_of_ble_eq_true rfl)⟩) (pxV (ci := 6) (q0 := 0) hG hZ hP hD hS hA [0] rfl (by decide) rfl rfl) rfl rfl hl.1 rfl (lv_room (Nat.le_of_ble_eq_true rfl)) dL_law_2403 ⟨(Nat.le_of_ble_eq_true rfl), (Nat.le_of_ble_eq_true rfl)⟩) hP hD hS hA [0] [] rfl rfl (by decide) (by decide) (fun r6 q5 H locs hw hP hD hS => ?_)
      have hw : r6 = 1 := hw
      subst hw
      have hP : va_P G.1 pxCl [(a149, .inr (6, [.ref a150, .ref a151, .ref a152, .int 0, .ref a153, .int 0, .int 0, .int 1, .int 0, .ref a154, .int 0, .ref a155, .int 0, .int 0, .int 0, .int (-1), .ref a156, .ref a157, .int 0, .ref a158, .ref a159, .ref a160]))] H := hP
      have hD : va_D (fun q : Nat => s.heap.size ≤ q) [(a149, .inr (6, [.ref a150, .ref a151, .ref a152, .int 0, .ref a153, .int 0, .int 0, .int 1, .int 0, .ref a154, .int 0, .ref a155, .int 0, .int 0, .int 0, .int (-1), .ref a156, .ref a157, .int 0, .ref a158, .ref a159, .ref a160]))] := hD
      refine lv_iload hx hb dL_law_2406 (lv_at hl 1 rfl) ?_
      refine lv_icmp_eq (tgt := 2413) hx hb dL_law_2408 (by decide) (fun _ => ?_) (fun h9 => absurd (by decide) h9)
      refine lv_iload hx hb dL_law_2413 (lv_at hl 1 rfl) ?_
      refine lv_if_ne (tgt := 2430) hx hb dL_law_2415 (by decide) (fun _ => ?_) (fun h9 => absurd h9 (by decide))
      refine lv_goto (tgt := 2658) hx hb dL_law_2430 (by decide) ?_
      refine W.widen (k := 2000) (n := 200000) (Nat.le_of_ble_eq_true rfl) (Nat.le_of_ble_eq_true rfl) ?_
      exact law_tail hl9 G C0 hG hZ H locs hS ls (lv_sub hl [2, 7] rfl)
