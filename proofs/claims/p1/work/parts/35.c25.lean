theorem pm553 : Cond.methodLink RX6 281 yX3_parcels ∈ pxAll := pxM 1095 (by decide +kernel) rfl
theorem pm554 : Cond.instanceMethod yX3_parcels ∈ pxAll := pxM 1096 (by decide +kernel) rfl
theorem pm555 : Cond.selects RX3 yX3_parcels yX3_parcels ∈ pxAll := pxM 1097 (by decide +kernel) rfl
set_option maxRecDepth 100000 in
theorem pm556 : Cond.code yX3_parcels cX3_parcels 3 (some .int) ∈ pxAll := pxM 1098 rfl rfl
theorem pm557 : Cond.classLink RX6 284 "java/lang/ArithmeticException" ∈ pxAll := pxM 1099 (by decide +kernel) rfl
theorem pm558 : Cond.initialized "java/lang/ArithmeticException" ∈ pxAll := pxM 110 (by decide +kernel) rfl
theorem pm559 : Cond.methodLink RX6 251 yX6_requireParcels ∈ pxAll := pxM 1091 (by decide +kernel) rfl
theorem pm560 : Cond.instanceMethod yX6_requireParcels ∈ pxAll := pxM 1093 (by decide +kernel) rfl
theorem pm561 : Cond.selects RX6 yX6_requireParcels yX6_requireParcels ∈ pxAll := pxM 23 (by decide +kernel) rfl
set_option maxRecDepth 100000 in
theorem pm562 : Cond.code yX6_requireParcels cX6_requireParcels 1 none ∈ pxAll := pxM 1094 rfl rfl
theorem pm563 : Cond.methodLink RL 99 yX6_load ∈ pxAll := pxM 1087 (by decide +kernel) rfl
theorem pm564 : Cond.instanceMethod yX6_load ∈ pxAll := pxM 1088 (by decide +kernel) rfl
theorem pm565 : Cond.selects RX6 yX6_load yX6_load ∈ pxAll := pxM 1089 (by decide +kernel) rfl
set_option maxRecDepth 100000 in
theorem pm566 : Cond.code yX6_load cX6_load 1 (some .double) ∈ pxAll := pxM 1090 rfl rfl
theorem pm567 : Cond.classLink RL 103 "java/lang/ArithmeticException" ∈ pxAll := pxM 1073 (by decide +kernel) rfl
theorem pm568 : Cond.methodLink RL 229 yL_load ∈ pxAll := pxM 1070 (by decide +kernel) rfl
theorem pm569 : Cond.static yL_load ∈ pxAll := pxM 1071 (by decide +kernel) rfl
set_option maxRecDepth 100000 in
theorem pm570 : Cond.codeWith yL_load cL_load 3 (some .int) [(0, 7, 10, 103)] ∈ pxAll := pxM 1072 rfl rfl
theorem pm571 : Cond.methodLink RX7 285 yX7_parcelsThere ∈ pxAll := pxM 1709 (by decide +kernel) rfl
theorem pm572 : Cond.instanceMethod yX7_parcelsThere ∈ pxAll := pxM 1711 (by decide +kernel) rfl
theorem pm573 : Cond.selects RX7 yX7_parcelsThere yX7_parcelsThere ∈ pxAll := pxM 79 (by decide +kernel) rfl
set_option maxRecDepth 100000 in
theorem pm574 : Cond.code yX7_parcelsThere cX7_parcelsThere 3 (some .int) ∈ pxAll := pxM 1712 rfl rfl
theorem pm575 : Cond.methodLink RL 232 yX7_load ∈ pxAll := pxM 1705 (by decide +kernel) rfl
theorem pm576 : Cond.instanceMethod yX7_load ∈ pxAll := pxM 1706 (by decide +kernel) rfl
theorem pm577 : Cond.selects RX7 yX7_load yX7_load ∈ pxAll := pxM 1707 (by decide +kernel) rfl
set_option maxRecDepth 100000 in
theorem pm578 : Cond.code yX7_load cX7_load 3 (some .double) ∈ pxAll := pxM 1708 rfl rfl
theorem dL_law_1934 : decode cL_law 1934 = .ok (.aload_n 1, 1) := by decide +kernel
theorem dL_law_1935 : decode cL_law 1935 = .ok (.aload 4, 2) := by decide +kernel
theorem dL_load_0 : decode cL_load 0 = .ok (.aload_n 1, 1) := by decide +kernel
theorem dL_load_1 : decode cL_load 1 = .ok (.iconst 0, 1) := by decide +kernel
theorem dL_load_2 : decode cL_load 2 = .ok (.aload_n 0, 1) := by decide +kernel
theorem dX6_load_0 : decode cX6_load 0 = .ok (.aload_n 0, 1) := by decide +kernel
theorem dX6_requireParcels_0 : decode cX6_requireParcels 0 = .ok (.aload_n 0, 1) := by decide +kernel
theorem dX6_requireParcels_1 : decode cX6_requireParcels 1 = .ok (.getfield 10, 3) := by decide +kernel
theorem dX3_parcels_0 : decode cX3_parcels 0 = .ok (.iconst 0, 1) := by decide +kernel
theorem dX3_parcels_1 : decode cX3_parcels 1 = .ok (.istore_n 1, 1) := by decide +kernel
theorem dX3_parcels_2 : decode cX3_parcels 2 = .ok (.iconst 0, 1) := by decide +kernel
theorem dX3_parcels_3 : decode cX3_parcels 3 = .ok (.istore_n 2, 1) := by decide +kernel
theorem dX3_parcels_4 : decode cX3_parcels 4 = .ok (.iload_n 2, 1) := by decide +kernel
theorem dX3_parcels_5 : decode cX3_parcels 5 = .ok (.aload_n 0, 1) := by decide +kernel
theorem dX3_parcels_6 : decode cX3_parcels 6 = .ok (.getfield 51, 3) := by decide +kernel
theorem dX3_parcels_9 : decode cX3_parcels 9 = .ok (.if_icmp .ge 20, 3) := by decide +kernel
theorem dX3_parcels_29 : decode cX3_parcels 29 = .ok (.iload_n 1, 1) := by decide +kernel
theorem dX3_parcels_30 : decode cX3_parcels 30 = .ok (.ireturn, 1) := by decide +kernel
theorem dX6_requireParcels_4 : decode cX6_requireParcels 4 = .ok (.invokevirtual 281, 3) := by decide +kernel
theorem dX6_requireParcels_7 : decode cX6_requireParcels 7 = .ok (.ifCond .ne 14, 3) := by decide +kernel
theorem dX6_requireParcels_10 : decode cX6_requireParcels 10 = .ok (.new 284, 3) := by decide +kernel
theorem dX6_requireParcels_13 : decode cX6_requireParcels 13 = .ok (.dup, 1) := by decide +kernel
theorem dX6_requireParcels_14 : decode cX6_requireParcels 14 = .ok (.ldc_w 286, 3) := by decide +kernel
theorem dX6_requireParcels_17 : decode cX6_requireParcels 17 = .ok (.invokespecial 288, 3) := by decide +kernel
theorem dX6_requireParcels_20 : decode cX6_requireParcels 20 = .ok (.athrow, 1) := by decide +kernel
theorem dX6_load_1 : decode cX6_load 1 = .ok (.invokevirtual 251, 3) := by decide +kernel
theorem dL_load_3 : decode cL_load 3 = .ok (.invokevirtual 99, 3) := by decide +kernel
theorem dL_load_10 : decode cL_load 10 = .ok (.astore_n 2, 1) := by decide +kernel
theorem dL_load_11 : decode cL_load 11 = .ok (.iconst 1, 1) := by decide +kernel
theorem dL_load_12 : decode cL_load 12 = .ok (.ireturn, 1) := by decide +kernel
theorem dL_law_1937 : decode cL_law 1937 = .ok (.invokestatic 229, 3) := by decide +kernel
theorem dL_law_1940 : decode cL_law 1940 = .ok (.istore 6, 2) := by decide +kernel
theorem dL_law_1942 : decode cL_law 1942 = .ok (.aload_n 2, 1) := by decide +kernel
theorem dX7_load_0 : decode cX7_load 0 = .ok (.aload_n 0, 1) := by decide +kernel
theorem dX7_load_1 : decode cX7_load 1 = .ok (.aload_n 0, 1) := by decide +kernel
theorem dX7_parcelsThere_0 : decode cX7_parcelsThere 0 = .ok (.iconst 0, 1) := by decide +kernel
theorem dX7_parcelsThere_1 : decode cX7_parcelsThere 1 = .ok (.istore_n 1, 1) := by decide +kernel
theorem dX7_parcelsThere_2 : decode cX7_parcelsThere 2 = .ok (.iconst 0, 1) := by decide +kernel
theorem dX7_parcelsThere_3 : decode cX7_parcelsThere 3 = .ok (.istore_n 2, 1) := by decide +kernel
theorem dX7_parcelsThere_4 : decode cX7_parcelsThere 4 = .ok (.iload_n 2, 1) := by decide +kernel
theorem dX7_parcelsThere_5 : decode cX7_parcelsThere 5 = .ok (.bipush 8, 2) := by decide +kernel
theorem dX7_parcelsThere_7 : decode cX7_parcelsThere 7 = .ok (.if_icmp .ge 25, 3) := by decide +kernel
theorem dX7_parcelsThere_10 : decode cX7_parcelsThere 10 = .ok (.iload_n 1, 1) := by decide +kernel
theorem dX7_parcelsThere_11 : decode cX7_parcelsThere 11 = .ok (.aload_n 0, 1) := by decide +kernel
theorem dX7_parcelsThere_12 : decode cX7_parcelsThere 12 = .ok (.iload_n 2, 1) := by decide +kernel
theorem dX7_parcelsThere_13 : decode cX7_parcelsThere 13 = .ok (.invokevirtual 83, 3) := by decide +kernel
theorem dX7_parcelsThere_16 : decode cX7_parcelsThere 16 = .ok (.ifCond .eq 7, 3) := by decide +kernel
theorem dX7_parcelsThere_23 : decode cX7_parcelsThere 23 = .ok (.iconst 0, 1) := by decide +kernel
theorem dX7_parcelsThere_24 : decode cX7_parcelsThere 24 = .ok (.iadd, 1) := by decide +kernel
theorem dX7_parcelsThere_25 : decode cX7_parcelsThere 25 = .ok (.istore_n 1, 1) := by decide +kernel
theorem dX7_parcelsThere_26 : decode cX7_parcelsThere 26 = .ok (.iinc 2 1, 3) := by decide +kernel
theorem dX7_parcelsThere_29 : decode cX7_parcelsThere 29 = .ok (.goto (-25), 3) := by decide +kernel
theorem dX7_parcelsThere_32 : decode cX7_parcelsThere 32 = .ok (.iload_n 1, 1) := by decide +kernel
theorem dX7_parcelsThere_33 : decode cX7_parcelsThere 33 = .ok (.ireturn, 1) := by decide +kernel
theorem dX7_load_2 : decode cX7_load 2 = .ok (.invokevirtual 285, 3) := by decide +kernel
theorem dX7_load_5 : decode cX7_load 5 = .ok (.ifCond .ne 7, 3) := by decide +kernel
theorem dX7_load_8 : decode cX7_load 8 = .ok (.iconst 1, 1) := by decide +kernel
theorem dX7_load_9 : decode cX7_load 9 = .ok (.goto 4, 3) := by decide +kernel
theorem dX7_load_13 : decode cX7_load 13 = .ok (.putfield 48, 3) := by decide +kernel
theorem dX7_load_16 : decode cX7_load 16 = .ok (.aload_n 0, 1) := by decide +kernel
theorem dX7_load_17 : decode cX7_load 17 = .ok (.getfield 48, 3) := by decide +kernel
theorem dX7_load_20 : decode cX7_load 20 = .ok (.ifCond .le 5, 3) := by decide +kernel
theorem dX7_load_23 : decode cX7_load 23 = .ok (.dconst 0, 1) := by decide +kernel
theorem dX7_load_24 : decode cX7_load 24 = .ok (.dreturn, 1) := by decide +kernel
theorem dL_law_1943 : decode cL_law 1943 = .ok (.invokevirtual 232, 3) := by decide +kernel
theorem dL_law_1946 : decode cL_law 1946 = .ok (.dstore 7, 2) := by decide +kernel
theorem dL_law_1948 : decode cL_law 1948 = .ok (.aload_n 2, 1) := by decide +kernel
theorem dL_law_1949 : decode cL_law 1949 = .ok (.invokevirtual 147, 3) := by decide +kernel
theorem dL_law_1952 : decode cL_law 1952 = .ok (.iload 6, 2) := by decide +kernel
theorem dL_law_1954 : decode cL_law 1954 = .ok (.if_icmp .eq 5, 3) := by decide +kernel
theorem dL_law_1959 : decode cL_law 1959 = .ok (.iload 6, 2) := by decide +kernel
theorem dL_law_1961 : decode cL_law 1961 = .ok (.ifCond .ne 35, 3) := by decide +kernel
theorem dL_law_1996 : decode cL_law 1996 = .ok (.goto 662, 3) := by decide +kernel
set_option maxHeartbeats 4000000 in
set_option maxRecDepth 100000 in
theorem k191_X3_parcels (l : Launch) (G : pxG) (sz : Nat) (a0 a1 a2 a3 a4 a5 a6 a7 a8 : Nat) : Met l yX3_parcels (Cond.code yX3_parcels cX3_parcels 3 (some .int) :: pxAll) ({ frames := 0, cells := 0, slots := 0, locals := 0 } : Room) (va_Pc [.ref a0] (pxPre G [(a0, .inr (2, [.ref a1, .ref a2, .ref a3, .ref a4, .ref a5, .ref a6, .ref a7, .ref a8, .int 0, .int 0]))] sz)) (pxQi G (fun r => r = 0) (fun q => [(a0, .inr (2, [.ref a1, .ref a2, .ref a3, .ref a4, .ref a5, .ref a6, .ref a7, .ref a8, .int 0, .int 0]))]) (va_A [(a0, .inr (2, [.ref a1, .ref a2, .ref a3, .ref a4, .ref a5, .ref a6, .ref a7, .ref a8, .int 0, .int 0]))] sz)) 0 0 (va_A [(a0, .inr (2, [.ref a1, .ref a2, .ref a3, .ref a4, .ref a5, .ref a6, .ref a7, .ref a8, .int 0, .int 0]))] sz) := by
  refine Met.ofW (cc := cX3_parcels) (maxL := 3) (ret := (some .int)) (by decide) rfl ?_
  intro p e s m args below meth c s₁ B hml hv
  obtain ⟨rfl, hsz, hG, hZ, hP, hD0⟩ := hv
  have hx := B.exec
  have hb := B.bytes
  have hr := B.returns
  have hts0 := atoms_spec (ws := Cond.code yX3_parcels cX3_parcels 3 (some .int) :: pxAll) B.pre
  have hts : ∀ w ∈ pxAll, w.before _ s = true := fun w h => hts0 w (List.mem_cons_of_mem _ h)
  have hown : s.vm.findClass RX3 = some m.cls := findClass_of_methodNamed B.named
  have hlocks := B.notSynchronized
  subst hsz
  have hK := hG.1
  have hD := hD0.self (sz := s.heap.size)
  generalize hAe : va_A [(a0, .inr (2, [.ref a1, .ref a2, .ref a3, .ref a4, .ref a5, .ref a6, .ref a7, .ref a8, .int 0, .int 0]))] s.heap.size = A at hD hZ ⊢
  have hA : ∀ q : Nat, s.heap.size ≤ q → A q := fun q h => by rw [← hAe]; exact Or.inr h
  have hS : va_S A s.heap s.heap [] := va_S.rf
  have hl := lv_entry ([.ref a0]) (n := 3) (Nat.le_of_ble_eq_true rfl)
  rw [lg_entry_eq]
  generalize (lg_sl ([.ref a0]) ++ List.replicate (3 - (lg_sl ([.ref a0])).length) Slot.unset).toArray = ls at hl ⊢
  have hl : lv_has ls 3 [(0, .ref a0)] := hl
  refine lv_iconst (v := 0) hx hb dX3_parcels_0 (by decide) ?_
  refine lv_istore_n (lv' := [(1, .int 0), (0, .ref a0)]) hx hb dX3_parcels_1 rfl hl (by decide) rfl (fun ls hl => ?_)
  refine lv_iconst (v := 0) hx hb dX3_parcels_2 (by decide) ?_
  refine lv_istore_n (lv' := [(2, .int 0), (1, .int 0), (0, .ref a0)]) hx hb dX3_parcels_3 rfl hl (by decide) rfl (fun ls hl => ?_)
  refine lv_iload_n hx hb dX3_parcels_4 rfl (lv_at hl 0 rfl) ?_
  refine lv_aload_n hx hb dX3_parcels_5 rfl (lv_at hl 2 rfl) ?_
  refine va_get (D := G.1) (ci := 2) (v := .int 0) (C := RX3) (T := TX3) (N := 10) hx hb hts piX3 hown hK hP 0 rfl rfl 8 (by decide) (hts _ pm105) (fun _ h9 => h9) rfl dX3_parcels_6 ?_
  refine lv_icmp_ge (tgt := 29) hx hb dX3_parcels_9 (by decide) (fun _ => ?_) (fun h9 => absurd (by decide) h9)
  refine lv_iload_n hx hb dX3_parcels_29 rfl (lv_at hl 1 rfl) ?_
  refine W.widen (k := 0) (n := 0) (Nat.le_of_ble_eq_true rfl) (Nat.le_of_ble_eq_true rfl) ?_
  exact W.iret (v := 0) hx hb hr (fun t ht hW => ⟨⟨0, (fun _ => 0), rfl, rfl, by rw [ht]; exact hP, hD⟩, hS.F ht⟩) hS.2.2 dX3_parcels_30
set_option maxHeartbeats 4000000 in
set_option maxRecDepth 100000 in
theorem k191_X6_requireParcels (l : Launch) (hl9 : l.stackTraces = false) (G : pxG) (sz : Nat) (a0 a1 a2 a3 a4 a5 a6 a7 a8 a9 a10 a11 a12 a13 : Nat) : vx_Met l yX6_requireParcels (Cond.code yX6_requireParcels cX6_requireParcels 1 none :: pxAll) ({ frames := 6, cells := 1, slots := 6, locals := 90 } : Room) (va_Pc [.ref a0] (pxPre G [(a0, .inr (5, [.ref a1, .ref a2, .ref a3, .ref a4, .ref a5, .int 0, .int 0, .int (-1)])), (a1, .inr (2, [.ref a6, .ref a7, .ref a8, .ref a9, .ref a10, .ref a11, .ref a12, .ref a13, .int 0, .int 0]))] sz)) pxF (pxXC "java/lang/ArithmeticException" (va_A [(a0, .inr (5, [.ref a1, .ref a2, .ref a3, .ref a4, .ref a5, .int 0, .int 0, .int (-1)])), (a1, .inr (2, [.ref a6, .ref a7, .ref a8, .ref a9, .ref a10, .ref a11, .ref a12, .ref a13, .int 0, .int 0]))] sz)) 1 6 (va_A [(a0, .inr (5, [.ref a1, .ref a2, .ref a3, .ref a4, .ref a5, .int 0, .int 0, .int (-1)])), (a1, .inr (2, [.ref a6, .ref a7, .ref a8, .ref a9, .ref a10, .ref a11, .ref a12, .ref a13, .int 0, .int 0]))] sz) := by
  refine vx_ofW (cc := cX6_requireParcels) (maxL := 1) (ret := none) (by decide) rfl ?_
  intro p e s m args below meth c s₁ B hml hEx hv
  obtain ⟨rfl, hsz, hG, hZ, hP, hD0⟩ := hv
  have hx := B.exec
  have hb := B.bytes
  have hr := B.returns
  have hts0 := atoms_spec (ws := Cond.code yX6_requireParcels cX6_requireParcels 1 none :: pxAll) B.pre
  have hts : ∀ w ∈ pxAll, w.before _ s = true := fun w h => hts0 w (List.mem_cons_of_mem _ h)
  have hown : s.vm.findClass RX6 = some m.cls := findClass_of_methodNamed B.named
  have hlocks := B.notSynchronized
  subst hsz
  have hK := hG.1
  have hD := hD0.self (sz := s.heap.size)
  generalize hAe : va_A [(a0, .inr (5, [.ref a1, .ref a2, .ref a3, .ref a4, .ref a5, .int 0, .int 0, .int (-1)])), (a1, .inr (2, [.ref a6, .ref a7, .ref a8, .ref a9, .ref a10, .ref a11, .ref a12, .ref a13, .int 0, .int 0]))] s.heap.size = A at hD hZ ⊢
  have hA : ∀ q : Nat, s.heap.size ≤ q → A q := fun q h => by rw [← hAe]; exact Or.inr h
  have hS : va_S A s.heap s.heap [] := va_S.rf
  have hl := lv_entry ([.ref a0]) (n := 1) (Nat.le_of_ble_eq_true rfl)
  rw [lg_entry_eq]
  generalize (lg_sl ([.ref a0]) ++ List.replicate (1 - (lg_sl ([.ref a0])).length) Slot.unset).toArray = ls at hl ⊢
  have hl : lv_has ls 1 [(0, .ref a0)] := hl
  refine lv_aload_n hx hb dX6_requireParcels_0 rfl (lv_at hl 0 rfl) ?_
  refine va_get (D := G.1) (ci := 5) (v := .ref a1) (C := RX6) (T := TX6) (N := 8) hx hb hts piX6 hown hK hP 0 rfl rfl 0 (by decide) (hts _ pm32) (fun _ h9 => h9) rfl dX6_requireParcels_1 ?_
  refine pxCi (va_runV (As := []) (rest := []) ⟨hx, hb, hml, hown, hts⟩ (k191_X3_parcels l G s.heap.size a1 a6 a7 a8 a9 a10 a11 a12 a13) (cwV 0 hts (pxGV pm553 pm554 pm555 pm8 pm556) rfl rfl rfl (by decide +kernel) ⟨(Nat.le_of_ble_eq_true rfl), (Nat.le_of_ble_eq_true rfl)⟩) (pxV (ci := 2) (q0 := 1) hG hZ hP hD hS hA [1] rfl (by decide) rfl rfl) rfl rfl hl.1 rfl (lv_room (Nat.le_of_ble_eq_true rfl)) dX6_requireParcels_4 ⟨(Nat.le_of_ble_eq_true rfl), (Nat.le_of_ble_eq_true rfl)⟩) hP hD hS hA [1] [0] rfl rfl (by decide) (by decide) (fun r2 q1 H locs hw hP hD hS => ?_)
  have hw : r2 = 0 := hw
  subst hw
  have hP : va_P G.1 pxCl [(a0, .inr (5, [.ref a1, .ref a2, .ref a3, .ref a4, .ref a5, .int 0, .int 0, .int (-1)])), (a1, .inr (2, [.ref a6, .ref a7, .ref a8, .ref a9, .ref a10, .ref a11, .ref a12, .ref a13, .int 0, .int 0]))] H := hP
  have hD : va_D A [(a0, .inr (5, [.ref a1, .ref a2, .ref a3, .ref a4, .ref a5, .int 0, .int 0, .int (-1)])), (a1, .inr (2, [.ref a6, .ref a7, .ref a8, .ref a9, .ref a10, .ref a11, .ref a12, .ref a13, .int 0, .int 0]))] := hD
  refine lv_if_ne (tgt := 21) hx hb dX6_requireParcels_7 (by decide) (fun h9 => absurd h9 (by decide)) (fun _ => ?_)
  exact vx_throwSW (own := RX6) (cls := "java/lang/ArithmeticException") (names := ["java/lang/RuntimeException", "java/lang/Exception"]) hx hb hl9 hown (by decide +kernel) (by decide +kernel) (hts _ pm557) (hts _ pm558) (hG.2.2.2.2.1 5 _ rfl) (pxThr (own := RX6) (ic := 288) (by simp [pxBadC]) hts hG wsL_law_x7 pxh_x7) pxg_x7 hZ.1 hZ.2 hS (hl.1.trans hml.symm) dX6_requireParcels_10 dX6_requireParcels_13 dX6_requireParcels_14 dX6_requireParcels_17 dX6_requireParcels_20 (fun x hx => (hEx x hx).elim) (Nat.le_of_ble_eq_true rfl) (Nat.le_of_ble_eq_true rfl) (Nat.le_of_ble_eq_true rfl) (Nat.le_of_ble_eq_true rfl) hlocks (pxXe hS) hS.2.2 (Nat.le_of_ble_eq_true rfl) (Nat.le_of_ble_eq_true rfl)
set_option maxHeartbeats 4000000 in
set_option maxRecDepth 100000 in
theorem k191_X6_load (l : Launch) (hl9 : l.stackTraces = false) (G : pxG) (sz : Nat) (a0 a1 a2 a3 a4 a5 a6 a7 a8 a9 a10 a11 a12 a13 : Nat) : vx_Met l yX6_load (Cond.code yX6_load cX6_load 1 (some .double) :: pxAll) ({ frames := 7, cells := 1, slots := 6, locals := 110 } : Room) (va_Pc [.ref a0] (pxPre G [(a0, .inr (5, [.ref a1, .ref a2, .ref a3, .ref a4, .ref a5, .int 0, .int 0, .int (-1)])), (a1, .inr (2, [.ref a6, .ref a7, .ref a8, .ref a9, .ref a10, .ref a11, .ref a12, .ref a13, .int 0, .int 0]))] sz)) pxF (pxXC "java/lang/ArithmeticException" (va_A [(a0, .inr (5, [.ref a1, .ref a2, .ref a3, .ref a4, .ref a5, .int 0, .int 0, .int (-1)])), (a1, .inr (2, [.ref a6, .ref a7, .ref a8, .ref a9, .ref a10, .ref a11, .ref a12, .ref a13, .int 0, .int 0]))] sz)) 1 6 (va_A [(a0, .inr (5, [.ref a1, .ref a2, .ref a3, .ref a4, .ref a5, .int 0, .int 0, .int (-1)])), (a1, .inr (2, [.ref a6, .ref a7, .ref a8, .ref a9, .ref a10, .ref a11, .ref a12, .ref a13, .int 0, .int 0]))] sz) := by
  refine vx_ofW (cc := cX6_load) (maxL := 1) (ret := (some .double)) (by decide) rfl ?_
  intro p e s m args below meth c s₁ B hml hEx hv
  obtain ⟨rfl, hsz, hG, hZ, hP, hD0⟩ := hv
  have hx := B.exec
  have hb := B.bytes
  have hr := B.returns
  have hts0 := atoms_spec (ws := Cond.code yX6_load cX6_load 1 (some .double) :: pxAll) B.pre
  have hts : ∀ w ∈ pxAll, w.before _ s = true := fun w h => hts0 w (List.mem_cons_of_mem _ h)
  have hown : s.vm.findClass RX6 = some m.cls := findClass_of_methodNamed B.named
  have hlocks := B.notSynchronized
  subst hsz
  have hK := hG.1
  have hD := hD0.self (sz := s.heap.size)
  generalize hAe : va_A [(a0, .inr (5, [.ref a1, .ref a2, .ref a3, .ref a4, .ref a5, .int 0, .int 0, .int (-1)])), (a1, .inr (2, [.ref a6, .ref a7, .ref a8, .ref a9, .ref a10, .ref a11, .ref a12, .ref a13, .int 0, .int 0]))] s.heap.size = A at hD hZ ⊢
  have hA : ∀ q : Nat, s.heap.size ≤ q → A q := fun q h => by rw [← hAe]; exact Or.inr h
  have hS : va_S A s.heap s.heap [] := va_S.rf
  have hl := lv_entry ([.ref a0]) (n := 1) (Nat.le_of_ble_eq_true rfl)
  rw [lg_entry_eq]
  generalize (lg_sl ([.ref a0]) ++ List.replicate (1 - (lg_sl ([.ref a0])).length) Slot.unset).toArray = ls at hl ⊢
  have hl : lv_has ls 1 [(0, .ref a0)] := hl
  refine lv_aload_n hx hb dX6_load_0 rfl (lv_at hl 0 rfl) ?_
  refine pxCx (vx_runV (As := []) (rest := []) ⟨hx, hb, hml, hown, hts⟩ (k191_X6_requireParcels l hl9 G s.heap.size a0 a1 a2 a3 a4 a5 a6 a7 a8 a9 a10 a11 a12 a13) (cwV 0 hts (pxGV pm559 pm560 pm561 pm2 pm562) rfl rfl rfl (by decide +kernel) ⟨(Nat.le_of_ble_eq_true rfl), (Nat.le_of_ble_eq_true rfl)⟩) (pxV (ci := 5) (q0 := 0) hG hZ hP hD hS hA [0, 1] rfl (by decide) rfl rfl) rfl rfl hl.1 rfl (lv_room (Nat.le_of_ble_eq_true rfl)) dX6_load_1 ⟨(Nat.le_of_ble_eq_true rfl), (Nat.le_of_ble_eq_true rfl)⟩) hD hS hA [0, 1] rfl (fun ce q9 H locs hS hce hcv hcl => ?_)
  exact vx_out (fun x hx => (hEx x hx).elim) hlocks hce hcv hcl (fun t ht _ => ⟨rfl, hS.F ht⟩) hS.2.2 (Nat.le_of_ble_eq_true rfl) (Nat.le_of_ble_eq_true rfl)
set_option maxHeartbeats 4000000 in
set_option maxRecDepth 100000 in
theorem k191_L_load (l : Launch) (hl9 : l.stackTraces = false) (G : pxG) (sz : Nat) (a0 a1 a2 a3 a4 a5 a6 a7 a8 a9 a10 a11 a12 a13 a14 : Nat) : Met l yL_load (Cond.codeWith yL_load cL_load 3 (some .int) [(0, 7, 10, 103)] :: pxAll) ({ frames := 8, cells := 1, slots := 6, locals := 130 } : Room) (va_Pc [.ref a0, .ref a2] (pxPre G [(a0, .inr (5, [.ref a1, .ref a3, .ref a4, .ref a5, .ref a6, .int 0, .int 0, .int (-1)])), (a1, .inr (2, [.ref a7, .ref a8, .ref a9, .ref a10, .ref a11, .ref a12, .ref a13, .ref a14, .int 0, .int 0]))] sz)) (pxQi G (fun r => r = 1) (fun q => []) (va_A [(a0, .inr (5, [.ref a1, .ref a3, .ref a4, .ref a5, .ref a6, .int 0, .int 0, .int (-1)])), (a1, .inr (2, [.ref a7, .ref a8, .ref a9, .ref a10, .ref a11, .ref a12, .ref a13, .ref a14, .int 0, .int 0]))] sz)) 1 6 (va_A [(a0, .inr (5, [.ref a1, .ref a3, .ref a4, .ref a5, .ref a6, .int 0, .int 0, .int (-1)])), (a1, .inr (2, [.ref a7, .ref a8, .ref a9, .ref a10, .ref a11, .ref a12, .ref a13, .ref a14, .int 0, .int 0]))] sz) := by
  refine va_MetW (cc := cL_load) (maxL := 3) (ret := (some .int)) (hh := [(0, 7, 10, 103)]) (by decide) rfl ?_
  intro p e s m args below meth c s₁ B hml hv
  obtain ⟨rfl, hsz, hG, hZ, hP, hD0⟩ := hv
  have hx := B.exec
  have hb := B.bytes
  have hr := B.returns
  have hts0 := atoms_spec (ws := Cond.codeWith yL_load cL_load 3 (some .int) [(0, 7, 10, 103)] :: pxAll) B.pre
  have hts : ∀ w ∈ pxAll, w.before _ s = true := fun w h => hts0 w (List.mem_cons_of_mem _ h)
  have hown : s.vm.findClass RL = some m.cls := findClass_of_methodNamed B.named
  have hlocks := B.notSynchronized
  have hTab := vx_table (x := yL_load) B (hts0 _ List.mem_cons_self)
  subst hsz
  have hK := hG.1
  have hD := hD0.self (sz := s.heap.size)
  generalize hAe : va_A [(a0, .inr (5, [.ref a1, .ref a3, .ref a4, .ref a5, .ref a6, .int 0, .int 0, .int (-1)])), (a1, .inr (2, [.ref a7, .ref a8, .ref a9, .ref a10, .ref a11, .ref a12, .ref a13, .ref a14, .int 0, .int 0]))] s.heap.size = A at hD hZ ⊢
  have hA : ∀ q : Nat, s.heap.size ≤ q → A q := fun q h => by rw [← hAe]; exact Or.inr h
  have hS : va_S A s.heap s.heap [] := va_S.rf
  have hl := lv_entry ([.ref a0, .ref a2]) (n := 3) (Nat.le_of_ble_eq_true rfl)
  rw [lg_entry_eq]
  generalize (lg_sl ([.ref a0, .ref a2]) ++ List.replicate (3 - (lg_sl ([.ref a0, .ref a2])).length) Slot.unset).toArray = ls at hl ⊢
  have hl : lv_has ls 3 [(0, .ref a0), (1, .ref a2)] := hl
  refine lv_aload_n hx hb dL_load_0 rfl (lv_at hl 1 rfl) ?_
  refine lv_iconst (v := 0) hx hb dL_load_1 (by decide) ?_
  refine lv_aload_n hx hb dL_load_2 rfl (lv_at hl 0 rfl) ?_
  refine pxCx (vx_runV (As := []) (rest := [.int 0, .ref a2]) ⟨hx, hb, hml, hown, hts⟩ (k191_X6_load l hl9 G s.heap.size a0 a1 a3 a4 a5 a6 a7 a8 a9 a10 a11 a12 a13 a14) (cwV 0 hts (pxGV pm563 pm564 pm565 pm2 pm566) rfl rfl rfl (by decide +kernel) ⟨(Nat.le_of_ble_eq_true rfl), (Nat.le_of_ble_eq_true rfl)⟩) (pxV (ci := 5) (q0 := 0) hG hZ hP hD hS hA [0, 1] rfl (by decide) rfl rfl) rfl rfl hl.1 rfl (lv_room (Nat.le_of_ble_eq_true rfl)) dL_load_3 ⟨(Nat.le_of_ble_eq_true rfl), (Nat.le_of_ble_eq_true rfl)⟩) hD hS hA [0, 1] rfl (fun ce q9 H locs hS hce hcv hcl => ?_)
  refine vx_catch (own := RL) (name := "java/lang/ArithmeticException") (E := "java/lang/ArithmeticException") hown [] ⟨0, 7, 10, 103⟩ [] (by rw [hTab]; rfl) (fun z hz => nomatch hz) (by decide) (by decide) (hts _ pm567) (va_Nw.use rfl (hG.2.2.1 "java/lang/ArithmeticException" (by simp [pxBadC]))) hce hcv hcl ?_
  have hP : va_P G.1 pxCl [] H := fun k q h => by simp at h
  have hD : va_D A [] := ⟨fun i j p q h => by simp at h, fun k q h => by simp at h⟩
  refine lv_astore_n (lv' := [(2, .ref q9), (0, .ref a0), (1, .ref a2)]) hx hb dL_load_10 rfl hl (by decide) rfl (fun ls hl => ?_)
  refine lv_iconst (v := 1) hx hb dL_load_11 (by decide) ?_
  refine W.widen (k := 1) (n := 6) (Nat.le_of_ble_eq_true rfl) (Nat.le_of_ble_eq_true rfl) ?_
  exact W.iret (v := 1) hx hb hr (fun t ht hW => ⟨⟨1, (fun _ => 0), rfl, rfl, by rw [ht]; exact hP, hD⟩, hS.F ht⟩) hS.2.2 dL_load_12
set_option maxHeartbeats 4000000 in
set_option maxRecDepth 100000 in
theorem k195_X7_parcelsThere (l : Launch) (G : pxG) (sz : Nat) (a0 a1 a2 a3 a4 a5 a6 a7 a8 a9 a10 a11 : Nat) : Met l yX7_parcelsThere (Cond.code yX7_parcelsThere cX7_parcelsThere 3 (some .int) :: pxAll) ({ frames := 2, cells := 0, slots := 0, locals := 43 } : Room) (va_Pc [.ref a0] (pxPre G [(a0, .inr (6, [.ref a1, .ref a2, .ref a3, .int 0, .ref a4, .int 0, .int 0, .int 0, .int 0, .ref a5, .int 0, .ref a6, .int 0, .int 0, .int 0, .int (-1), .ref a7, .ref a8, .int 0, .ref a9, .ref a10, .ref a11])), (a1, .inl (G.2.1 0, 4891, .inl (fun _ => 0)))] sz)) (pxQi G (fun r => r = 0) (fun q => [(a0, .inr (6, [.ref a1, .ref a2, .ref a3, .int 0, .ref a4, .int 0, .int 0, .int 0, .int 0, .ref a5, .int 0, .ref a6, .int 0, .int 0, .int 0, .int (-1), .ref a7, .ref a8, .int 0, .ref a9, .ref a10, .ref a11])), (a1, .inl (G.2.1 0, 4891, .inl (fun _ => 0)))]) (va_A [(a0, .inr (6, [.ref a1, .ref a2, .ref a3, .int 0, .ref a4, .int 0, .int 0, .int 0, .int 0, .ref a5, .int 0, .ref a6, .int 0, .int 0, .int 0, .int (-1), .ref a7, .ref a8, .int 0, .ref a9, .ref a10, .ref a11])), (a1, .inl (G.2.1 0, 4891, .inl (fun _ => 0)))] sz)) 0 0 (va_A [(a0, .inr (6, [.ref a1, .ref a2, .ref a3, .int 0, .ref a4, .int 0, .int 0, .int 0, .int 0, .ref a5, .int 0, .ref a6, .int 0, .int 0, .int 0, .int (-1), .ref a7, .ref a8, .int 0, .ref a9, .ref a10, .ref a11])), (a1, .inl (G.2.1 0, 4891, .inl (fun _ => 0)))] sz) := by
  refine Met.ofW (cc := cX7_parcelsThere) (maxL := 3) (ret := (some .int)) (by decide) rfl ?_
  intro p e s m args below meth c s₁ B hml hv
  obtain ⟨rfl, hsz, hG, hZ, hP, hD0⟩ := hv
  have hx := B.exec
  have hb := B.bytes
  have hr := B.returns
  have hts0 := atoms_spec (ws := Cond.code yX7_parcelsThere cX7_parcelsThere 3 (some .int) :: pxAll) B.pre
  have hts : ∀ w ∈ pxAll, w.before _ s = true := fun w h => hts0 w (List.mem_cons_of_mem _ h)
  have hown : s.vm.findClass RX7 = some m.cls := findClass_of_methodNamed B.named
  have hlocks := B.notSynchronized
  subst hsz
  have hK := hG.1
  have hD := hD0.self (sz := s.heap.size)
  generalize hAe : va_A [(a0, .inr (6, [.ref a1, .ref a2, .ref a3, .int 0, .ref a4, .int 0, .int 0, .int 0, .int 0, .ref a5, .int 0, .ref a6, .int 0, .int 0, .int 0, .int (-1), .ref a7, .ref a8, .int 0, .ref a9, .ref a10, .ref a11])), (a1, .inl (G.2.1 0, 4891, .inl (fun _ => 0)))] s.heap.size = A at hD hZ ⊢
  have hA : ∀ q : Nat, s.heap.size ≤ q → A q := fun q h => by rw [← hAe]; exact Or.inr h
  have hS : va_S A s.heap s.heap [] := va_S.rf
  have hl := lv_entry ([.ref a0]) (n := 3) (Nat.le_of_ble_eq_true rfl)
  rw [lg_entry_eq]
  generalize (lg_sl ([.ref a0]) ++ List.replicate (3 - (lg_sl ([.ref a0])).length) Slot.unset).toArray = ls at hl ⊢
  have hl : lv_has ls 3 [(0, .ref a0)] := hl
  refine lv_iconst (v := 0) hx hb dX7_parcelsThere_0 (by decide) ?_
  refine lv_istore_n (lv' := [(1, .int 0), (0, .ref a0)]) hx hb dX7_parcelsThere_1 rfl hl (by decide) rfl (fun ls hl => ?_)
  refine lv_iconst (v := 0) hx hb dX7_parcelsThere_2 (by decide) ?_
  refine lv_istore_n (lv' := [(2, .int 0), (1, .int 0), (0, .ref a0)]) hx hb dX7_parcelsThere_3 rfl hl (by decide) rfl (fun ls hl => ?_)
  refine lv_iload_n hx hb dX7_parcelsThere_4 rfl (lv_at hl 0 rfl) ?_
  refine lv_bipush (v := 8) hx hb dX7_parcelsThere_5 (by decide) ?_
  refine lv_icmp_ge (tgt := 32) hx hb dX7_parcelsThere_7 (by decide) (fun h9 => absurd h9 (by decide)) (fun _ => ?_)
  refine lv_iload_n hx hb dX7_parcelsThere_10 rfl (lv_at hl 1 rfl) ?_
  refine lv_aload_n hx hb dX7_parcelsThere_11 rfl (lv_at hl 2 rfl) ?_
  refine lv_iload_n hx hb dX7_parcelsThere_12 rfl (lv_at hl 0 rfl) ?_
  refine pxCi (va_runV (As := [.int 0]) (rest := [.int 0]) ⟨hx, hb, hml, hown, hts⟩ (k69_X7_isParcel l G s.heap.size a0 a1 a2 a3 a4 a5 a6 a7 a8 a9 a10 a11) (cwV 1 hts (pxGV pm212 pm213 pm214 pm71 pm215) rfl rfl rfl (by decide +kernel) ⟨(Nat.le_of_ble_eq_true rfl), (Nat.le_of_ble_eq_true rfl)⟩) (pxV (ci := 6) (q0 := 0) hG hZ hP hD hS hA [0, 1] rfl (by decide) rfl rfl) rfl rfl hl.1 rfl (lv_room (Nat.le_of_ble_eq_true rfl)) dX7_parcelsThere_13 ⟨(Nat.le_of_ble_eq_true rfl), (Nat.le_of_ble_eq_true rfl)⟩) hP hD hS hA [0, 1] [] rfl rfl (by decide) (by decide) (fun r2 q1 H locs hw hP hD hS => ?_)
  have hw : r2 = 0 := hw
  subst hw
  have hP : va_P G.1 pxCl [(a0, .inr (6, [.ref a1, .ref a2, .ref a3, .int 0, .ref a4, .int 0, .int 0, .int 0, .int 0, .ref a5, .int 0, .ref a6, .int 0, .int 0, .int 0, .int (-1), .ref a7, .ref a8, .int 0, .ref a9, .ref a10, .ref a11])), (a1, .inl (G.2.1 0, 4891, .inl (fun _ => 0)))] H := hP
  have hD : va_D A [(a0, .inr (6, [.ref a1, .ref a2, .ref a3, .int 0, .ref a4, .int 0, .int 0, .int 0, .int 0, .ref a5, .int 0, .ref a6, .int 0, .int 0, .int 0, .int (-1), .ref a7, .ref a8, .int 0, .ref a9, .ref a10, .ref a11])), (a1, .inl (G.2.1 0, 4891, .inl (fun _ => 0)))] := hD
  refine lv_if_eq (tgt := 23) hx hb dX7_parcelsThere_16 (by decide) (fun _ => ?_) (fun h9 => absurd (by decide) h9)
  refine lv_iconst (v := 0) hx hb dX7_parcelsThere_23 (by decide) ?_
  refine lv_iadd hx hb dX7_parcelsThere_24 ?_
  refine pxTop (w := .int 0) (congrArg Value.int (by decide)) ?_
  refine lv_istore_n (lv' := [(1, .int 0), (2, .int 0), (0, .ref a0)]) hx hb dX7_parcelsThere_25 rfl hl (by decide) rfl (fun ls hl => ?_)
  refine lv_iinc (v := 1) (lv' := [(2, .int 1), (1, .int 0), (0, .ref a0)]) hx hb dX7_parcelsThere_26 hl (k := 1) rfl (by decide) (by decide) rfl (fun ls hl => ?_)
  refine lv_goto (tgt := 4) hx hb dX7_parcelsThere_29 (by decide) ?_
  refine lv_iload_n hx hb dX7_parcelsThere_4 rfl (lv_at hl 0 rfl) ?_
  refine lv_bipush (v := 8) hx hb dX7_parcelsThere_5 (by decide) ?_
  refine lv_icmp_ge (tgt := 32) hx hb dX7_parcelsThere_7 (by decide) (fun h9 => absurd h9 (by decide)) (fun _ => ?_)
  refine lv_iload_n hx hb dX7_parcelsThere_10 rfl (lv_at hl 1 rfl) ?_
  refine lv_aload_n hx hb dX7_parcelsThere_11 rfl (lv_at hl 2 rfl) ?_
  refine lv_iload_n hx hb dX7_parcelsThere_12 rfl (lv_at hl 0 rfl) ?_
  refine pxCi (va_runV (As := [.int 1]) (rest := [.int 0]) ⟨hx, hb, hml, hown, hts⟩ (k71_X7_isParcel l G H.size a0 a1 a2 a3 a4 a5 a6 a7 a8 a9 a10 a11) (cwV 1 hts (pxGV pm212 pm213 pm214 pm71 pm215) rfl rfl rfl (by decide +kernel) ⟨(Nat.le_of_ble_eq_true rfl), (Nat.le_of_ble_eq_true rfl)⟩) (pxV (ci := 6) (q0 := 0) hG hZ hP hD hS hA [0, 1] rfl (by decide) rfl rfl) rfl rfl hl.1 rfl (lv_room (Nat.le_of_ble_eq_true rfl)) dX7_parcelsThere_13 ⟨(Nat.le_of_ble_eq_true rfl), (Nat.le_of_ble_eq_true rfl)⟩) hP hD hS hA [0, 1] [] rfl rfl (by decide) (by decide) (fun r4 q3 H locs hw hP hD hS => ?_)
  have hw : r4 = 0 := hw
  subst hw
  have hP : va_P G.1 pxCl [(a0, .inr (6, [.ref a1, .ref a2, .ref a3, .int 0, .ref a4, .int 0, .int 0, .int 0, .int 0, .ref a5, .int 0, .ref a6, .int 0, .int 0, .int 0, .int (-1), .ref a7, .ref a8, .int 0, .ref a9, .ref a10, .ref a11])), (a1, .inl (G.2.1 0, 4891, .inl (fun _ => 0)))] H := hP
  have hD : va_D A [(a0, .inr (6, [.ref a1, .ref a2, .ref a3, .int 0, .ref a4, .int 0, .int 0, .int 0, .int 0, .ref a5, .int 0, .ref a6, .int 0, .int 0, .int 0, .int (-1), .ref a7, .ref a8, .int 0, .ref a9, .ref a10, .ref a11])), (a1, .inl (G.2.1 0, 4891, .inl (fun _ => 0)))] := hD
  refine lv_if_eq (tgt := 23) hx hb dX7_parcelsThere_16 (by decide) (fun _ => ?_) (fun h9 => absurd (by decide) h9)
  refine lv_iconst (v := 0) hx hb dX7_parcelsThere_23 (by decide) ?_
  refine lv_iadd hx hb dX7_parcelsThere_24 ?_
  refine pxTop (w := .int 0) (congrArg Value.int (by decide)) ?_
  refine lv_istore_n (lv' := [(1, .int 0), (2, .int 1), (0, .ref a0)]) hx hb dX7_parcelsThere_25 rfl hl (by decide) rfl (fun ls hl => ?_)
  refine lv_iinc (v := 2) (lv' := [(2, .int 2), (1, .int 0), (0, .ref a0)]) hx hb dX7_parcelsThere_26 hl (k := 1) rfl (by decide) (by decide) rfl (fun ls hl => ?_)
  refine lv_goto (tgt := 4) hx hb dX7_parcelsThere_29 (by decide) ?_
  refine lv_iload_n hx hb dX7_parcelsThere_4 rfl (lv_at hl 0 rfl) ?_
  refine lv_bipush (v := 8) hx hb dX7_parcelsThere_5 (by decide) ?_
  refine lv_icmp_ge (tgt := 32) hx hb dX7_parcelsThere_7 (by decide) (fun h9 => absurd h9 (by decide)) (fun _ => ?_)
  refine lv_iload_n hx hb dX7_parcelsThere_10 rfl (lv_at hl 1 rfl) ?_
  refine lv_aload_n hx hb dX7_parcelsThere_11 rfl (lv_at hl 2 rfl) ?_
  refine lv_iload_n hx hb dX7_parcelsThere_12 rfl (lv_at hl 0 rfl) ?_
  refine pxCi (va_runV (As := [.int 2]) (rest := [.int 0]) ⟨hx, hb, hml, hown, hts⟩ (k73_X7_isParcel l G H.size a0 a1 a2 a3 a4 a5 a6 a7 a8 a9 a10 a11) (cwV 1 hts (pxGV pm212 pm213 pm214 pm71 pm215) rfl rfl rfl (by decide +kernel) ⟨(Nat.le_of_ble_eq_true rfl), (Nat.le_of_ble_eq_true rfl)⟩) (pxV (ci := 6) (q0 := 0) hG hZ hP hD hS hA [0, 1] rfl (by decide) rfl rfl) rfl rfl hl.1 rfl (lv_room (Nat.le_of_ble_eq_true rfl)) dX7_parcelsThere_13 ⟨(Nat.le_of_ble_eq_true rfl), (Nat.le_of_ble_eq_true rfl)⟩) hP hD hS hA [0, 1] [] rfl rfl (by decide) (by decide) (fun r6 q5 H locs hw hP hD hS => ?_)
  have hw : r6 = 0 := hw
  subst hw
  have hP : va_P G.1 pxCl [(a0, .inr (6, [.ref a1, .ref a2, .ref a3, .int 0, .ref a4, .int 0, .int 0, .int 0, .int 0, .ref a5, .int 0, .ref a6, .int 0, .int 0, .int 0, .int (-1), .ref a7, .ref a8, .int 0, .ref a9, .ref a10, .ref a11])), (a1, .inl (G.2.1 0, 4891, .inl (fun _ => 0)))] H := hP
  have hD : va_D A [(a0, .inr (6, [.ref a1, .ref a2, .ref a3, .int 0, .ref a4, .int 0, .int 0, .int 0, .int 0, .ref a5, .int 0, .ref a6, .int 0, .int 0, .int 0, .int (-1), .ref a7, .ref a8, .int 0, .ref a9, .ref a10, .ref a11])), (a1, .inl (G.2.1 0, 4891, .inl (fun _ => 0)))] := hD
  refine lv_if_eq (tgt := 23) hx hb dX7_parcelsThere_16 (by decide) (fun _ => ?_) (fun h9 => absurd (by decide) h9)
  refine lv_iconst (v := 0) hx hb dX7_parcelsThere_23 (by decide) ?_
  refine lv_iadd hx hb dX7_parcelsThere_24 ?_
  refine pxTop (w := .int 0) (congrArg Value.int (by decide)) ?_
  refine lv_istore_n (lv' := [(1, .int 0), (2, .int 2), (0, .ref a0)]) hx hb dX7_parcelsThere_25 rfl hl (by decide) rfl (fun ls hl => ?_)
  refine lv_iinc (v := 3) (lv' := [(2, .int 3), (1, .int 0), (0, .ref a0)]) hx hb dX7_parcelsThere_26 hl (k := 1) rfl (by decide) (by decide) rfl (fun ls hl => ?_)
  refine lv_goto (tgt := 4) hx hb dX7_parcelsThere_29 (by decide) ?_
  refine lv_iload_n hx hb dX7_parcelsThere_4 rfl (lv_at hl 0 rfl) ?_
  refine lv_bipush (v := 8) hx hb dX7_parcelsThere_5 (by decide) ?_
  refine lv_icmp_ge (tgt := 32) hx hb dX7_parcelsThere_7 (by decide) (fun h9 => absurd h9 (by decide)) (fun _ => ?_)
  refine lv_iload_n hx hb dX7_parcelsThere_10 rfl (lv_at hl 1 rfl) ?_
  refine lv_aload_n hx hb dX7_parcelsThere_11 rfl (lv_at hl 2 rfl) ?_
  refine lv_iload_n hx hb dX7_parcelsThere_12 rfl (lv_at hl 0 rfl) ?_
  refine pxCi (va_runV (As := [.int 3]) (rest := [.int 0]) ⟨hx, hb, hml, hown, hts⟩ (k75_X7_isParcel l G H.size a0 a1 a2 a3 a4 a5 a6 a7 a8 a9 a10 a11) (cwV 1 hts (pxGV pm212 pm213 pm214 pm71 pm215) rfl rfl rfl (by decide +kernel) ⟨(Nat.le_of_ble_eq_true rfl), (Nat.le_of_ble_eq_true rfl)⟩) (pxV (ci := 6) (q0 := 0) hG hZ hP hD hS hA [0, 1] rfl (by decide) rfl rfl) rfl rfl hl.1 rfl (lv_room (Nat.le_of_ble_eq_true rfl)) dX7_parcelsThere_13 ⟨(Nat.le_of_ble_eq_true rfl), (Nat.le_of_ble_eq_true rfl)⟩) hP hD hS hA [0, 1] [] rfl rfl (by decide) (by decide) (fun r8 q7 H locs hw hP hD hS => ?_)
  have hw : r8 = 0 := hw
  subst hw
  have hP : va_P G.1 pxCl [(a0, .inr (6, [.ref a1, .ref a2, .ref a3, .int 0, .ref a4, .int 0, .int 0, .int 0, .int 0, .ref a5, .int 0, .ref a6, .int 0, .int 0, .int 0, .int (-1), .ref a7, .ref a8, .int 0, .ref a9, .ref a10, .ref a11])), (a1, .inl (G.2.1 0, 4891, .inl (fun _ => 0)))] H := hP
  have hD : va_D A [(a0, .inr (6, [.ref a1, .ref a2, .ref a3, .int 0, .ref a4, .int 0, .int 0, .int 0, .int 0, .ref a5, .int 0, .ref a6, .int 0, .int 0, .int 0, .int (-1), .ref a7, .ref a8, .int 0, .ref a9, .ref a10, .ref a11])), (a1, .inl (G.2.1 0, 4891, .inl (fun _ => 0)))] := hD
  refine lv_if_eq (tgt := 23) hx hb dX7_parcelsThere_16 (by decide) (fun _ => ?_) (fun h9 => absurd (by decide) h9)
  refine lv_iconst (v := 0) hx hb dX7_parcelsThere_23 (by decide) ?_
  refine lv_iadd hx hb dX7_parcelsThere_24 ?_
  refine pxTop (w := .int 0) (congrArg Value.int (by decide)) ?_
  refine lv_istore_n (lv' := [(1, .int 0), (2, .int 3), (0, .ref a0)]) hx hb dX7_parcelsThere_25 rfl hl (by decide) rfl (fun ls hl => ?_)
  refine lv_iinc (v := 4) (lv' := [(2, .int 4), (1, .int 0), (0, .ref a0)]) hx hb dX7_parcelsThere_26 hl (k := 1) rfl (by decide) (by decide) rfl (fun ls hl => ?_)
  refine lv_goto (tgt := 4) hx hb dX7_parcelsThere_29 (by decide) ?_
  refine lv_iload_n hx hb dX7_parcelsThere_4 rfl (lv_at hl 0 rfl) ?_
  refine lv_bipush (v := 8) hx hb dX7_parcelsThere_5 (by decide) ?_
  refine lv_icmp_ge (tgt := 32) hx hb dX7_parcelsThere_7 (by decide) (fun h9 => absurd h9 (by decide)) (fun _ => ?_)
  refine lv_iload_n hx hb dX7_parcelsThere_10 rfl (lv_at hl 1 rfl) ?_
  refine lv_aload_n hx hb dX7_parcelsThere_11 rfl (lv_at hl 2 rfl) ?_
  refine lv_iload_n hx hb dX7_parcelsThere_12 rfl (lv_at hl 0 rfl) ?_
  refine pxCi (va_runV (As := [.int 4]) (rest := [.int 0]) ⟨hx, hb, hml, hown, hts⟩ (k77_X7_isParcel l G H.size a0 a1 a2 a3 a4 a5 a6 a7 a8 a9 a10 a11) (cwV 1 hts (pxGV pm212 pm213 pm214 pm71 pm215) rfl rfl rfl (by decide +kernel) ⟨(Nat.le_of_ble_eq_true rfl), (Nat.le_of_ble_eq_true rfl)⟩) (pxV (ci := 6) (q0 := 0) hG hZ hP hD hS hA [0, 1] rfl (by decide) rfl rfl) rfl rfl hl.1 rfl (lv_room (Nat.le_of_ble_eq_true rfl)) dX7_parcelsThere_13 ⟨(Nat.le_of_ble_eq_true rfl), (Nat.le_of_ble_eq_true rfl)⟩) hP hD hS hA [0, 1] [] rfl rfl (by decide) (by decide) (fun r10 q9 H locs hw hP hD hS => ?_)
  have hw : r10 = 0 := hw
  subst hw
  have hP : va_P G.1 pxCl [(a0, .inr (6, [.ref a1, .ref a2, .ref a3, .int 0, .ref a4, .int 0, .int 0, .int 0, .int 0, .ref a5, .int 0, .ref a6, .int 0, .int 0, .int 0, .int (-1), .ref a7, .ref a8, .int 0, .ref a9, .ref a10, .ref a11])), (a1, .inl (G.2.1 0, 4891, .inl (fun _ => 0)))] H := hP
  have hD : va_D A [(a0, .inr (6, [.ref a1, .ref a2, .ref a3, .int 0, .ref a4, .int 0, .int 0, .int 0, .int 0, .ref a5, .int 0, .ref a6, .int 0, .int 0, .int 0, .int (-1), .ref a7, .ref a8, .int 0, .ref a9, .ref a10, .ref a11])), (a1, .inl (G.2.1 0, 4891, .inl (fun _ => 0)))] := hD
  refine lv_if_eq (tgt := 23) hx hb dX7_parcelsThere_16 (by decide) (fun _ => ?_) (fun h9 => absurd (by decide) h9)
  refine lv_iconst (v := 0) hx hb dX7_parcelsThere_23 (by decide) ?_
  refine lv_iadd hx hb dX7_parcelsThere_24 ?_
  refine pxTop (w := .int 0) (congrArg Value.int (by decide)) ?_
  refine lv_istore_n (lv' := [(1, .int 0), (2, .int 4), (0, .ref a0)]) hx hb dX7_parcelsThere_25 rfl hl (by decide) rfl (fun ls hl => ?_)
  refine lv_iinc (v := 5) (lv' := [(2, .int 5), (1, .int 0), (0, .ref a0)]) hx hb dX7_parcelsThere_26 hl (k := 1) rfl (by decide) (by decide) rfl (fun ls hl => ?_)
  refine lv_goto (tgt := 4) hx hb dX7_parcelsThere_29 (by decide) ?_
  refine lv_iload_n hx hb dX7_parcelsThere_4 rfl (lv_at hl 0 rfl) ?_
  refine lv_bipush (v := 8) hx hb dX7_parcelsThere_5 (by decide) ?_
  refine lv_icmp_ge (tgt := 32) hx hb dX7_parcelsThere_7 (by decide) (fun h9 => absurd h9 (by decide)) (fun _ => ?_)
  refine lv_iload_n hx hb dX7_parcelsThere_10 rfl (lv_at hl 1 rfl) ?_
  refine lv_aload_n hx hb dX7_parcelsThere_11 rfl (lv_at hl 2 rfl) ?_
  refine lv_iload_n hx hb dX7_parcelsThere_12 rfl (lv_at hl 0 rfl) ?_
  refine pxCi (va_runV (As := [.int 5]) (rest := [.int 0]) ⟨hx, hb, hml, hown, hts⟩ (k79_X7_isParcel l G H.size a0 a1 a2 a3 a4 a5 a6 a7 a8 a9 a10 a11) (cwV 1 hts (pxGV pm212 pm213 pm214 pm71 pm215) rfl rfl rfl (by decide +kernel) ⟨(Nat.le_of_ble_eq_true rfl), (Nat.le_of_ble_eq_true rfl)⟩) (pxV (ci := 6) (q0 := 0) hG hZ hP hD hS hA [0, 1] rfl (by decide) rfl rfl) rfl rfl hl.1 rfl (lv_room (Nat.le_of_ble_eq_true rfl)) dX7_parcelsThere_13 ⟨(Nat.le_of_ble_eq_true rfl), (Nat.le_of_ble_eq_true rfl)⟩) hP hD hS hA [0, 1] [] rfl rfl (by decide) (by decide) (fun r12 q11 H locs hw hP hD hS => ?_)
  have hw : r12 = 0 := hw
  subst hw
  have hP : va_P G.1 pxCl [(a0, .inr (6, [.ref a1, .ref a2, .ref a3, .int 0, .ref a4, .int 0, .int 0, .int 0, .int 0, .ref a5, .int 0, .ref a6, .int 0, .int 0, .int 0, .int (-1), .ref a7, .ref a8, .int 0, .ref a9, .ref a10, .ref a11])), (a1, .inl (G.2.1 0, 4891, .inl (fun _ => 0)))] H := hP
  have hD : va_D A [(a0, .inr (6, [.ref a1, .ref a2, .ref a3, .int 0, .ref a4, .int 0, .int 0, .int 0, .int 0, .ref a5, .int 0, .ref a6, .int 0, .int 0, .int 0, .int (-1), .ref a7, .ref a8, .int 0, .ref a9, .ref a10, .ref a11])), (a1, .inl (G.2.1 0, 4891, .inl (fun _ => 0)))] := hD
  refine lv_if_eq (tgt := 23) hx hb dX7_parcelsThere_16 (by decide) (fun _ => ?_) (fun h9 => absurd (by decide) h9)
  refine lv_iconst (v := 0) hx hb dX7_parcelsThere_23 (by decide) ?_
  refine lv_iadd hx hb dX7_parcelsThere_24 ?_
  refine pxTop (w := .int 0) (congrArg Value.int (by decide)) ?_
  refine lv_istore_n (lv' := [(1, .int 0), (2, .int 5), (0, .ref a0)]) hx hb dX7_parcelsThere_25 rfl hl (by decide) rfl (fun ls hl => ?_)
  refine lv_iinc (v := 6) (lv' := [(2, .int 6), (1, .int 0), (0, .ref a0)]) hx hb dX7_parcelsThere_26 hl (k := 1) rfl (by decide) (by decide) rfl (fun ls hl => ?_)
  refine lv_goto (tgt := 4) hx hb dX7_parcelsThere_29 (by decide) ?_
  refine lv_iload_n hx hb dX7_parcelsThere_4 rfl (lv_at hl 0 rfl) ?_
  refine lv_bipush (v := 8) hx hb dX7_parcelsThere_5 (by decide) ?_
  refine lv_icmp_ge (tgt := 32) hx hb dX7_parcelsThere_7 (by decide) (fun h9 => absurd h9 (by decide)) (fun _ => ?_)
  refine lv_iload_n hx hb dX7_parcelsThere_10 rfl (lv_at hl 1 rfl) ?_
  refine lv_aload_n hx hb dX7_parcelsThere_11 rfl (lv_at hl 2 rfl) ?_
  refine lv_iload_n hx hb dX7_parcelsThere_12 rfl (lv_at hl 0 rfl) ?_
  refine pxCi (va_runV (As := [.int 6]) (rest := [.int 0]) ⟨hx, hb, hml, hown, hts⟩ (k81_X7_isParcel l G H.size a0 a1 a2 a3 a4 a5 a6 a7 a8 a9 a10 a11) (cwV 1 hts (pxGV pm212 pm213 pm214 pm71 pm215) rfl rfl rfl (by decide +kernel) ⟨(Nat.le_of_ble_eq_true rfl), (Nat.le_of_ble_eq_true rfl)⟩) (pxV (ci := 6) (q0 := 0) hG hZ hP hD hS hA [0, 1] rfl (by decide) rfl rfl) rfl rfl hl.1 rfl (lv_room (Nat.le_of_ble_eq_true rfl)) dX7_parcelsThere_13 ⟨(Nat.le_of_ble_eq_true rfl), (Nat.le_of_ble_eq_true rfl)⟩) hP hD hS hA [0, 1] [] rfl rfl (by decide) (by decide) (fun r14 q13 H locs hw hP hD hS => ?_)
  have hw : r14 = 0 := hw
  subst hw
  have hP : va_P G.1 pxCl [(a0, .inr (6, [.ref a1, .ref a2, .ref a3, .int 0, .ref a4, .int 0, .int 0, .int 0, .int 0, .ref a5, .int 0, .ref a6, .int 0, .int 0, .int 0, .int (-1), .ref a7, .ref a8, .int 0, .ref a9, .ref a10, .ref a11])), (a1, .inl (G.2.1 0, 4891, .inl (fun _ => 0)))] H := hP
  have hD : va_D A [(a0, .inr (6, [.ref a1, .ref a2, .ref a3, .int 0, .ref a4, .int 0, .int 0, .int 0, .int 0, .ref a5, .int 0, .ref a6, .int 0, .int 0, .int 0, .int (-1), .ref a7, .ref a8, .int 0, .ref a9, .ref a10, .ref a11])), (a1, .inl (G.2.1 0, 4891, .inl (fun _ => 0)))] := hD
  refine lv_if_eq (tgt := 23) hx hb dX7_parcelsThere_16 (by decide) (fun _ => ?_) (fun h9 => absurd (by decide) h9)
  refine lv_iconst (v := 0) hx hb dX7_parcelsThere_23 (by decide) ?_
  refine lv_iadd hx hb dX7_parcelsThere_24 ?_
  refine pxTop (w := .int 0) (congrArg Value.int (by decide)) ?_
  refine lv_istore_n (lv' := [(1, .int 0), (2, .int 6), (0, .ref a0)]) hx hb dX7_parcelsThere_25 rfl hl (by decide) rfl (fun ls hl => ?_)
  refine lv_iinc (v := 7) (lv' := [(2, .int 7), (1, .int 0), (0, .ref a0)]) hx hb dX7_parcelsThere_26 hl (k := 1) rfl (by decide) (by decide) rfl (fun ls hl => ?_)
  refine lv_goto (tgt := 4) hx hb dX7_parcelsThere_29 (by decide) ?_
  refine lv_iload_n hx hb dX7_parcelsThere_4 rfl (lv_at hl 0 rfl) ?_
  refine lv_bipush (v := 8) hx hb dX7_parcelsThere_5 (by decide) ?_
  refine lv_icmp_ge (tgt := 32) hx hb dX7_parcelsThere_7 (by decide) (fun h9 => absurd h9 (by decide)) (fun _ => ?_)
  refine lv_iload_n hx hb dX7_parcelsThere_10 rfl (lv_at hl 1 rfl) ?_
  refine lv_aload_n hx hb dX7_parcelsThere_11 rfl (lv_at hl 2 rfl) ?_
  refine lv_iload_n hx hb dX7_parcelsThere_12 rfl (lv_at hl 0 rfl) ?_
  refine pxCi (va_runV (As := [.int 7]) (rest := [.int 0]) ⟨hx, hb, hml, hown, hts⟩ (k83_X7_isParcel l G H.size a0 a1 a2 a3 a4 a5 a6 a7 a8 a9 a10 a11) (cwV 1 hts (pxGV pm212 pm213 pm214 pm71 pm215) rfl rfl rfl (by decide +kernel) ⟨(Nat.le_of_ble_eq_true rfl), (Nat.le_of_ble_eq_true rfl)⟩) (pxV (ci := 6) (q0 := 0) hG hZ hP hD hS hA [0, 1] rfl (by decide) rfl rfl) rfl rfl hl.1 rfl (lv_room (Nat.le_of_ble_eq_true rfl)) dX7_parcelsThere_13 ⟨(Nat.le_of_ble_eq_true rfl), (Nat.le_of_ble_eq_true rfl)⟩) hP hD hS hA [0, 1] [] rfl rfl (by decide) (by decide) (fun r16 q15 H locs hw hP hD hS => ?_)
  have hw : r16 = 0 := hw
  subst hw
  have hP : va_P G.1 pxCl [(a0, .inr (6, [.ref a1, .ref a2, .ref a3, .int 0, .ref a4, .int 0, .int 0, .int 0, .int 0, .ref a5, .int 0, .ref a6, .int 0, .int 0, .int 0, .int (-1), .ref a7, .ref a8, .int 0, .ref a9, .ref a10, .ref a11])), (a1, .inl (G.2.1 0, 4891, .inl (fun _ => 0)))] H := hP
  have hD : va_D A [(a0, .inr (6, [.ref a1, .ref a2, .ref a3, .int 0, .ref a4, .int 0, .int 0, .int 0, .int 0, .ref a5, .int 0, .ref a6, .int 0, .int 0, .int 0, .int (-1), .ref a7, .ref a8, .int 0, .ref a9, .ref a10, .ref a11])), (a1, .inl (G.2.1 0, 4891, .inl (fun _ => 0)))] := hD
  refine lv_if_eq (tgt := 23) hx hb dX7_parcelsThere_16 (by decide) (fun _ => ?_) (fun h9 => absurd (by decide) h9)
  refine lv_iconst (v := 0) hx hb dX7_parcelsThere_23 (by decide) ?_
  refine lv_iadd hx hb dX7_parcelsThere_24 ?_
  refine pxTop (w := .int 0) (congrArg Value.int (by decide)) ?_
  refine lv_istore_n (lv' := [(1, .int 0), (2, .int 7), (0, .ref a0)]) hx hb dX7_parcelsThere_25 rfl hl (by decide) rfl (fun ls hl => ?_)
  refine lv_iinc (v := 8) (lv' := [(2, .int 8), (1, .int 0), (0, .ref a0)]) hx hb dX7_parcelsThere_26 hl (k := 1) rfl (by decide) (by decide) rfl (fun ls hl => ?_)
  refine lv_goto (tgt := 4) hx hb dX7_parcelsThere_29 (by decide) ?_
  refine lv_iload_n hx hb dX7_parcelsThere_4 rfl (lv_at hl 0 rfl) ?_
  refine lv_bipush (v := 8) hx hb dX7_parcelsThere_5 (by decide) ?_
  refine lv_icmp_ge (tgt := 32) hx hb dX7_parcelsThere_7 (by decide) (fun _ => ?_) (fun h9 => absurd (by decide) h9)
  refine lv_iload_n hx hb dX7_parcelsThere_32 rfl (lv_at hl 1 rfl) ?_
  refine W.widen (k := 0) (n := 0) (Nat.le_of_ble_eq_true rfl) (Nat.le_of_ble_eq_true rfl) ?_
  exact W.iret (v := 0) hx hb hr (fun t ht hW => ⟨⟨0, (fun _ => 0), rfl, rfl, by rw [ht]; exact hP, hD⟩, hS.F ht⟩) hS.2.2 dX7_parcelsThere_33
set_option maxHeartbeats 4000000 in
set_option maxRecDepth 100000 in
theorem k195_X7_load (l : Launch) (G : pxG) (sz : Nat) (a0 a1 a2 a3 a4 a5 a6 a7 a8 a9 a10 a11 : Nat) : Met l yX7_load (Cond.code yX7_load cX7_load 3 (some .double) :: pxAll) ({ frames := 3, cells := 0, slots := 0, locals := 65 } : Room) (va_Pc [.ref a0] (pxPre G [(a0, .inr (6, [.ref a1, .ref a2, .ref a3, .int 0, .ref a4, .int 0, .int 0, .int 0, .int 0, .ref a5, .int 0, .ref a6, .int 0, .int 0, .int 0, .int (-1), .ref a7, .ref a8, .int 0, .ref a9, .ref a10, .ref a11])), (a1, .inl (G.2.1 0, 4891, .inl (fun _ => 0)))] sz)) (pxQd G (fun r => r = 0) (fun q => [(a0, .inr (6, [.ref a1, .ref a2, .ref a3, .int 0, .ref a4, .int 0, .int 0, .int 1, .int 0, .ref a5, .int 0, .ref a6, .int 0, .int 0, .int 0, .int (-1), .ref a7, .ref a8, .int 0, .ref a9, .ref a10, .ref a11]))]) (va_A [(a0, .inr (6, [.ref a1, .ref a2, .ref a3, .int 0, .ref a4, .int 0, .int 0, .int 0, .int 0, .ref a5, .int 0, .ref a6, .int 0, .int 0, .int 0, .int (-1), .ref a7, .ref a8, .int 0, .ref a9, .ref a10, .ref a11])), (a1, .inl (G.2.1 0, 4891, .inl (fun _ => 0)))] sz)) 0 0 (va_A [(a0, .inr (6, [.ref a1, .ref a2, .ref a3, .int 0, .ref a4, .int 0, .int 0, .int 0, .int 0, .ref a5, .int 0, .ref a6, .int 0, .int 0, .int 0, .int (-1), .ref a7, .ref a8, .int 0, .ref a9, .ref a10, .ref a11])), (a1, .inl (G.2.1 0, 4891, .inl (fun _ => 0)))] sz) := by
  refine Met.ofW (cc := cX7_load) (maxL := 3) (ret := (some .double)) (by decide) rfl ?_
  intro p e s m args below meth c s₁ B hml hv
  obtain ⟨rfl, hsz, hG, hZ, hP, hD0⟩ := hv
  have hx := B.exec
  have hb := B.bytes
  have hr := B.returns
  have hts0 := atoms_spec (ws := Cond.code yX7_load cX7_load 3 (some .double) :: pxAll) B.pre
  have hts : ∀ w ∈ pxAll, w.before _ s = true := fun w h => hts0 w (List.mem_cons_of_mem _ h)
  have hown : s.vm.findClass RX7 = some m.cls := findClass_of_methodNamed B.named
  have hlocks := B.notSynchronized
  subst hsz
  have hK := hG.1
  have hD := hD0.self (sz := s.heap.size)
  generalize hAe : va_A [(a0, .inr (6, [.ref a1, .ref a2, .ref a3, .int 0, .ref a4, .int 0, .int 0, .int 0, .int 0, .ref a5, .int 0, .ref a6, .int 0, .int 0, .int 0, .int (-1), .ref a7, .ref a8, .int 0, .ref a9, .ref a10, .ref a11])), (a1, .inl (G.2.1 0, 4891, .inl (fun _ => 0)))] s.heap.size = A at hD hZ ⊢
  have hA : ∀ q : Nat, s.heap.size ≤ q → A q := fun q h => by rw [← hAe]; exact Or.inr h
  have hS : va_S A s.heap s.heap [] := va_S.rf
  have hl := lv_entry ([.ref a0]) (n := 3) (Nat.le_of_ble_eq_true rfl)
  rw [lg_entry_eq]
  generalize (lg_sl ([.ref a0]) ++ List.replicate (3 - (lg_sl ([.ref a0])).length) Slot.unset).toArray = ls at hl ⊢
  have hl : lv_has ls 3 [(0, .ref a0)] := hl
  refine lv_aload_n hx hb dX7_load_0 rfl (lv_at hl 0 rfl) ?_
  refine lv_aload_n hx hb dX7_load_1 rfl (lv_at hl 0 rfl) ?_
  refine pxCi (va_runV (As := []) (rest := [.ref a0]) ⟨hx, hb, hml, hown, hts⟩ (k195_X7_parcelsThere l G s.heap.size a0 a1 a2 a3 a4 a5 a6 a7 a8 a9 a10 a11) (cwV 0 hts (pxGV pm571 pm572 pm573 pm71 pm574) rfl rfl rfl (by decide +kernel) ⟨(Nat.le_of_ble_eq_true rfl), (Nat.le_of_ble_eq_true rfl)⟩) (pxV (ci := 6) (q0 := 0) hG hZ hP hD hS hA [0, 1] rfl (by decide) rfl rfl) rfl rfl hl.1 rfl (lv_room (Nat.le_of_ble_eq_true rfl)) dX7_load_2 ⟨(Nat.le_of_ble_eq_true rfl), (Nat.le_of_ble_eq_true rfl)⟩) hP hD hS hA [0, 1] [] rfl rfl (by decide) (by decide) (fun r2 q1 H locs hw hP hD hS => ?_)
  have hw : r2 = 0 := hw
  subst hw
  have hP : va_P G.1 pxCl [(a0, .inr (6, [.ref a1, .ref a2, .ref a3, .int 0, .ref a4, .int 0, .int 0, .int 0, .int 0, .ref a5, .int 0, .ref a6, .int 0, .int 0, .int 0, .int (-1), .ref a7, .ref a8, .int 0, .ref a9, .ref a10, .ref a11])), (a1, .inl (G.2.1 0, 4891, .inl (fun _ => 0)))] H := hP
  have hD : va_D A [(a0, .inr (6, [.ref a1, .ref a2, .ref a3, .int 0, .ref a4, .int 0, .int 0, .int 0, .int 0, .ref a5, .int 0, .ref a6, .int 0, .int 0, .int 0, .int (-1), .ref a7, .ref a8, .int 0, .ref a9, .ref a10, .ref a11])), (a1, .inl (G.2.1 0, 4891, .inl (fun _ => 0)))] := hD
  refine lv_if_ne (tgt := 12) hx hb dX7_load_5 (by decide) (fun h9 => absurd h9 (by decide)) (fun _ => ?_)
  refine lv_iconst (v := 1) hx hb dX7_load_8 (by decide) ?_
  refine lv_goto (tgt := 13) hx hb dX7_load_9 (by decide) ?_
  refine va_put (D := G.1) (ci := 6) (v := .int 1) (ty := .int) (C := RX7) (T := TX7) (N := 22) hx hb hts piX7 tyX7 tyX7_ok nmX7 hown hK hP hD hS 0 rfl rfl 7 (by decide) (hts _ pm150) (fun _ h9 => h9) rfl (by decide +kernel) rfl rfl (Nat.le_of_ble_eq_true rfl) dX7_load_13 (fun H locs hP hD hS => ?_)
  have hP : va_P G.1 pxCl [(a0, .inr (6, [.ref a1, .ref a2, .ref a3, .int 0, .ref a4, .int 0, .int 0, .int 1, .int 0, .ref a5, .int 0, .ref a6, .int 0, .int 0, .int 0, .int (-1), .ref a7, .ref a8, .int 0, .ref a9, .ref a10, .ref a11])), (a1, .inl (G.2.1 0, 4891, .inl (fun _ => 0)))] H := hP
  have hD : va_D A [(a0, .inr (6, [.ref a1, .ref a2, .ref a3, .int 0, .ref a4, .int 0, .int 0, .int 1, .int 0, .ref a5, .int 0, .ref a6, .int 0, .int 0, .int 0, .int (-1), .ref a7, .ref a8, .int 0, .ref a9, .ref a10, .ref a11])), (a1, .inl (G.2.1 0, 4891, .inl (fun _ => 0)))] := hD
  refine lv_aload_n hx hb dX7_load_16 rfl (lv_at hl 0 rfl) ?_
  refine va_get (D := G.1) (ci := 6) (v := .int 1) (C := RX7) (T := TX7) (N := 22) hx hb hts piX7 hown hK hP 0 rfl rfl 7 (by decide) (hts _ pm150) (fun _ h9 => h9) rfl dX7_load_17 ?_
  refine lv_if_le (tgt := 25) hx hb dX7_load_20 (by decide) (fun h9 => absurd h9 (by decide)) (fun _ => ?_)
  refine lv_dconst0 hx hb dX7_load_23 ?_
  have hD : va_D A [(a0, .inr (6, [.ref a1, .ref a2, .ref a3, .int 0, .ref a4, .int 0, .int 0, .int 1, .int 0, .ref a5, .int 0, .ref a6, .int 0, .int 0, .int 0, .int (-1), .ref a7, .ref a8, .int 0, .ref a9, .ref a10, .ref a11]))] := hD.sub [0] (by decide) rfl
  have hP : va_P G.1 pxCl [(a0, .inr (6, [.ref a1, .ref a2, .ref a3, .int 0, .ref a4, .int 0, .int 0, .int 1, .int 0, .ref a5, .int 0, .ref a6, .int 0, .int 0, .int 0, .int (-1), .ref a7, .ref a8, .int 0, .ref a9, .ref a10, .ref a11]))] H := hP.sub [0] rfl
  refine W.widen (k := 0) (n := 0) (Nat.le_of_ble_eq_true rfl) (Nat.le_of_ble_eq_true rfl) ?_
  exact W.dret (v := 0) hx hb hr (fun t ht hW => ⟨⟨0, (fun _ => 0), rfl, rfl, by rw [ht]; exact hP, hD⟩, hS.F ht⟩) hS.2.2 dX7_load_24
set_option maxHeartbeats 4000000 in
set_option maxRecDepth 100000 in
theorem lc25 {p : Program} {l : Launch} {e : Env} {s : State} {m : MethodId} {below : List Frame} {meth : Method} {c : Code} {b : Nat} {xs : Nat → Int32} (hl9 : l.stackTraces = false) (G : pxG) (C0 : lw_At p s m meth c b 5 xs) (hG : pxOk G s) (hZ : pxZ (fun q : Nat => s.heap.size ≤ q) s s.heap) (a1 a2 a3 a4 a5 a6 a7 a8 a9 a10 a43 a86 a127 a131 a149 a150 a151 a152 a153 a154 a155 a156 a157 a158 a159 a160 a161 a162 : Nat) (H : Heap) (locs : List Loc) (hP : va_P G.1 pxCl [(a1, .inr (5, [.ref a2, .ref a43, .ref a86, .ref a127, .ref a131, .int 0, .int 0, .int (-1)])), (a2, .inr (2, [.ref a3, .ref a4, .ref a5, .ref a6, .ref a7, .ref a8, .ref a9, .ref a10, .int 0, .int 0])), (a149, .inr (6, [.ref a150, .ref a151, .ref a152, .int 0, .ref a153, .int 0, .int 0, .int 0, .int 0, .ref a154, .int 0, .ref a155, .int 0, .int 0, .int 0, .int (-1), .ref a156, .ref a157, .int 0, .ref a158, .ref a159, .ref a160])), (a150, .inl (G.2.1 0, 4891, .inl (fun _ => 0)))] H) (hD : va_D (fun q : Nat => s.heap.size ≤ q) [(a1, .inr (5, [.ref a2, .ref a43, .ref a86, .ref a127, .ref a131, .int 0, .int 0, .int (-1)])), (a2, .inr (2, [.ref a3, .ref a4, .ref a5, .ref a6, .ref a7, .ref a8, .ref a9, .ref a10, .int 0, .int 0])), (a149, .inr (6, [.ref a150, .ref a151, .ref a152, .int 0, .ref a153, .int 0, .int 0, .int 0, .int 0, .ref a154, .int 0, .ref a155, .int 0, .int 0, .int 0, .int (-1), .ref a156, .ref a157, .int 0, .ref a158, .ref a159, .ref a160])), (a150, .inl (G.2.1 0, 4891, .inl (fun _ => 0)))]) (hS : va_S (fun q : Nat => s.heap.size ≤ q) s.heap H locs) (ls : Array Slot) (hl : lv_has ls 9 [(5, .int 0), (4, .ref a162), (3, .ref a161), (2, .ref a149), (1, .ref a1), (0, .ref b)]) : W p l e room_1 s m #[Value.ref b] below meth c H locs 482 60053 (lw_Z below #[Value.ref b] s) (F0 m 1934 ls []) := by
  obtain ⟨hx, hb, hr, hml, hown, hts0, hX, hbl, hlocks, hgv⟩ := id C0
  have hts : ∀ w ∈ pxAll, w.before #[Value.ref b] s = true := fun w h => hts0 w (List.mem_filter.mp h).1
  have hA : ∀ q : Nat, s.heap.size ≤ q → (fun q : Nat => s.heap.size ≤ q) q := fun _ h => h
  have hbA : ¬ (fun q : Nat => s.heap.size ≤ q) b := Nat.not_le.mpr hbl
  have hK := hG.1
  refine lv_aload_n hx hb dL_law_1934 rfl (lv_at hl 4 rfl) ?_
  refine lv_aload hx hb dL_law_1935 (lv_at hl 1 rfl) ?_
  refine pxCi (vx_runSW (As := [.ref a1, .ref a162]) (rest := []) ⟨hx, hb, hml, hown, hts⟩ (k191_L_load l hl9 G H.size a1 a2 a162 a43 a86 a127 a131 a3 a4 a5 a6 a7 a8 a9 a10) (vx_cwSW 2 hts (pxGS pm568 pm569 pm136 pm570) rfl rfl rfl (by decide +kernel) ⟨(Nat.le_of_ble_eq_true rfl), (Nat.le_of_ble_eq_true rfl)⟩) (pxS hG hZ hP hD hS hA [0, 1] rfl (by decide)) rfl rfl hl.1 rfl (lv_room (Nat.le_of_ble_eq_true rfl)) dL_law_1937 ⟨(Nat.le_of_ble_eq_true rfl), (Nat.le_of_ble_eq_true rfl)⟩) hP hD hS hA [0, 1] [2, 3] rfl rfl (by decide) (by decide) (fun r2 q1 H locs hw hP hD hS => ?_)
  have hw : r2 = 1 := hw
  subst hw
  have hP : va_P G.1 pxCl [(a149, .inr (6, [.ref a150, .ref a151, .ref a152, .int 0, .ref a153, .int 0, .int 0, .int 0, .int 0, .ref a154, .int 0, .ref a155, .int 0, .int 0, .int 0, .int (-1), .ref a156, .ref a157, .int 0, .ref a158, .ref a159, .ref a160])), (a150, .inl (G.2.1 0, 4891, .inl (fun _ => 0)))] H := hP
  have hD : va_D (fun q : Nat => s.heap.size ≤ q) [(a149, .inr (6, [.ref a150, .ref a151, .ref a152, .int 0, .ref a153, .int 0, .int 0, .int 0, .int 0, .ref a154, .int 0, .ref a155, .int 0, .int 0, .int 0, .int (-1), .ref a156, .ref a157, .int 0, .ref a158, .ref a159, .ref a160])), (a150, .inl (G.2.1 0, 4891, .inl (fun _ => 0)))] := hD
  refine W.widen (k := 483) (n := 60059) (Nat.le_of_ble_eq_true rfl) (Nat.le_of_ble_eq_true rfl) ?_
  refine lv_istore (lv' := [(6, .int 1), (5, .int 0), (4, .ref a162), (3, .ref a161), (2, .ref a149), (1, .ref a1), (0, .ref b)]) hx hb dL_law_1940 hl (by decide) rfl (fun ls hl => ?_)
  refine lv_aload_n hx hb dL_law_1942 rfl (lv_at hl 4 rfl) ?_
  refine pxCd (va_runV (As := []) (rest := []) ⟨hx, hb, hml, hown, hts⟩ (k195_X7_load l G H.size a149 a150 a151 a152 a153 a154 a155 a156 a157 a158 a159 a160) (cwV 0 hts (pxGV pm575 pm576 pm577 pm71 pm578) rfl rfl rfl (by decide +kernel) ⟨(Nat.le_of_ble_eq_true rfl), (Nat.le_of_ble_eq_true rfl)⟩) (pxV (ci := 6) (q0 := 0) hG hZ hP hD hS hA [0, 1] rfl (by decide) rfl rfl) rfl rfl hl.1 rfl (lv_room (Nat.le_of_ble_eq_true rfl)) dL_law_1943 ⟨(Nat.le_of_ble_eq_true rfl), (Nat.le_of_ble_eq_true rfl)⟩) hP hD hS hA [0, 1] [] rfl rfl (by decide) (by decide) (fun r4 q3 H locs hw hP hD hS => ?_)
  have hw : r4 = 0 := hw
  subst hw
  have hP : va_P G.1 pxCl [(a149, .inr (6, [.ref a150, .ref a151, .ref a152, .int 0, .ref a153, .int 0, .int 0, .int 1, .int 0, .ref a154, .int 0, .ref a155, .int 0, .int 0, .int 0, .int (-1), .ref a156, .ref a157, .int 0, .ref a158, .ref a159, .ref a160]))] H := hP
  have hD : va_D (fun q : Nat => s.heap.size ≤ q) [(a149, .inr (6, [.ref a150, .ref a151, .ref a152, .int 0, .ref a153, .int 0, .int 0, .int 1, .int 0, .ref a154, .int 0, .ref a155, .int 0, .int 0, .int 0, .int (-1), .ref a156, .ref a157, .int 0, .ref a158, .ref a159, .ref a160]))] := hD
  refine lv_dstore (lv' := [(7, .double 0), (6, .int 1), (5, .int 0), (4, .ref a162), (3, .ref a161), (2, .ref a149), (1, .ref a1), (0, .ref b)]) hx hb dL_law_1946 hl (by decide) rfl (fun ls hl => ?_)
  refine lv_aload_n hx hb dL_law_1948 rfl (lv_at hl 5 rfl) ?_
  refine pxCi (va_runV (As := []) (rest := []) ⟨hx, hb, hml, hown, hts⟩ (k158_X7_thrown l G H.size a149 a150 a151 a152 a153 a154 a155 a156 a157 a158 a159 a160) (cwV 0 hts (pxGV pm160 pm161 pm162 pm71 pm163) rfl rfl rfl (by decide +kernel) ⟨(Nat.le_of_ble_eq_true rfl), (Nat.le_of_ble_eq_true rfl)⟩) (pxV (ci := 6) (q0 := 0) hG hZ hP hD hS hA [0] rfl (by decide) rfl rfl) rfl rfl hl.1 rfl (lv_room (Nat.le_of_ble_eq_true rfl)) dL_law_1949 ⟨(Nat.le_of_ble_eq_true rfl), (Nat.le_of_ble_eq_true rfl)⟩) hP hD hS hA [0] [] rfl rfl (by decide) (by decide) (fun r6 q5 H locs hw hP hD hS => ?_)
  have hw : r6 = 1 := hw
  subst hw
  have hP : va_P G.1 pxCl [(a149, .inr (6, [.ref a150, .ref a151, .ref a152, .int 0, .ref a153, .int 0, .int 0, .int 1, .int 0, .ref a154, .int 0, .ref a155, .int 0, .int 0, .int 0, .int (-1), .ref a156, .ref a157, .int 0, .ref a158, .ref a159, .ref a160]))] H := hP
  have hD : va_D (fun q : Nat => s.heap.size ≤ q) [(a149, .inr (6, [.ref a150, .ref a151, .ref a152, .int 0, .ref a153, .int 0, .int 0, .int 1, .int 0, .ref a154, .int 0, .ref a155, .int 0, .int 0, .int 0, .int (-1), .ref a156, .ref a157, .int 0, .ref a158, .ref a159, .ref a160]))] := hD
  refine lv_iload hx hb dL_law_1952 (lv_at hl 1 rfl) ?_
  refine lv_icmp_eq (tgt := 1959) hx hb dL_law_1954 (by decide) (fun _ => ?_) (fun h9 => absurd (by decide) h9)
  refine lv_iload hx hb dL_law_1959 (lv_at hl 1 rfl) ?_
  refine lv_if_ne (tgt := 1996) hx hb dL_law_1961 (by decide) (fun _ => ?_) (fun h9 => absurd h9 (by decide))
  refine lv_goto (tgt := 2658) hx hb dL_law_1996 (by decide) ?_
  refine W.widen (k := 2000) (n := 200000) (Nat.le_of_ble_eq_true rfl) (Nat.le_of_ble_eq_true rfl) ?_
  exact law_tail hl9 G C0 hG hZ H locs hS ls (lv_sub hl [2, 7] rfl)
