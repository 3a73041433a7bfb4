theorem pm426 : Cond.methodLink RX6 273 yX3_isParcel ∈ pxAll := pxM 900 (by decide +kernel) rfl
theorem pm427 : Cond.classLink RX6 276 "java/lang/IndexOutOfBoundsException" ∈ pxAll := pxM 901 (by decide +kernel) rfl
theorem pm428 : Cond.initialized "java/lang/IndexOutOfBoundsException" ∈ pxAll := pxM 106 (by decide +kernel) rfl
theorem pm429 : Cond.methodLink RX6 155 yX6_requireParcel ∈ pxAll := pxM 896 (by decide +kernel) rfl
theorem pm430 : Cond.instanceMethod yX6_requireParcel ∈ pxAll := pxM 898 (by decide +kernel) rfl
theorem pm431 : Cond.selects RX6 yX6_requireParcel yX6_requireParcel ∈ pxAll := pxM 20 (by decide +kernel) rfl
set_option maxRecDepth 100000 in
theorem pm432 : Cond.code yX6_requireParcel cX6_requireParcel 2 none ∈ pxAll := pxM 899 rfl rfl
theorem pm433 : Cond.methodLink RL 64 yX6_parcel ∈ pxAll := pxM 892 (by decide +kernel) rfl
theorem pm434 : Cond.instanceMethod yX6_parcel ∈ pxAll := pxM 893 (by decide +kernel) rfl
theorem pm435 : Cond.selects RX6 yX6_parcel yX6_parcel ∈ pxAll := pxM 894 (by decide +kernel) rfl
set_option maxRecDepth 100000 in
theorem pm436 : Cond.code yX6_parcel cX6_parcel 4 (some .int) ∈ pxAll := pxM 895 rfl rfl
theorem pm437 : Cond.classLink RL 67 "java/lang/IndexOutOfBoundsException" ∈ pxAll := pxM 868 (by decide +kernel) rfl
theorem pm438 : Cond.methodLink RL 197 yL_parcel ∈ pxAll := pxM 865 (by decide +kernel) rfl
theorem pm439 : Cond.static yL_parcel ∈ pxAll := pxM 866 (by decide +kernel) rfl
set_option maxRecDepth 100000 in
theorem pm440 : Cond.codeWith yL_parcel cL_parcel 5 (some .int) [(0, 10, 13, 67), (0, 10, 17, 51)] ∈ pxAll := pxM 867 rfl rfl
theorem pm441 : Cond.methodLink RL 199 yX7_parcel ∈ pxAll := pxM 1643 (by decide +kernel) rfl
theorem pm442 : Cond.instanceMethod yX7_parcel ∈ pxAll := pxM 1644 (by decide +kernel) rfl
theorem pm443 : Cond.selects RX7 yX7_parcel yX7_parcel ∈ pxAll := pxM 1645 (by decide +kernel) rfl
set_option maxRecDepth 100000 in
theorem pm444 : Cond.code yX7_parcel cX7_parcel 3 (some .int) ∈ pxAll := pxM 1646 rfl rfl
theorem dL_law_1149 : decode cL_law 1149 = .ok (.aload_n 1, 1) := by decide +kernel
theorem dL_law_1150 : decode cL_law 1150 = .ok (.aload_n 0, 1) := by decide +kernel
theorem dL_law_1151 : decode cL_law 1151 = .ok (.iload 5, 2) := by decide +kernel
theorem dL_law_1153 : decode cL_law 1153 = .ok (.iconst 1, 1) := by decide +kernel
theorem dL_law_1154 : decode cL_law 1154 = .ok (.iadd, 1) := by decide +kernel
theorem dL_law_1155 : decode cL_law 1155 = .ok (.iaload, 1) := by decide +kernel
theorem dL_law_1156 : decode cL_law 1156 = .ok (.aload_n 0, 1) := by decide +kernel
theorem dL_law_1157 : decode cL_law 1157 = .ok (.iload 5, 2) := by decide +kernel
theorem dL_law_1159 : decode cL_law 1159 = .ok (.iconst 2, 1) := by decide +kernel
theorem dL_law_1160 : decode cL_law 1160 = .ok (.iadd, 1) := by decide +kernel
theorem dL_law_1161 : decode cL_law 1161 = .ok (.iaload, 1) := by decide +kernel
theorem dL_law_1162 : decode cL_law 1162 = .ok (.aload_n 3, 1) := by decide +kernel
theorem dL_parcel_0 : decode cL_parcel 0 = .ok (.aload_n 3, 1) := by decide +kernel
theorem dL_parcel_1 : decode cL_parcel 1 = .ok (.iconst 0, 1) := by decide +kernel
theorem dL_parcel_2 : decode cL_parcel 2 = .ok (.aload_n 0, 1) := by decide +kernel
theorem dL_parcel_3 : decode cL_parcel 3 = .ok (.iload_n 1, 1) := by decide +kernel
theorem dL_parcel_4 : decode cL_parcel 4 = .ok (.iload_n 2, 1) := by decide +kernel
theorem dX6_parcel_0 : decode cX6_parcel 0 = .ok (.aload_n 0, 1) := by decide +kernel
theorem dX6_parcel_1 : decode cX6_parcel 1 = .ok (.iload_n 1, 1) := by decide +kernel
theorem dX6_requireParcel_0 : decode cX6_requireParcel 0 = .ok (.aload_n 0, 1) := by decide +kernel
theorem dX6_requireParcel_1 : decode cX6_requireParcel 1 = .ok (.getfield 10, 3) := by decide +kernel
theorem dX6_requireParcel_4 : decode cX6_requireParcel 4 = .ok (.iload_n 1, 1) := by decide +kernel
theorem dX6_requireParcel_5 : decode cX6_requireParcel 5 = .ok (.invokevirtual 273, 3) := by decide +kernel
theorem dX6_requireParcel_8 : decode cX6_requireParcel 8 = .ok (.ifCond .ne 14, 3) := by decide +kernel
theorem dX6_requireParcel_11 : decode cX6_requireParcel 11 = .ok (.new 276, 3) := by decide +kernel
theorem dX6_requireParcel_14 : decode cX6_requireParcel 14 = .ok (.dup, 1) := by decide +kernel
theorem dX6_requireParcel_15 : decode cX6_requireParcel 15 = .ok (.ldc_w 278, 3) := by decide +kernel
theorem dX6_requireParcel_18 : decode cX6_requireParcel 18 = .ok (.invokespecial 280, 3) := by decide +kernel
theorem dX6_requireParcel_21 : decode cX6_requireParcel 21 = .ok (.athrow, 1) := by decide +kernel
theorem dX6_parcel_2 : decode cX6_parcel 2 = .ok (.invokevirtual 155, 3) := by decide +kernel
theorem dL_parcel_5 : decode cL_parcel 5 = .ok (.invokevirtual 64, 3) := by decide +kernel
theorem dL_parcel_13 : decode cL_parcel 13 = .ok (.astore 4, 2) := by decide +kernel
theorem dL_parcel_15 : decode cL_parcel 15 = .ok (.iconst 1, 1) := by decide +kernel
theorem dL_parcel_16 : decode cL_parcel 16 = .ok (.ireturn, 1) := by decide +kernel
theorem dL_law_1163 : decode cL_law 1163 = .ok (.invokestatic 197, 3) := by decide +kernel
theorem dL_law_1166 : decode cL_law 1166 = .ok (.istore 6, 2) := by decide +kernel
theorem dL_law_1168 : decode cL_law 1168 = .ok (.aload_n 2, 1) := by decide +kernel
theorem dL_law_1169 : decode cL_law 1169 = .ok (.aload_n 0, 1) := by decide +kernel
theorem dL_law_1170 : decode cL_law 1170 = .ok (.iload 5, 2) := by decide +kernel
theorem dL_law_1172 : decode cL_law 1172 = .ok (.iconst 1, 1) := by decide +kernel
theorem dL_law_1173 : decode cL_law 1173 = .ok (.iadd, 1) := by decide +kernel
theorem dL_law_1174 : decode cL_law 1174 = .ok (.iaload, 1) := by decide +kernel
theorem dL_law_1175 : decode cL_law 1175 = .ok (.aload_n 0, 1) := by decide +kernel
theorem dL_law_1176 : decode cL_law 1176 = .ok (.iload 5, 2) := by decide +kernel
theorem dL_law_1178 : decode cL_law 1178 = .ok (.iconst 2, 1) := by decide +kernel
theorem dL_law_1179 : decode cL_law 1179 = .ok (.iadd, 1) := by decide +kernel
theorem dL_law_1180 : decode cL_law 1180 = .ok (.iaload, 1) := by decide +kernel
theorem dX7_parcel_0 : decode cX7_parcel 0 = .ok (.aload_n 0, 1) := by decide +kernel
theorem dX7_parcel_1 : decode cX7_parcel 1 = .ok (.aload_n 0, 1) := by decide +kernel
theorem dX7_parcel_2 : decode cX7_parcel 2 = .ok (.iload_n 1, 1) := by decide +kernel
theorem dX7_parcel_3 : decode cX7_parcel 3 = .ok (.invokevirtual 83, 3) := by decide +kernel
theorem dX7_parcel_6 : decode cX7_parcel 6 = .ok (.ifCond .ne 7, 3) := by decide +kernel
theorem dX7_parcel_9 : decode cX7_parcel 9 = .ok (.iconst 1, 1) := by decide +kernel
theorem dX7_parcel_10 : decode cX7_parcel 10 = .ok (.goto 17, 3) := by decide +kernel
theorem dX7_parcel_27 : decode cX7_parcel 27 = .ok (.putfield 48, 3) := by decide +kernel
theorem dX7_parcel_30 : decode cX7_parcel 30 = .ok (.aload_n 0, 1) := by decide +kernel
theorem dX7_parcel_31 : decode cX7_parcel 31 = .ok (.getfield 48, 3) := by decide +kernel
theorem dX7_parcel_34 : decode cX7_parcel 34 = .ok (.ifCond .le 5, 3) := by decide +kernel
theorem dX7_parcel_37 : decode cX7_parcel 37 = .ok (.iconst 0, 1) := by decide +kernel
theorem dX7_parcel_38 : decode cX7_parcel 38 = .ok (.ireturn, 1) := by decide +kernel
theorem dL_law_1181 : decode cL_law 1181 = .ok (.invokevirtual 199, 3) := by decide +kernel
theorem dL_law_1184 : decode cL_law 1184 = .ok (.istore 7, 2) := by decide +kernel
theorem dL_law_1186 : decode cL_law 1186 = .ok (.aload_n 2, 1) := by decide +kernel
theorem dL_law_1187 : decode cL_law 1187 = .ok (.invokevirtual 147, 3) := by decide +kernel
theorem dL_law_1190 : decode cL_law 1190 = .ok (.iload 6, 2) := by decide +kernel
theorem dL_law_1192 : decode cL_law 1192 = .ok (.if_icmp .eq 5, 3) := by decide +kernel
theorem dL_law_1197 : decode cL_law 1197 = .ok (.iload 6, 2) := by decide +kernel
theorem dL_law_1199 : decode cL_law 1199 = .ok (.ifCond .ne 15, 3) := by decide +kernel
theorem dL_law_1214 : decode cL_law 1214 = .ok (.goto 1444, 3) := by decide +kernel
set_option maxHeartbeats 4000000 in
set_option maxRecDepth 100000 in
theorem k154_X6_requireParcel (l : Launch) (hl9 : l.stackTraces = false) (G : pxG) (sz : Nat) (a0 a1 a2 a3 a4 a5 a6 a7 a8 a9 a10 a11 a12 a13 : Nat) (i0 : Int32) : vx_Met l yX6_requireParcel (Cond.code yX6_requireParcel cX6_requireParcel 2 none :: pxAll) ({ frames := 6, cells := 1, slots := 6, locals := 90 } : Room) (va_Pc [.ref a0, .int i0] (pxPre G [(a0, .inr (5, [.ref a1, .ref a2, .ref a3, .ref a4, .ref a5, .int 0, .int 0, .int (-1)])), (a1, .inr (2, [.ref a6, .ref a7, .ref a8, .ref a9, .ref a10, .ref a11, .ref a12, .ref a13, .int 0, .int 0]))] sz)) pxF (pxXC "java/lang/IndexOutOfBoundsException" (va_A [(a0, .inr (5, [.ref a1, .ref a2, .ref a3, .ref a4, .ref a5, .int 0, .int 0, .int (-1)])), (a1, .inr (2, [.ref a6, .ref a7, .ref a8, .ref a9, .ref a10, .ref a11, .ref a12, .ref a13, .int 0, .int 0]))] sz)) 1 6 (va_A [(a0, .inr (5, [.ref a1, .ref a2, .ref a3, .ref a4, .ref a5, .int 0, .int 0, .int (-1)])), (a1, .inr (2, [.ref a6, .ref a7, .ref a8, .ref a9, .ref a10, .ref a11, .ref a12, .ref a13, .int 0, .int 0]))] sz) := by
  refine vx_ofW (cc := cX6_requireParcel) (maxL := 2) (ret := none) (by decide) rfl ?_
  intro p e s m args below meth c s₁ B hml hEx hv
  obtain ⟨rfl, hsz, hG, hZ, hP, hD0⟩ := hv
  have hx := B.exec
  have hb := B.bytes
  have hr := B.returns
  have hts0 := atoms_spec (ws := Cond.code yX6_requireParcel cX6_requireParcel 2 none :: pxAll) B.pre
  have hts : ∀ w ∈ pxAll, w.before _ s = true := fun w h => hts0 w (List.mem_cons_of_mem _ h)
  have hown : s.vm.findClass RX6 = some m.cls := findClass_of_methodNamed B.named
  have hlocks := B.notSynchronized
  subst hsz
  have hK := hG.1
  have hD := hD0.self (sz := s.heap.size)
  generalize hAe : va_A [(a0, .inr (5, [.ref a1, .ref a2, .ref a3, .ref a4, .ref a5, .int 0, .int 0, .int (-1)])), (a1, .inr (2, [.ref a6, .ref a7, .ref a8, .ref a9, .ref a10, .ref a11, .ref a12, .ref a13, .int 0, .int 0]))] s.heap.size = A at hD hZ ⊢
  have hA : ∀ q : Nat, s.heap.size ≤ q → A q := fun q h => by rw [← hAe]; exact Or.inr h
  have hS : va_S A s.heap s.heap [] := va_S.rf
  have hl := lv_entry ([.ref a0, .int i0]) (n := 2) (Nat.le_of_ble_eq_true rfl)
  rw [lg_entry_eq]
  generalize (lg_sl ([.ref a0, .int i0]) ++ List.replicate (2 - (lg_sl ([.ref a0, .int i0])).length) Slot.unset).toArray = ls at hl ⊢
  have hl : lv_has ls 2 [(0, .ref a0), (1, .int i0)] := hl
  refine lv_aload_n hx hb dX6_requireParcel_0 rfl (lv_at hl 0 rfl) ?_
  refine va_get (D := G.1) (ci := 5) (v := .ref a1) (C := RX6) (T := TX6) (N := 8) hx hb hts piX6 hown hK hP 0 rfl rfl 0 (by decide) (hts _ pm32) (fun _ h9 => h9) rfl dX6_requireParcel_1 ?_
  refine lv_iload_n hx hb dX6_requireParcel_4 rfl (lv_at hl 1 rfl) ?_
  refine pxCi (va_runV (As := [.int i0]) (rest := []) ⟨hx, hb, hml, hown, hts⟩ (k109_X3_isParcel l G s.heap.size a1 a6 a7 a8 a9 a10 a11 a12 a13 i0) (cwV 1 hts (pxGV pm426 pm191 pm192 pm8 pm193) rfl rfl rfl (by decide +kernel) ⟨(Nat.le_of_ble_eq_true rfl), (Nat.le_of_ble_eq_true rfl)⟩) (pxV (ci := 2) (q0 := 1) hG hZ hP hD hS hA [1] rfl (by decide) rfl rfl) rfl rfl hl.1 rfl (lv_room (Nat.le_of_ble_eq_true rfl)) dX6_requireParcel_5 ⟨(Nat.le_of_ble_eq_true rfl), (Nat.le_of_ble_eq_true rfl)⟩) hP hD hS hA [1] [0] rfl rfl (by decide) (by decide) (fun r2 q1 H locs hw hP hD hS => ?_)
  have hw : r2 = 0 := hw
  subst hw
  have hP : va_P G.1 pxCl [(a0, .inr (5, [.ref a1, .ref a2, .ref a3, .ref a4, .ref a5, .int 0, .int 0, .int (-1)])), (a1, .inr (2, [.ref a6, .ref a7, .ref a8, .ref a9, .ref a10, .ref a11, .ref a12, .ref a13, .int 0, .int 0]))] H := hP
  have hD : va_D A [(a0, .inr (5, [.ref a1, .ref a2, .ref a3, .ref a4, .ref a5, .int 0, .int 0, .int (-1)])), (a1, .inr (2, [.ref a6, .ref a7, .ref a8, .ref a9, .ref a10, .ref a11, .ref a12, .ref a13, .int 0, .int 0]))] := hD
  refine lv_if_ne (tgt := 22) hx hb dX6_requireParcel_8 (by decide) (fun h9 => absurd h9 (by decide)) (fun _ => ?_)
  exact vx_throwSW (own := RX6) (cls := "java/lang/IndexOutOfBoundsException") (names := ["java/lang/RuntimeException", "java/lang/Exception"]) hx hb hl9 hown (by decide +kernel) (by decide +kernel) (hts _ pm427) (hts _ pm428) (hG.2.2.2.2.1 3 _ rfl) (pxThr (own := RX6) (ic := 280) (by simp [pxBadC]) hts hG wsL_law_x6 pxh_x6) pxg_x6 hZ.1 hZ.2 hS (hl.1.trans hml.symm) dX6_requireParcel_11 dX6_requireParcel_14 dX6_requireParcel_15 dX6_requireParcel_18 dX6_requireParcel_21 (fun x hx => (hEx x hx).elim) (Nat.le_of_ble_eq_true rfl) (Nat.le_of_ble_eq_true rfl) (Nat.le_of_ble_eq_true rfl) (Nat.le_of_ble_eq_true rfl) hlocks (pxXe hS) hS.2.2 (Nat.le_of_ble_eq_true rfl) (Nat.le_of_ble_eq_true rfl)
set_option maxHeartbeats 4000000 in
set_option maxRecDepth 100000 in
theorem k154_X6_parcel (l : Launch) (hl9 : l.stackTraces = false) (G : pxG) (sz : Nat) (a0 a1 a2 a3 a4 a5 a6 a7 a8 a9 a10 a11 a12 a13 : Nat) (i0 i1 : Int32) : vx_Met l yX6_parcel (Cond.code yX6_parcel cX6_parcel 4 (some .int) :: pxAll) ({ frames := 7, cells := 1, slots := 6, locals := 111 } : Room) (va_Pc [.ref a0, .int i0, .int i1] (pxPre G [(a0, .inr (5, [.ref a1, .ref a2, .ref a3, .ref a4, .ref a5, .int 0, .int 0, .int (-1)])), (a1, .inr (2, [.ref a6, .ref a7, .ref a8, .ref a9, .ref a10, .ref a11, .ref a12, .ref a13, .int 0, .int 0]))] sz)) pxF (pxXC "java/lang/IndexOutOfBoundsException" (va_A [(a0, .inr (5, [.ref a1, .ref a2, .ref a3, .ref a4, .ref a5, .int 0, .int 0, .int (-1)])), (a1, .inr (2, [.ref a6, .ref a7, .ref a8, .ref a9, .ref a10, .ref a11, .ref a12, .ref a13, .int 0, .int 0]))] sz)) 1 6 (va_A [(a0, .inr (5, [.ref a1, .ref a2, .ref a3, .ref a4, .ref a5, .int 0, .int 0, .int (-1)])), (a1, .inr (2, [.ref a6, .ref a7, .ref a8, .ref a9, .ref a10, .ref a11, .ref a12, .ref a13, .int 0, .int 0]))] sz) := by
  refine vx_ofW (cc := cX6_parcel) (maxL := 4) (ret := (some .int)) (by decide) rfl ?_
  intro p e s m args below meth c s₁ B hml hEx hv
  obtain ⟨rfl, hsz, hG, hZ, hP, hD0⟩ := hv
  have hx := B.exec
  have hb := B.bytes
  have hr := B.returns
  have hts0 := atoms_spec (ws := Cond.code yX6_parcel cX6_parcel 4 (some .int) :: pxAll) B.pre
  have hts : ∀ w ∈ pxAll, w.before _ s = true := fun w h => hts0 w (List.mem_cons_of_mem _ h)
  have hown : s.vm.findClass RX6 = some m.cls := findClass_of_methodNamed B.named
  have hlocks := B.notSynchronized
  subst hsz
  have hK := hG.1
  have hD := hD0.self (sz := s.heap.size)
  generalize hAe : va_A [(a0, .inr (5, [.ref a1, .ref a2, .ref a3, .ref a4, .ref a5, .int 0, .int 0, .int (-1)])), (a1, .inr (2, [.ref a6, .ref a7, .ref a8, .ref a9, .ref a10, .ref a11, .ref a12, .ref a13, .int 0, .int 0]))] s.heap.size = A at hD hZ ⊢
  have hA : ∀ q : Nat, s.heap.size ≤ q → A q := fun q h => by rw [← hAe]; exact Or.inr h
  have hS : va_S A s.heap s.heap [] := va_S.rf
  have hl := lv_entry ([.ref a0, .int i0, .int i1]) (n := 4) (Nat.le_of_ble_eq_true rfl)
  rw [lg_entry_eq]
  generalize (lg_sl ([.ref a0, .int i0, .int i1]) ++ List.replicate (4 - (lg_sl ([.ref a0, .int i0, .int i1])).length) Slot.unset).toArray = ls at hl ⊢
  have hl : lv_has ls 4 [(0, .ref a0), (1, .int i0), (2, .int i1)] := hl
  refine lv_aload_n hx hb dX6_parcel_0 rfl (lv_at hl 0 rfl) ?_
  refine lv_iload_n hx hb dX6_parcel_1 rfl (lv_at hl 1 rfl) ?_
  refine pxCx (vx_runV (As := [.int i0]) (rest := []) ⟨hx, hb, hml, hown, hts⟩ (k154_X6_requireParcel l hl9 G s.heap.size a0 a1 a2 a3 a4 a5 a6 a7 a8 a9 a10 a11 a12 a13 i0) (cwV 1 hts (pxGV pm429 pm430 pm431 pm2 pm432) rfl rfl rfl (by decide +kernel) ⟨(Nat.le_of_ble_eq_true rfl), (Nat.le_of_ble_eq_true rfl)⟩) (pxV (ci := 5) (q0 := 0) hG hZ hP hD hS hA [0, 1] rfl (by decide) rfl rfl) rfl rfl hl.1 rfl (lv_room (Nat.le_of_ble_eq_true rfl)) dX6_parcel_2 ⟨(Nat.le_of_ble_eq_true rfl), (Nat.le_of_ble_eq_true rfl)⟩) hD hS hA [0, 1] rfl (fun ce q9 H locs hS hce hcv hcl => ?_)
  exact vx_out (fun x hx => (hEx x hx).elim) hlocks hce hcv hcl (fun t ht _ => ⟨rfl, hS.F ht⟩) hS.2.2 (Nat.le_of_ble_eq_true rfl) (Nat.le_of_ble_eq_true rfl)
set_option maxHeartbeats 4000000 in
set_option maxRecDepth 100000 in
theorem k154_L_parcel (l : Launch) (hl9 : l.stackTraces = false) (G : pxG) (sz : Nat) (a0 a1 a2 a3 a4 a5 a6 a7 a8 a9 a10 a11 a12 a13 a14 : Nat) (i0 i1 : Int32) : Met l yL_parcel (Cond.codeWith yL_parcel cL_parcel 5 (some .int) [(0, 10, 13, 67), (0, 10, 17, 51)] :: pxAll) ({ frames := 8, cells := 1, slots := 6, locals := 134 } : Room) (va_Pc [.ref a0, .int i0, .int i1, .ref a2] (pxPre G [(a0, .inr (5, [.ref a1, .ref a3, .ref a4, .ref a5, .ref a6, .int 0, .int 0, .int (-1)])), (a1, .inr (2, [.ref a7, .ref a8, .ref a9, .ref a10, .ref a11, .ref a12, .ref a13, .ref a14, .int 0, .int 0]))] sz)) (pxQi G (fun r => r = 1) (fun q => []) (va_A [(a0, .inr (5, [.ref a1, .ref a3, .ref a4, .ref a5, .ref a6, .int 0, .int 0, .int (-1)])), (a1, .inr (2, [.ref a7, .ref a8, .ref a9, .ref a10, .ref a11, .ref a12, .ref a13, .ref a14, .int 0, .int 0]))] sz)) 1 6 (va_A [(a0, .inr (5, [.ref a1, .ref a3, .ref a4, .ref a5, .ref a6, .int 0, .int 0, .int (-1)])), (a1, .inr (2, [.ref a7, .ref a8, .ref a9, .ref a10, .ref a11, .ref a12, .ref a13, .ref a14, .int 0, .int 0]))] sz) := by
  refine va_MetW (cc := cL_parcel) (maxL := 5) (ret := (some .int)) (hh := [(0, 10, 13, 67), (0, 10, 17, 51)]) (by decide) rfl ?_
  intro p e s m args below meth c s₁ B hml hv
  obtain ⟨rfl, hsz, hG, hZ, hP, hD0⟩ := hv
  have hx := B.exec
  have hb := B.bytes
  have hr := B.returns
  have hts0 := atoms_spec (ws := Cond.codeWith yL_parcel cL_parcel 5 (some .int) [(0, 10, 13, 67), (0, 10, 17, 51)] :: pxAll) B.pre
  have hts : ∀ w ∈ pxAll, w.before _ s = true := fun w h => hts0 w (List.mem_cons_of_mem _ h)
  have hown : s.vm.findClass RL = some m.cls := findClass_of_methodNamed B.named
  have hlocks := B.notSynchronized
  have hTab := vx_table (x := yL_parcel) B (hts0 _ List.mem_cons_self)
  subst hsz
  have hK := hG.1
  have hD := hD0.self (sz := s.heap.size)
  generalize hAe : va_A [(a0, .inr (5, [.ref a1, .ref a3, .ref a4, .ref a5, .ref a6, .int 0, .int 0, .int (-1)])), (a1, .inr (2, [.ref a7, .ref a8, .ref a9, .ref a10, .ref a11, .ref a12, .ref a13, .ref a14, .int 0, .int 0]))] s.heap.size = A at hD hZ ⊢
  have hA : ∀ q : Nat, s.heap.size ≤ q → A q := fun q h => by rw [← hAe]; exact Or.inr h
  have hS : va_S A s.heap s.heap [] := va_S.rf
  have hl := lv_entry ([.ref a0, .int i0, .int i1, .ref a2]) (n := 5) (Nat.le_of_ble_eq_true rfl)
  rw [lg_entry_eq]
  generalize (lg_sl ([.ref a0, .int i0, .int i1, .ref a2]) ++ List.replicate (5 - (lg_sl ([.ref a0, .int i0, .int i1, .ref a2])).length) Slot.unset).toArray = ls at hl ⊢
  have hl : lv_has ls 5 [(0, .ref a0), (1, .int i0), (2, .int i1), (3, .ref a2)] := hl
  refine lv_aload_n hx hb dL_parcel_0 rfl (lv_at hl 3 rfl) ?_
  refine lv_iconst (v := 0) hx hb dL_parcel_1 (by decide) ?_
  refine lv_aload_n hx hb dL_parcel_2 rfl (lv_at hl 0 rfl) ?_
  refine lv_iload_n hx hb dL_parcel_3 rfl (lv_at hl 1 rfl) ?_
  refine lv_iload_n hx hb dL_parcel_4 rfl (lv_at hl 2 rfl) ?_
  refine pxCx (vx_runV (As := [.int i0, .int i1]) (rest := [.int 0, .ref a2]) ⟨hx, hb, hml, hown, hts⟩ (k154_X6_parcel l hl9 G s.heap.size a0 a1 a3 a4 a5 a6 a7 a8 a9 a10 a11 a12 a13 a14 i0 i1) (cwV 2 hts (pxGV pm433 pm434 pm435 pm2 pm436) rfl rfl rfl (by decide +kernel) ⟨(Nat.le_of_ble_eq_true rfl), (Nat.le_of_ble_eq_true rfl)⟩) (pxV (ci := 5) (q0 := 0) hG hZ hP hD hS hA [0, 1] rfl (by decide) rfl rfl) rfl rfl hl.1 rfl (lv_room (Nat.le_of_ble_eq_true rfl)) dL_parcel_5 ⟨(Nat.le_of_ble_eq_true rfl), (Nat.le_of_ble_eq_true rfl)⟩) hD hS hA [0, 1] rfl (fun ce q9 H locs hS hce hcv hcl => ?_)
  refine vx_catch (own := RL) (name := "java/lang/IndexOutOfBoundsException") (E := "java/lang/IndexOutOfBoundsException") hown [] ⟨0, 10, 13, 67⟩ [⟨0, 10, 17, 51⟩] (by rw [hTab]; rfl) (fun z hz => nomatch hz) (by decide) (by decide) (hts _ pm437) (va_Nw.use rfl (hG.2.2.1 "java/lang/IndexOutOfBoundsException" (by simp [pxBadC]))) hce hcv hcl ?_
  have hP : va_P G.1 pxCl [] H := fun k q h => by simp at h
  have hD : va_D A [] := ⟨fun i j p q h => by simp at h, fun k q h => by simp at h⟩
  refine lv_astore (lv' := [(4, .ref q9), (0, .ref a0), (1, .int i0), (2, .int i1), (3, .ref a2)]) hx hb dL_parcel_13 hl (by decide) rfl (fun ls hl => ?_)
  refine lv_iconst (v := 1) hx hb dL_parcel_15 (by decide) ?_
  refine W.widen (k := 1) (n := 6) (Nat.le_of_ble_eq_true rfl) (Nat.le_of_ble_eq_true rfl) ?_
  exact W.iret (v := 1) hx hb hr (fun t ht hW => ⟨⟨1, (fun _ => 0), rfl, rfl, by rw [ht]; exact hP, hD⟩, hS.F ht⟩) hS.2.2 dL_parcel_16
set_option maxHeartbeats 4000000 in
set_option maxRecDepth 100000 in
theorem k157_X7_parcel (l : Launch) (G : pxG) (sz : Nat) (a0 a1 a2 a3 a4 a5 a6 a7 a8 a9 a10 a11 : Nat) (i0 i1 : Int32) : Met l yX7_parcel (Cond.code yX7_parcel cX7_parcel 3 (some .int) :: pxAll) ({ frames := 2, cells := 0, slots := 0, locals := 43 } : Room) (va_Pc [.ref a0, .int i0, .int i1] (pxPre G [(a0, .inr (6, [.ref a1, .ref a2, .ref a3, .int 0, .ref a4, .int 0, .int 0, .int 0, .int 0, .ref a5, .int 0, .ref a6, .int 0, .int 0, .int 0, .int (-1), .ref a7, .ref a8, .int 0, .ref a9, .ref a10, .ref a11])), (a1, .inl (G.2.1 0, 4891, .inl (fun _ => 0)))] sz)) (pxQi G (fun r => r = 0) (fun q => [(a0, .inr (6, [.ref a1, .ref a2, .ref a3, .int 0, .ref a4, .int 0, .int 0, .int 1, .int 0, .ref a5, .int 0, .ref a6, .int 0, .int 0, .int 0, .int (-1), .ref a7, .ref a8, .int 0, .ref a9, .ref a10, .ref a11]))]) (va_A [(a0, .inr (6, [.ref a1, .ref a2, .ref a3, .int 0, .ref a4, .int 0, .int 0, .int 0, .int 0, .ref a5, .int 0, .ref a6, .int 0, .int 0, .int 0, .int (-1), .ref a7, .ref a8, .int 0, .ref a9, .ref a10, .ref a11])), (a1, .inl (G.2.1 0, 4891, .inl (fun _ => 0)))] sz)) 0 0 (va_A [(a0, .inr (6, [.ref a1, .ref a2, .ref a3, .int 0, .ref a4, .int 0, .int 0, .int 0, .int 0, .ref a5, .int 0, .ref a6, .int 0, .int 0, .int 0, .int (-1), .ref a7, .ref a8, .int 0, .ref a9, .ref a10, .ref a11])), (a1, .inl (G.2.1 0, 4891, .inl (fun _ => 0)))] sz) := by
  refine Met.ofW (cc := cX7_parcel) (maxL := 3) (ret := (some .int)) (by decide) rfl ?_
  intro p e s m args below meth c s₁ B hml hv
  obtain ⟨rfl, hsz, hG, hZ, hP, hD0⟩ := hv
  have hx := B.exec
  have hb := B.bytes
  have hr := B.returns
  have hts0 := atoms_spec (ws := Cond.code yX7_parcel cX7_parcel 3 (some .int) :: pxAll) B.pre
  have hts : ∀ w ∈ pxAll, w.before _ s = true := fun w h => hts0 w (List.mem_cons_of_mem _ h)
  have hown : s.vm.findClass RX7 = some m.cls := findClass_of_methodNamed B.named
  have hlocks := B.notSynchronized
  subst hsz
  have hK := hG.1
  have hD := hD0.self (sz := s.heap.size)
  generalize hAe : va_A [(a0, .inr (6, [.ref a1, .ref a2, .ref a3, .int 0, .ref a4, .int 0, .int 0, .int 0, .int 0, .ref a5, .int 0, .ref a6, .int 0, .int 0, .int 0, .int (-1), .ref a7, .ref a8, .int 0, .ref a9, .ref a10, .ref a11])), (a1, .inl (G.2.1 0, 4891, .inl (fun _ => 0)))] s.heap.size = A at hD hZ ⊢
  have hA : ∀ q : Nat, s.heap.size ≤ q → A q := fun q h => by rw [← hAe]; exact Or.inr h
  have hS : va_S A s.heap s.heap [] := va_S.rf
  have hl := lv_entry ([.ref a0, .int i0, .int i1]) (n := 3) (Nat.le_of_ble_eq_true rfl)
  rw [lg_entry_eq]
  generalize (lg_sl ([.ref a0, .int i0, .int i1]) ++ List.replicate (3 - (lg_sl ([.ref a0, .int i0, .int i1])).length) Slot.unset).toArray = ls at hl ⊢
  have hl : lv_has ls 3 [(0, .ref a0), (1, .int i0), (2, .int i1)] := hl
  refine lv_aload_n hx hb dX7_parcel_0 rfl (lv_at hl 0 rfl) ?_
  refine lv_aload_n hx hb dX7_parcel_1 rfl (lv_at hl 0 rfl) ?_
  refine lv_iload_n hx hb dX7_parcel_2 rfl (lv_at hl 1 rfl) ?_
  refine pxCi (va_runV (As := [.int i0]) (rest := [.ref a0]) ⟨hx, hb, hml, hown, hts⟩ (k114_X7_isParcel l G s.heap.size a0 a1 a2 a3 a4 a5 a6 a7 a8 a9 a10 a11 i0) (cwV 1 hts (pxGV pm212 pm213 pm214 pm71 pm215) rfl rfl rfl (by decide +kernel) ⟨(Nat.le_of_ble_eq_true rfl), (Nat.le_of_ble_eq_true rfl)⟩) (pxV (ci := 6) (q0 := 0) hG hZ hP hD hS hA [0, 1] rfl (by decide) rfl rfl) rfl rfl hl.1 rfl (lv_room (Nat.le_of_ble_eq_true rfl)) dX7_parcel_3 ⟨(Nat.le_of_ble_eq_true rfl), (Nat.le_of_ble_eq_true rfl)⟩) hP hD hS hA [0, 1] [] rfl rfl (by decide) (by decide) (fun r2 q1 H locs hw hP hD hS => ?_)
  have hw : r2 = 0 := hw
  subst hw
  have hP : va_P G.1 pxCl [(a0, .inr (6, [.ref a1, .ref a2, .ref a3, .int 0, .ref a4, .int 0, .int 0, .int 0, .int 0, .ref a5, .int 0, .ref a6, .int 0, .int 0, .int 0, .int (-1), .ref a7, .ref a8, .int 0, .ref a9, .ref a10, .ref a11])), (a1, .inl (G.2.1 0, 4891, .inl (fun _ => 0)))] H := hP
  have hD : va_D A [(a0, .inr (6, [.ref a1, .ref a2, .ref a3, .int 0, .ref a4, .int 0, .int 0, .int 0, .int 0, .ref a5, .int 0, .ref a6, .int 0, .int 0, .int 0, .int (-1), .ref a7, .ref a8, .int 0, .ref a9, .ref a10, .ref a11])), (a1, .inl (G.2.1 0, 4891, .inl (fun _ => 0)))] := hD
  refine lv_if_ne (tgt := 13) hx hb dX7_parcel_6 (by decide) (fun h9 => absurd h9 (by decide)) (fun _ => ?_)
  refine lv_iconst (v := 1) hx hb dX7_parcel_9 (by decide) ?_
  refine lv_goto (tgt := 27) hx hb dX7_parcel_10 (by decide) ?_
  refine va_put (D := G.1) (ci := 6) (v := .int 1) (ty := .int) (C := RX7) (T := TX7) (N := 22) hx hb hts piX7 tyX7 tyX7_ok nmX7 hown hK hP hD hS 0 rfl rfl 7 (by decide) (hts _ pm150) (fun _ h9 => h9) rfl (by decide +kernel) rfl rfl (Nat.le_of_ble_eq_true rfl) dX7_parcel_27 (fun H locs hP hD hS => ?_)
  have hP : va_P G.1 pxCl [(a0, .inr (6, [.ref a1, .ref a2, .ref a3, .int 0, .ref a4, .int 0, .int 0, .int 1, .int 0, .ref a5, .int 0, .ref a6, .int 0, .int 0, .int 0, .int (-1), .ref a7, .ref a8, .int 0, .ref a9, .ref a10, .ref a11])), (a1, .inl (G.2.1 0, 4891, .inl (fun _ => 0)))] H := hP
  have hD : va_D A [(a0, .inr (6, [.ref a1, .ref a2, .ref a3, .int 0, .ref a4, .int 0, .int 0, .int 1, .int 0, .ref a5, .int 0, .ref a6, .int 0, .int 0, .int 0, .int (-1), .ref a7, .ref a8, .int 0, .ref a9, .ref a10, .ref a11])), (a1, .inl (G.2.1 0, 4891, .inl (fun _ => 0)))] := hD
  refine lv_aload_n hx hb dX7_parcel_30 rfl (lv_at hl 0 rfl) ?_
  refine va_get (D := G.1) (ci := 6) (v := .int 1) (C := RX7) (T := TX7) (N := 22) hx hb hts piX7 hown hK hP 0 rfl rfl 7 (by decide) (hts _ pm150) (fun _ h9 => h9) rfl dX7_parcel_31 ?_
  refine lv_if_le (tgt := 39) hx hb dX7_parcel_34 (by decide) (fun h9 => absurd h9 (by decide)) (fun _ => ?_)
  refine lv_iconst (v := 0) hx hb dX7_parcel_37 (by decide) ?_
  have hD : va_D A [(a0, .inr (6, [.ref a1, .ref a2, .ref a3, .int 0, .ref a4, .int 0, .int 0, .int 1, .int 0, .ref a5, .int 0, .ref a6, .int 0, .int 0, .int 0, .int (-1), .ref a7, .ref a8, .int 0, .ref a9, .ref a10, .ref a11]))] := hD.sub [0] (by decide) rfl
  have hP : va_P G.1 pxCl [(a0, .inr (6, [.ref a1, .ref a2, .ref a3, .int 0, .ref a4, .int 0, .int 0, .int 1, .int 0, .ref a5, .int 0, .ref a6, .int 0, .int 0, .int 0, .int (-1), .ref a7, .ref a8, .int 0, .ref a9, .ref a10, .ref a11]))] H := hP.sub [0] rfl
  refine W.widen (k := 0) (n := 0) (Nat.le_of_ble_eq_true rfl) (Nat.le_of_ble_eq_true rfl) ?_
  exact W.iret (v := 0) hx hb hr (fun t ht hW => ⟨⟨0, (fun _ => 0), rfl, rfl, by rw [ht]; exact hP, hD⟩, hS.F ht⟩) hS.2.2 dX7_parcel_38
set_option maxHeartbeats 4000000 in
set_option maxRecDepth 100000 in
theorem k158_X7_thrown (l : Launch) (G : pxG) (sz : Nat) (a0 a1 a2 a3 a4 a5 a6 a7 a8 a9 a10 a11 : Nat) : Met l yX7_thrown (Cond.code yX7_thrown cX7_thrown 1 (some .int) :: pxAll) ({ frames := 0, cells := 0, slots := 0, locals := 0 } : Room) (va_Pc [.ref a0] (pxPre G [(a0, .inr (6, [.ref a1, .ref a2, .ref a3, .int 0, .ref a4, .int 0, .int 0, .int 1, .int 0, .ref a5, .int 0, .ref a6, .int 0, .int 0, .int 0, .int (-1), .ref a7, .ref a8, .int 0, .ref a9, .ref a10, .ref a11]))] sz)) (pxQi G (fun r => r = 1) (fun q => [(a0, .inr (6, [.ref a1, .ref a2, .ref a3, .int 0, .ref a4, .int 0, .int 0, .int 1, .int 0, .ref a5, .int 0, .ref a6, .int 0, .int 0, .int 0, .int (-1), .ref a7, .ref a8, .int 0, .ref a9, .ref a10, .ref a11]))]) (va_A [(a0, .inr (6, [.ref a1, .ref a2, .ref a3, .int 0, .ref a4, .int 0, .int 0, .int 1, .int 0, .ref a5, .int 0, .ref a6, .int 0, .int 0, .int 0, .int (-1), .ref a7, .ref a8, .int 0, .ref a9, .ref a10, .ref a11]))] sz)) 0 0 (va_A [(a0, .inr (6, [.ref a1, .ref a2, .ref a3, .int 0, .ref a4, .int 0, .int 0, .int 1, .int 0, .ref a5, .int 0, .ref a6, .int 0, .int 0, .int 0, .int (-1), .ref a7, .ref a8, .int 0, .ref a9, .ref a10, .ref a11]))] sz) := by
  refine Met.ofW (cc := cX7_thrown) (maxL := 1) (ret := (some .int)) (by decide) rfl ?_
  intro p e s m args below meth c s₁ B hml hv
  obtain ⟨rfl, hsz, hG, hZ, hP, hD0⟩ := hv
  have hx := B.exec
  have hb := B.bytes
  have hr := B.returns
  have hts0 := atoms_spec (ws := Cond.code yX7_thrown cX7_thrown 1 (some .int) :: pxAll) B.pre
  have hts : ∀ w ∈ pxAll, w.before _ s = true := fun w h => hts0 w (List.mem_cons_of_mem _ h)
  have hown : s.vm.findClass RX7 = some m.cls := findClass_of_methodNamed B.named
  have hlocks := B.notSynchronized
  subst hsz
  have hK := hG.1
  have hD := hD0.self (sz := s.heap.size)
  generalize hAe : va_A [(a0, .inr (6, [.ref a1, .ref a2, .ref a3, .int 0, .ref a4, .int 0, .int 0, .int 1, .int 0, .ref a5, .int 0, .ref a6, .int 0, .int 0, .int 0, .int (-1), .ref a7, .ref a8, .int 0, .ref a9, .ref a10, .ref a11]))] s.heap.size = A at hD hZ ⊢
  have hA : ∀ q : Nat, s.heap.size ≤ q → A q := fun q h => by rw [← hAe]; exact Or.inr h
  have hS : va_S A s.heap s.heap [] := va_S.rf
  have hl := lv_entry ([.ref a0]) (n := 1) (Nat.le_of_ble_eq_true rfl)
  rw [lg_entry_eq]
  generalize (lg_sl ([.ref a0]) ++ List.replicate (1 - (lg_sl ([.ref a0])).length) Slot.unset).toArray = ls at hl ⊢
  have hl : lv_has ls 1 [(0, .ref a0)] := hl
  refine lv_aload_n hx hb dX7_thrown_0 rfl (lv_at hl 0 rfl) ?_
  refine va_get (D := G.1) (ci := 6) (v := .int 1) (C := RX7) (T := TX7) (N := 22) hx hb hts piX7 hown hK hP 0 rfl rfl 7 (by decide) (hts _ pm150) (fun _ h9 => h9) rfl dX7_thrown_1 ?_
  refine W.widen (k := 0) (n := 0) (Nat.le_of_ble_eq_true rfl) (Nat.le_of_ble_eq_true rfl) ?_
  exact W.iret (v := 1) hx hb hr (fun t ht hW => ⟨⟨1, (fun _ => 0), rfl, rfl, by rw [ht]; exact hP, hD⟩, hS.F ht⟩) hS.2.2 dX7_thrown_4
set_option maxHeartbeats 4000000 in
set_option maxRecDepth 100000 in
theorem lc15 {p : Program} {l : Launch} {e : Env} {s : State} {m : MethodId} {below : List Frame} {meth : Method} {c : Code} {b : Nat} {xs : Nat → Int32} (hl9 : l.stackTraces = false) (G : pxG) (C0 : lw_At p s m meth c b 5 xs) (hG : pxOk G s) (hZ : pxZ (fun q : Nat => s.heap.size ≤ q) s s.heap) (a1 a2 a3 a4 a5 a6 a7 a8 a9 a10 a43 a86 a127 a131 a149 a150 a151 a152 a153 a154 a155 a156 a157 a158 a159 a160 a161 a162 : Nat) (H : Heap) (locs : List Loc) (hP : va_P G.1 pxCl [(a1, .inr (5, [.ref a2, .ref a43, .ref a86, .ref a127, .ref a131, .int 0, .int 0, .int (-1)])), (a2, .inr (2, [.ref a3, .ref a4, .ref a5, .ref a6, .ref a7, .ref a8, .ref a9, .ref a10, .int 0, .int 0])), (a149, .inr (6, [.ref a150, .ref a151, .ref a152, .int 0, .ref a153, .int 0, .int 0, .int 0, .int 0, .ref a154, .int 0, .ref a155, .int 0, .int 0, .int 0, .int (-1), .ref a156, .ref a157, .int 0, .ref a158, .ref a159, .ref a160])), (a150, .inl (G.2.1 0, 4891, .inl (fun _ => 0)))] H) (hD : va_D (fun q : Nat => s.heap.size ≤ q) [(a1, .inr (5, [.ref a2, .ref a43, .ref a86, .ref a127, .ref a131, .int 0, .int 0, .int (-1)])), (a2, .inr (2, [.ref a3, .ref a4, .ref a5, .ref a6, .ref a7, .ref a8, .ref a9, .ref a10, .int 0, .int 0])), (a149, .inr (6, [.ref a150, .ref a151, .ref a152, .int 0, .ref a153, .int 0, .int 0, .int 0, .int 0, .ref a154, .int 0, .ref a155, .int 0, .int 0, .int 0, .int (-1), .ref a156, .ref a157, .int 0, .ref a158, .ref a159, .ref a160])), (a150, .inl (G.2.1 0, 4891, .inl (fun _ => 0)))]) (hS : va_S (fun q : Nat => s.heap.size ≤ q) s.heap H locs) (ls : Array Slot) (hl : lv_has ls 9 [(5, .int 0), (4, .ref a162), (3, .ref a161), (2, .ref a149), (1, .ref a1), (0, .ref b)]) : W p l e room_1 s m #[Value.ref b] below meth c H locs 482 60053 (lw_Z below #[Value.ref b] s) (F0 m 1149 ls []) := by
  obtain ⟨hx, hb, hr, hml, hown, hts0, hX, hbl, hlocks, hgv⟩ := id C0
  have hts : ∀ w ∈ pxAll, w.before #[Value.ref b] s = true := fun w h => hts0 w (List.mem_filter.mp h).1
  have hA : ∀ q : Nat, s.heap.size ≤ q → (fun q : Nat => s.heap.size ≤ q) q := fun _ h => h
  have hbA : ¬ (fun q : Nat => s.heap.size ≤ q) b := Nat.not_le.mpr hbl
  have hK := hG.1
  obtain ⟨p1, hp1⟩ : ∃ z : Int32, xs 1 = z := ⟨_, rfl⟩
  have r1 := pxRng p1
  obtain ⟨p2, hp2⟩ : ∃ z : Int32, xs 2 = z := ⟨_, rfl⟩
  have r2 := pxRng p2
  refine lv_aload_n hx hb dL_law_1149 rfl (lv_at hl 4 rfl) ?_
  refine lv_aload_n hx hb dL_law_1150 rfl (lv_at hl 5 rfl) ?_
  refine lv_iload hx hb dL_law_1151 (lv_at hl 0 rfl) ?_
  refine lv_iconst (v := 1) hx hb dL_law_1153 (by decide) ?_
  refine lv_iadd hx hb dL_law_1154 ?_
  refine pxTop (w := .int 1) (congrArg Value.int (by decide)) ?_
  refine va_sld hx hb hX hbl hbA hS (show ¬ ((1 : Int32) < 0 ∨ 5 ≤ (1 : Int32).toNatClampNeg) by decide +kernel) dL_law_1155 ?_
  refine pxTop (w := .int p1) (congrArg Value.int hp1) ?_
  refine lv_aload_n hx hb dL_law_1156 rfl (lv_at hl 5 rfl) ?_
  refine lv_iload hx hb dL_law_1157 (lv_at hl 0 rfl) ?_
  refine lv_iconst (v := 2) hx hb dL_law_1159 (by decide) ?_
  refine lv_iadd hx hb dL_law_1160 ?_
  refine pxTop (w := .int 2) (congrArg Value.int (by decide)) ?_
  refine va_sld hx hb hX hbl hbA hS (show ¬ ((2 : Int32) < 0 ∨ 5 ≤ (2 : Int32).toNatClampNeg) by decide +kernel) dL_law_1161 ?_
  refine pxTop (w := .int p2) (congrArg Value.int hp2) ?_
  refine lv_aload_n hx hb dL_law_1162 rfl (lv_at hl 2 rfl) ?_
  refine pxCi (vx_runSW (As := [.ref a1, .int p1, .int p2, .ref a161]) (rest := []) ⟨hx, hb, hml, hown, hts⟩ (k154_L_parcel l hl9 G H.size a1 a2 a161 a43 a86 a127 a131 a3 a4 a5 a6 a7 a8 a9 a10 p1 p2) (vx_cwSW 4 hts (pxGS pm438 pm439 pm136 pm440) rfl rfl rfl (by decide +kernel) ⟨(Nat.le_of_ble_eq_true rfl), (Nat.le_of_ble_eq_true rfl)⟩) (pxS hG hZ hP hD hS hA [0, 1] rfl (by decide)) rfl rfl hl.1 rfl (lv_room (Nat.le_of_ble_eq_true rfl)) dL_law_1163 ⟨(Nat.le_of_ble_eq_true rfl), (Nat.le_of_ble_eq_true rfl)⟩) hP hD hS hA [0, 1] [2, 3] rfl rfl (by decide) (by decide) (fun r2 q1 H locs hw hP hD hS => ?_)
  have hw : r2 = 1 := hw
  subst hw
  have hP : va_P G.1 pxCl [(a149, .inr (6, [.ref a150, .ref a151, .ref a152, .int 0, .ref a153, .int 0, .int 0, .int 0, .int 0, .ref a154, .int 0, .ref a155, .int 0, .int 0, .int 0, .int (-1), .ref a156, .ref a157, .int 0, .ref a158, .ref a159, .ref a160])), (a150, .inl (G.2.1 0, 4891, .inl (fun _ => 0)))] H := hP
  have hD : va_D (fun q : Nat => s.heap.size ≤ q) [(a149, .inr (6, [.ref a150, .ref a151, .ref a152, .int 0, .ref a153, .int 0, .int 0, .int 0, .int 0, .ref a154, .int 0, .ref a155, .int 0, .int 0, .int 0, .int (-1), .ref a156, .ref a157, .int 0, .ref a158, .ref a159, .ref a160])), (a150, .inl (G.2.1 0, 4891, .inl (fun _ => 0)))] := hD
  refine W.widen (k := 483) (n := 60059) (Nat.le_of_ble_eq_true rfl) (Nat.le_of_ble_eq_true rfl) ?_
  refine lv_istore (lv' := [(6, .int 1), (5, .int 0), (4, .ref a162), (3, .ref a161), (2, .ref a149), (1, .ref a1), (0, .ref b)]) hx hb dL_law_1166 hl (by decide) rfl (fun ls hl => ?_)
  refine lv_aload_n hx hb dL_law_1168 rfl (lv_at hl 4 rfl) ?_
  refine lv_aload_n hx hb dL_law_1169 rfl (lv_at hl 6 rfl) ?_
  refine lv_iload hx hb dL_law_1170 (lv_at hl 1 rfl) ?_
  refine lv_iconst (v := 1) hx hb dL_law_1172 (by decide) ?_
  refine lv_iadd hx hb dL_law_1173 ?_
  refine pxTop (w := .int 1) (congrArg Value.int (by decide)) ?_
  refine va_sld hx hb hX hbl hbA hS (show ¬ ((1 : Int32) < 0 ∨ 5 ≤ (1 : Int32).toNatClampNeg) by decide +kernel) dL_law_1174 ?_
  refine pxTop (w := .int p1) (congrArg Value.int hp1) ?_
  refine lv_aload_n hx hb dL_law_1175 rfl (lv_at hl 6 rfl) ?_
  refine lv_iload hx hb dL_law_1176 (lv_at hl 1 rfl) ?_
  refine lv_iconst (v := 2) hx hb dL_law_1178 (by decide) ?_
  refine lv_iadd hx hb dL_law_1179 ?_
  refine pxTop (w := .int 2) (congrArg Value.int (by decide)) ?_
  refine va_sld hx hb hX hbl hbA hS (show ¬ ((2 : Int32) < 0 ∨ 5 ≤ (2 : Int32).toNatClampNeg) by decide +kernel) dL_law_1180 ?_
  refine pxTop (w := .int p2) (congrArg Value.int hp2) ?_
  refine pxCi (va_runV (As := [.int p1, .int p2]) (rest := []) ⟨hx, hb, hml, hown, hts⟩ (k157_X7_parcel l G H.size a149 a150 a151 a152 a153 a154 a155 a156 a157 a158 a159 a160 p1 p2) (cwV 2 hts (pxGV pm441 pm442 pm443 pm71 pm444) rfl rfl rfl (by decide +kernel) ⟨(Nat.le_of_ble_eq_true rfl), (Nat.le_of_ble_eq_true rfl)⟩) (pxV (ci := 6) (q0 := 0) hG hZ hP hD hS hA [0, 1] rfl (by decide) rfl rfl) rfl rfl hl.1 rfl (lv_room (Nat.le_of_ble_eq_true rfl)) dL_law_1181 ⟨(Nat.le_of_ble_eq_true rfl), (Nat.le_of_ble_eq_true rfl)⟩) hP hD hS hA [0, 1] [] rfl rfl (by decide) (by decide) (fun r4 q3 H locs hw hP hD hS => ?_)
  have hw : r4 = 0 := hw
  subst hw
  have hP : va_P G.1 pxCl [(a149, .inr (6, [.ref a150, .ref a151, .ref a152, .int 0, .ref a153, .int 0, .int 0, .int 1, .int 0, .ref a154, .int 0, .ref a155, .int 0, .int 0, .int 0, .int (-1), .ref a156, .ref a157, .int 0, .ref a158, .ref a159, .ref a160]))] H := hP
  have hD : va_D (fun q : Nat => s.heap.size ≤ q) [(a149, .inr (6, [.ref a150, .ref a151, .ref a152, .int 0, .ref a153, .int 0, .int 0, .int 1, .int 0, .ref a154, .int 0, .ref a155, .int 0, .int 0, .int 0, .int (-1), .ref a156, .ref a157, .int 0, .ref a158, .ref a159, .ref a160]))] := hD
  refine lv_istore (lv' := [(7, .int 0), (6, .int 1), (5, .int 0), (4, .ref a162), (3, .ref a161), (2, .ref a149), (1, .ref a1), (0, .ref b)]) hx hb dL_law_1184 hl (by decide) rfl (fun ls hl => ?_)
  refine lv_aload_n hx hb dL_law_1186 rfl (lv_at hl 5 rfl) ?_
  refine pxCi (va_runV (As := []) (rest := []) ⟨hx, hb, hml, hown, hts⟩ (k158_X7_thrown l G H.size a149 a150 a151 a152 a153 a154 a155 a156 a157 a158 a159 a160) (cwV 0 hts (pxGV pm160 pm161 pm162 pm71 pm163) rfl rfl rfl (by decide +kernel) ⟨(Nat.le_of_ble_eq_true rfl), (Nat.le_of_ble_eq_true rfl)⟩) (pxV (ci := 6) (q0 := 0) hG hZ hP hD hS hA [0] rfl (by decide) rfl rfl) rfl rfl hl.1 rfl (lv_room (Nat.le_of_ble_eq_true rfl)) dL_law_1187 ⟨(Nat.le_of_ble_eq_true rfl), (Nat.le_of_ble_eq_true rfl)⟩) hP hD hS hA [0] [] rfl rfl (by decide) (by decide) (fun r6 q5 H locs hw hP hD hS => ?_)
  have hw : r6 = 1 := hw
  subst hw
  have hP : va_P G.1 pxCl [(a149, .inr (6, [.ref a150, .ref a151, .ref a152, .int 0, .ref a153, .int 0, .int 0, .int 1, .int 0, .ref a154, .int 0, .ref a155, .int 0, .int 0, .int 0, .int (-1), .ref a156, .ref a157, .int 0, .ref a158, .ref a159, .ref a160]))] H := hP
  have hD : va_D (fun q : Nat => s.heap.size ≤ q) [(a149, .inr (6, [.ref a150, .ref a151, .ref a152, .int 0, .ref a153, .int 0, .int 0, .int 1, .int 0, .ref a154, .int 0, .ref a155, .int 0, .int 0, .int 0, .int (-1), .ref a156, .ref a157, .int 0, .ref a158, .ref a159, .ref a160]))] := hD
  refine lv_iload hx hb dL_law_1190 (lv_at hl 1 rfl) ?_
  refine lv_icmp_eq (tgt := 1197) hx hb dL_law_1192 (by decide) (fun _ => ?_) (fun h9 => absurd (by decide) h9)
  refine lv_iload hx hb dL_law_1197 (lv_at hl 1 rfl) ?_
  refine lv_if_ne (tgt := 1214) hx hb dL_law_1199 (by decide) (fun _ => ?_) (fun h9 => absurd h9 (by decide))
  refine lv_goto (tgt := 2658) hx hb dL_law_1214 (by decide) ?_
  refine W.widen (k := 2000) (n := 200000) (Nat.le_of_ble_eq_true rfl) (Nat.le_of_ble_eq_true rfl) ?_
  exact law_tail hl9 G C0 hG hZ H locs hS ls (lv_sub hl [2, 7] rfl)
