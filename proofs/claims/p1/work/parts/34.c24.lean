theorem pm542 : Cond.methodLink RL 96 yX6_coverBits ∈ pxAll := pxM 1062 (by decide +kernel) rfl
theorem pm543 : Cond.instanceMethod yX6_coverBits ∈ pxAll := pxM 1063 (by decide +kernel) rfl
theorem pm544 : Cond.selects RX6 yX6_coverBits yX6_coverBits ∈ pxAll := pxM 1064 (by decide +kernel) rfl
set_option maxRecDepth 100000 in
theorem pm545 : Cond.code yX6_coverBits cX6_coverBits 3 (some .int) ∈ pxAll := pxM 1065 rfl rfl
theorem pm546 : Cond.methodLink RL 226 yL_coverBits ∈ pxAll := pxM 1059 (by decide +kernel) rfl
theorem pm547 : Cond.static yL_coverBits ∈ pxAll := pxM 1060 (by decide +kernel) rfl
set_option maxRecDepth 100000 in
theorem pm548 : Cond.codeWith yL_coverBits cL_coverBits 5 (some .int) [(0, 10, 13, 67), (0, 10, 17, 62)] ∈ pxAll := pxM 1061 rfl rfl
theorem pm549 : Cond.methodLink RL 228 yX7_coverBits ∈ pxAll := pxM 1691 (by decide +kernel) rfl
theorem pm550 : Cond.instanceMethod yX7_coverBits ∈ pxAll := pxM 1692 (by decide +kernel) rfl
theorem pm551 : Cond.selects RX7 yX7_coverBits yX7_coverBits ∈ pxAll := pxM 1693 (by decide +kernel) rfl
set_option maxRecDepth 100000 in
theorem pm552 : Cond.code yX7_coverBits cX7_coverBits 3 (some .int) ∈ pxAll := pxM 1694 rfl rfl
theorem dL_law_1866 : decode cL_law 1866 = .ok (.aload_n 1, 1) := by decide +kernel
theorem dL_law_1867 : decode cL_law 1867 = .ok (.aload_n 0, 1) := by decide +kernel
theorem dL_law_1868 : decode cL_law 1868 = .ok (.iload 5, 2) := by decide +kernel
theorem dL_law_1870 : decode cL_law 1870 = .ok (.iconst 1, 1) := by decide +kernel
theorem dL_law_1871 : decode cL_law 1871 = .ok (.iadd, 1) := by decide +kernel
theorem dL_law_1872 : decode cL_law 1872 = .ok (.iaload, 1) := by decide +kernel
theorem dL_law_1873 : decode cL_law 1873 = .ok (.aload_n 0, 1) := by decide +kernel
theorem dL_law_1874 : decode cL_law 1874 = .ok (.iload 5, 2) := by decide +kernel
theorem dL_law_1876 : decode cL_law 1876 = .ok (.iconst 2, 1) := by decide +kernel
theorem dL_law_1877 : decode cL_law 1877 = .ok (.iadd, 1) := by decide +kernel
theorem dL_law_1878 : decode cL_law 1878 = .ok (.iaload, 1) := by decide +kernel
theorem dL_law_1879 : decode cL_law 1879 = .ok (.aload_n 3, 1) := by decide +kernel
theorem dL_coverBits_0 : decode cL_coverBits 0 = .ok (.aload_n 3, 1) := by decide +kernel
theorem dL_coverBits_1 : decode cL_coverBits 1 = .ok (.iconst 0, 1) := by decide +kernel
theorem dL_coverBits_2 : decode cL_coverBits 2 = .ok (.aload_n 0, 1) := by decide +kernel
theorem dL_coverBits_3 : decode cL_coverBits 3 = .ok (.iload_n 1, 1) := by decide +kernel
theorem dL_coverBits_4 : decode cL_coverBits 4 = .ok (.iload_n 2, 1) := by decide +kernel
theorem dX6_coverBits_0 : decode cX6_coverBits 0 = .ok (.aload_n 0, 1) := by decide +kernel
theorem dX6_coverBits_1 : decode cX6_coverBits 1 = .ok (.iload_n 1, 1) := by decide +kernel
theorem dX6_coverBits_2 : decode cX6_coverBits 2 = .ok (.invokevirtual 155, 3) := by decide +kernel
theorem dL_coverBits_5 : decode cL_coverBits 5 = .ok (.invokevirtual 96, 3) := by decide +kernel
theorem dL_coverBits_13 : decode cL_coverBits 13 = .ok (.astore 4, 2) := by decide +kernel
theorem dL_coverBits_15 : decode cL_coverBits 15 = .ok (.iconst 1, 1) := by decide +kernel
theorem dL_coverBits_16 : decode cL_coverBits 16 = .ok (.ireturn, 1) := by decide +kernel
theorem dL_law_1880 : decode cL_law 1880 = .ok (.invokestatic 226, 3) := by decide +kernel
theorem dL_law_1883 : decode cL_law 1883 = .ok (.istore 6, 2) := by decide +kernel
theorem dL_law_1885 : decode cL_law 1885 = .ok (.aload_n 2, 1) := by decide +kernel
theorem dL_law_1886 : decode cL_law 1886 = .ok (.aload_n 0, 1) := by decide +kernel
theorem dL_law_1887 : decode cL_law 1887 = .ok (.iload 5, 2) := by decide +kernel
theorem dL_law_1889 : decode cL_law 1889 = .ok (.iconst 1, 1) := by decide +kernel
theorem dL_law_1890 : decode cL_law 1890 = .ok (.iadd, 1) := by decide +kernel
theorem dL_law_1891 : decode cL_law 1891 = .ok (.iaload, 1) := by decide +kernel
theorem dL_law_1892 : decode cL_law 1892 = .ok (.aload_n 0, 1) := by decide +kernel
theorem dL_law_1893 : decode cL_law 1893 = .ok (.iload 5, 2) := by decide +kernel
theorem dL_law_1895 : decode cL_law 1895 = .ok (.iconst 2, 1) := by decide +kernel
theorem dL_law_1896 : decode cL_law 1896 = .ok (.iadd, 1) := by decide +kernel
theorem dL_law_1897 : decode cL_law 1897 = .ok (.iaload, 1) := by decide +kernel
theorem dX7_coverBits_0 : decode cX7_coverBits 0 = .ok (.aload_n 0, 1) := by decide +kernel
theorem dX7_coverBits_1 : decode cX7_coverBits 1 = .ok (.iload_n 1, 1) := by decide +kernel
theorem dX7_coverBits_2 : decode cX7_coverBits 2 = .ok (.iload_n 2, 1) := by decide +kernel
theorem dX7_coverBits_3 : decode cX7_coverBits 3 = .ok (.invokevirtual 272, 3) := by decide +kernel
theorem dX7_coverBits_6 : decode cX7_coverBits 6 = .ok (.ifCond .eq 15, 3) := by decide +kernel
theorem dX7_coverBits_21 : decode cX7_coverBits 21 = .ok (.iconst 0, 1) := by decide +kernel
theorem dX7_coverBits_22 : decode cX7_coverBits 22 = .ok (.ireturn, 1) := by decide +kernel
theorem dL_law_1898 : decode cL_law 1898 = .ok (.invokevirtual 228, 3) := by decide +kernel
theorem dL_law_1901 : decode cL_law 1901 = .ok (.istore 7, 2) := by decide +kernel
theorem dL_law_1903 : decode cL_law 1903 = .ok (.aload_n 2, 1) := by decide +kernel
theorem dL_law_1904 : decode cL_law 1904 = .ok (.invokevirtual 147, 3) := by decide +kernel
theorem dL_law_1907 : decode cL_law 1907 = .ok (.iload 6, 2) := by decide +kernel
theorem dL_law_1909 : decode cL_law 1909 = .ok (.if_icmp .eq 5, 3) := by decide +kernel
theorem dL_law_1914 : decode cL_law 1914 = .ok (.iload 6, 2) := by decide +kernel
theorem dL_law_1916 : decode cL_law 1916 = .ok (.ifCond .ne 15, 3) := by decide +kernel
theorem dL_law_1931 : decode cL_law 1931 = .ok (.goto 727, 3) := by decide +kernel
set_option maxHeartbeats 4000000 in
set_option maxRecDepth 100000 in
theorem k188_X6_coverBits (l : Launch) (hl9 : l.stackTraces = false) (G : pxG) (sz : Nat) (a0 a1 a2 a3 a4 a5 a6 a7 a8 a9 a10 a11 a12 a13 : Nat) (i0 i1 : Int32) : vx_Met l yX6_coverBits (Cond.code yX6_coverBits cX6_coverBits 3 (some .int) :: pxAll) ({ frames := 7, cells := 1, slots := 6, locals := 111 } : Room) (va_Pc [.ref a0, .int i0, .int i1] (pxPre G [(a0, .inr (5, [.ref a1, .ref a2, .ref a3, .ref a4, .ref a5, .int 0, .int 0, .int (-1)])), (a1, .inr (2, [.ref a6, .ref a7, .ref a8, .ref a9, .ref a10, .ref a11, .ref a12, .ref a13, .int 0, .int 0]))] sz)) pxF (pxXC "java/lang/IndexOutOfBoundsException" (va_A [(a0, .inr (5, [.ref a1, .ref a2, .ref a3, .ref a4, .ref a5, .int 0, .int 0, .int (-1)])), (a1, .inr (2, [.ref a6, .ref a7, .ref a8, .ref a9, .ref a10, .ref a11, .ref a12, .ref a13, .int 0, .int 0]))] sz)) 1 6 (va_A [(a0, .inr (5, [.ref a1, .ref a2, .ref a3, .ref a4, .ref a5, .int 0, .int 0, .int (-1)])), (a1, .inr (2, [.ref a6, .ref a7, .ref a8, .ref a9, .ref a10, .ref a11, .ref a12, .ref a13, .int 0, .int 0]))] sz) := by
  refine vx_ofW (cc := cX6_coverBits) (maxL := 3) (ret := (some .int)) (by decide) rfl ?_
  intro p e s m args below meth c s₁ B hml hEx hv
  obtain ⟨rfl, hsz, hG, hZ, hP, hD0⟩ := hv
  have hx := B.exec
  have hb := B.bytes
  have hr := B.returns
  have hts0 := atoms_spec (ws := Cond.code yX6_coverBits cX6_coverBits 3 (some .int) :: pxAll) B.pre
  have hts : ∀ w ∈ pxAll, w.before _ s = true := fun w h => hts0 w (List.mem_cons_of_mem _ h)
  have hown : s.vm.findClass RX6 = some m.cls := findClass_of_methodNamed B.named
  have hlocks := B.notSynchronized
  subst hsz
  have hK := hG.1
  have hD := hD0.self (sz := s.heap.size)
  generalize hAe : va_A [(a0, .inr (5, [.ref a1, .ref a2, .ref a3, .ref a4, .ref a5, .int 0, .int 0, .int (-1)])), (a1, .inr (2, [.ref a6, .ref a7, .ref a8, .ref a9, .ref a10, .ref a11, .ref a12, .ref a13, .int 0, .int 0]))] s.heap.size = A at hD hZ ⊢
  have hA : ∀ q : Nat, s.heap.size ≤ q → A q := fun q h => by rw [← hAe]; exact Or.inr h
  have hS : va_S A s.heap s.heap [] := va_S.rf
  have hl := lv_entry ([.ref a0, .int i0, .int i1]) (n := 3) (Nat.le_of_ble_eq_true rfl)
  rw [lg_entry_eq]
  generalize (lg_sl ([.ref a0, .int i0, .int i1]) ++ List.replicate (3 - (lg_sl ([.ref a0, .int i0, .int i1])).length) Slot.unset).toArray = ls at hl ⊢
  have hl : lv_has ls 3 [(0, .ref a0), (1, .int i0), (2, .int i1)] := hl
  refine lv_aload_n hx hb dX6_coverBits_0 rfl (lv_at hl 0 rfl) ?_
  refine lv_iload_n hx hb dX6_coverBits_1 rfl (lv_at hl 1 rfl) ?_
  refine pxCx (vx_runV (As := [.int i0]) (rest := []) ⟨hx, hb, hml, hown, hts⟩ (k154_X6_requireParcel l hl9 G s.heap.size a0 a1 a2 a3 a4 a5 a6 a7 a8 a9 a10 a11 a12 a13 i0) (cwV 1 hts (pxGV pm429 pm430 pm431 pm2 pm432) rfl rfl rfl (by decide +kernel) ⟨(Nat.le_of_ble_eq_true rfl), (Nat.le_of_ble_eq_true rfl)⟩) (pxV (ci := 5) (q0 := 0) hG hZ hP hD hS hA [0, 1] rfl (by decide) rfl rfl) rfl rfl hl.1 rfl (lv_room (Nat.le_of_ble_eq_true rfl)) dX6_coverBits_2 ⟨(Nat.le_of_ble_eq_true rfl), (Nat.le_of_ble_eq_true rfl)⟩) hD hS hA [0, 1] rfl (fun ce q9 H locs hS hce hcv hcl => ?_)
  exact vx_out (fun x hx => (hEx x hx).elim) hlocks hce hcv hcl (fun t ht _ => ⟨rfl, hS.F ht⟩) hS.2.2 (Nat.le_of_ble_eq_true rfl) (Nat.le_of_ble_eq_true rfl)
set_option maxHeartbeats 4000000 in
set_option maxRecDepth 100000 in
theorem k188_L_coverBits (l : Launch) (hl9 : l.stackTraces = false) (G : pxG) (sz : Nat) (a0 a1 a2 a3 a4 a5 a6 a7 a8 a9 a10 a11 a12 a13 a14 : Nat) (i0 i1 : Int32) : Met l yL_coverBits (Cond.codeWith yL_coverBits cL_coverBits 5 (some .int) [(0, 10, 13, 67), (0, 10, 17, 62)] :: pxAll) ({ frames := 8, cells := 1, slots := 6, locals := 133 } : Room) (va_Pc [.ref a0, .int i0, .int i1, .ref a2] (pxPre G [(a0, .inr (5, [.ref a1, .ref a3, .ref a4, .ref a5, .ref a6, .int 0, .int 0, .int (-1)])), (a1, .inr (2, [.ref a7, .ref a8, .ref a9, .ref a10, .ref a11, .ref a12, .ref a13, .ref a14, .int 0, .int 0]))] sz)) (pxQi G (fun r => r = 1) (fun q => []) (va_A [(a0, .inr (5, [.ref a1, .ref a3, .ref a4, .ref a5, .ref a6, .int 0, .int 0, .int (-1)])), (a1, .inr (2, [.ref a7, .ref a8, .ref a9, .ref a10, .ref a11, .ref a12, .ref a13, .ref a14, .int 0, .int 0]))] sz)) 1 6 (va_A [(a0, .inr (5, [.ref a1, .ref a3, .ref a4, .ref a5, .ref a6, .int 0, .int 0, .int (-1)])), (a1, .inr (2, [.ref a7, .ref a8, .ref a9, .ref a10, .ref a11, .ref a12, .ref a13, .ref a14, .int 0, .int 0]))] sz) := by
  refine va_MetW (cc := cL_coverBits) (maxL := 5) (ret := (some .int)) (hh := [(0, 10, 13, 67), (0, 10, 17, 62)]) (by decide) rfl ?_
  intro p e s m args below meth c s₁ B hml hv
  obtain ⟨rfl, hsz, hG, hZ, hP, hD0⟩ := hv
  have hx := B.exec
  have hb := B.bytes
  have hr := B.returns
  have hts0 := atoms_spec (ws := Cond.codeWith yL_coverBits cL_coverBits 5 (some .int) [(0, 10, 13, 67), (0, 10, 17, 62)] :: pxAll) B.pre
  have hts : ∀ w ∈ pxAll, w.before _ s = true := fun w h => hts0 w (List.mem_cons_of_mem _ h)
  have hown : s.vm.findClass RL = some m.cls := findClass_of_methodNamed B.named
  have hlocks := B.notSynchronized
  have hTab := vx_table (x := yL_coverBits) B (hts0 _ List.mem_cons_self)
  subst hsz
  have hK := hG.1
  have hD := hD0.self (sz := s.heap.size)
  generalize hAe : va_A [(a0, .inr (5, [.ref a1, .ref a3, .ref a4, .ref a5, .ref a6, .int 0, .int 0, .int (-1)])), (a1, .inr (2, [.ref a7, .ref a8, .ref a9, .ref a10, .ref a11, .ref a12, .ref a13, .ref a14, .int 0, .int 0]))] s.heap.size = A at hD hZ ⊢
  have hA : ∀ q : Nat, s.heap.size ≤ q → A q := fun q h => by rw [← hAe]; exact Or.inr h
  have hS : va_S A s.heap s.heap [] := va_S.rf
  have hl := lv_entry ([.ref a0, .int i0, .int i1, .ref a2]) (n := 5) (Nat.le_of_ble_eq_true rfl)
  rw [lg_entry_eq]
  generalize (lg_sl ([.ref a0, .int i0, .int i1, .ref a2]) ++ List.replicate (5 - (lg_sl ([.ref a0, .int i0, .int i1, .ref a2])).length) Slot.unset).toArray = ls at hl ⊢
  have hl : lv_has ls 5 [(0, .ref a0), (1, .int i0), (2, .int i1), (3, .ref a2)] := hl
  refine lv_aload_n hx hb dL_coverBits_0 rfl (lv_at hl 3 rfl) ?_
  refine lv_iconst (v := 0) hx hb dL_coverBits_1 (by decide) ?_
  refine lv_aload_n hx hb dL_coverBits_2 rfl (lv_at hl 0 rfl) ?_
  refine lv_iload_n hx hb dL_coverBits_3 rfl (lv_at hl 1 rfl) ?_
  refine lv_iload_n hx hb dL_coverBits_4 rfl (lv_at hl 2 rfl) ?_
  refine pxCx (vx_runV (As := [.int i0, .int i1]) (rest := [.int 0, .ref a2]) ⟨hx, hb, hml, hown, hts⟩ (k188_X6_coverBits l hl9 G s.heap.size a0 a1 a3 a4 a5 a6 a7 a8 a9 a10 a11 a12 a13 a14 i0 i1) (cwV 2 hts (pxGV pm542 pm543 pm544 pm2 pm545) rfl rfl rfl (by decide +kernel) ⟨(Nat.le_of_ble_eq_true rfl), (Nat.le_of_ble_eq_true rfl)⟩) (pxV (ci := 5) (q0 := 0) hG hZ hP hD hS hA [0, 1] rfl (by decide) rfl rfl) rfl rfl hl.1 rfl (lv_room (Nat.le_of_ble_eq_true rfl)) dL_coverBits_5 ⟨(Nat.le_of_ble_eq_true rfl), (Nat.le_of_ble_eq_true rfl)⟩) hD hS hA [0, 1] rfl (fun ce q9 H locs hS hce hcv hcl => ?_)
  refine vx_catch (own := RL) (name := "java/lang/IndexOutOfBoundsException") (E := "java/lang/IndexOutOfBoundsException") hown [] ⟨0, 10, 13, 67⟩ [⟨0, 10, 17, 62⟩] (by rw [hTab]; rfl) (fun z hz => nomatch hz) (by decide) (by decide) (hts _ pm437) (va_Nw.use rfl (hG.2.2.1 "java/lang/IndexOutOfBoundsException" (by simp [pxBadC]))) hce hcv hcl ?_
  have hP : va_P G.1 pxCl [] H := fun k q h => by simp at h
  have hD : va_D A [] := ⟨fun i j p q h => by simp at h, fun k q h => by simp at h⟩
  refine lv_astore (lv' := [(4, .ref q9), (0, .ref a0), (1, .int i0), (2, .int i1), (3, .ref a2)]) hx hb dL_coverBits_13 hl (by decide) rfl (fun ls hl => ?_)
  refine lv_iconst (v := 1) hx hb dL_coverBits_15 (by decide) ?_
  refine W.widen (k := 1) (n := 6) (Nat.le_of_ble_eq_true rfl) (Nat.le_of_ble_eq_true rfl) ?_
  exact W.iret (v := 1) hx hb hr (fun t ht hW => ⟨⟨1, (fun _ => 0), rfl, rfl, by rw [ht]; exact hP, hD⟩, hS.F ht⟩) hS.2.2 dL_coverBits_16
set_option maxHeartbeats 4000000 in
set_option maxRecDepth 100000 in
theorem k190_X7_coverBits (l : Launch) (G : pxG) (sz : Nat) (a0 a1 a2 a3 a4 a5 a6 a7 a8 a9 a10 a11 : Nat) (i0 i1 : Int32) : Met l yX7_coverBits (Cond.code yX7_coverBits cX7_coverBits 3 (some .int) :: pxAll) ({ frames := 3, cells := 0, slots := 0, locals := 65 } : Room) (va_Pc [.ref a0, .int i0, .int i1] (pxPre G [(a0, .inr (6, [.ref a1, .ref a2, .ref a3, .int 0, .ref a4, .int 0, .int 0, .int 0, .int 0, .ref a5, .int 0, .ref a6, .int 0, .int 0, .int 0, .int (-1), .ref a7, .ref a8, .int 0, .ref a9, .ref a10, .ref a11])), (a1, .inl (G.2.1 0, 4891, .inl (fun _ => 0)))] sz)) (pxQi G (fun r => r = 0) (fun q => [(a0, .inr (6, [.ref a1, .ref a2, .ref a3, .int 0, .ref a4, .int 0, .int 0, .int 1, .int 0, .ref a5, .int 0, .ref a6, .int 0, .int 0, .int 0, .int (-1), .ref a7, .ref a8, .int 0, .ref a9, .ref a10, .ref a11]))]) (va_A [(a0, .inr (6, [.ref a1, .ref a2, .ref a3, .int 0, .ref a4, .int 0, .int 0, .int 0, .int 0, .ref a5, .int 0, .ref a6, .int 0, .int 0, .int 0, .int (-1), .ref a7, .ref a8, .int 0, .ref a9, .ref a10, .ref a11])), (a1, .inl (G.2.1 0, 4891, .inl (fun _ => 0)))] sz)) 0 0 (va_A [(a0, .inr (6, [.ref a1, .ref a2, .ref a3, .int 0, .ref a4, .int 0, .int 0, .int 0, .int 0, .ref a5, .int 0, .ref a6, .int 0, .int 0, .int 0, .int (-1), .ref a7, .ref a8, .int 0, .ref a9, .ref a10, .ref a11])), (a1, .inl (G.2.1 0, 4891, .inl (fun _ => 0)))] sz) := by
  refine Met.ofW (cc := cX7_coverBits) (maxL := 3) (ret := (some .int)) (by decide) rfl ?_
  intro p e s m args below meth c s₁ B hml hv
  obtain ⟨rfl, hsz, hG, hZ, hP, hD0⟩ := hv
  have hx := B.exec
  have hb := B.bytes
  have hr := B.returns
  have hts0 := atoms_spec (ws := Cond.code yX7_coverBits cX7_coverBits 3 (some .int) :: pxAll) B.pre
  have hts : ∀ w ∈ pxAll, w.before _ s = true := fun w h => hts0 w (List.mem_cons_of_mem _ h)
  have hown : s.vm.findClass RX7 = some m.cls := findClass_of_methodNamed B.named
  have hlocks := B.notSynchronized
  subst hsz
  have hK := hG.1
  have hD := hD0.self (sz := s.heap.size)
  generalize hAe : va_A [(a0, .inr (6, [.ref a1, .ref a2, .ref a3, .int 0, .ref a4, .int 0, .int 0, .int 0, .int 0, .ref a5, .int 0, .ref a6, .int 0, .int 0, .int 0, .int (-1), .ref a7, .ref a8, .int 0, .ref a9, .ref a10, .ref a11])), (a1, .inl (G.2.1 0, 4891, .inl (fun _ => 0)))] s.heap.size = A at hD hZ ⊢
  have hA : ∀ q : Nat, s.heap.size ≤ q → A q := fun q h => by rw [← hAe]; exact Or.inr h
  have hS : va_S A s.heap s.heap [] := va_S.rf
  have hl := lv_entry ([.ref a0, .int i0, .int i1]) (n := 3) (Nat.le_of_ble_eq_true rfl)
  rw [lg_entry_eq]
  generalize (lg_sl ([.ref a0, .int i0, .int i1]) ++ List.replicate (3 - (lg_sl ([.ref a0, .int i0, .int i1])).length) Slot.unset).toArray = ls at hl ⊢
  have hl : lv_has ls 3 [(0, .ref a0), (1, .int i0), (2, .int i1)] := hl
  refine lv_aload_n hx hb dX7_coverBits_0 rfl (lv_at hl 0 rfl) ?_
  refine lv_iload_n hx hb dX7_coverBits_1 rfl (lv_at hl 1 rfl) ?_
  refine lv_iload_n hx hb dX7_coverBits_2 rfl (lv_at hl 2 rfl) ?_
  refine pxCi (va_runV (As := [.int i0, .int i1]) (rest := []) ⟨hx, hb, hml, hown, hts⟩ (k168_X7_mayAsk l G s.heap.size a0 a1 a2 a3 a4 a5 a6 a7 a8 a9 a10 a11 i0 i1) (cwV 2 hts (pxGV pm479 pm480 pm481 pm71 pm482) rfl rfl rfl (by decide +kernel) ⟨(Nat.le_of_ble_eq_true rfl), (Nat.le_of_ble_eq_true rfl)⟩) (pxV (ci := 6) (q0 := 0) hG hZ hP hD hS hA [0, 1] rfl (by decide) rfl rfl) rfl rfl hl.1 rfl (lv_room (Nat.le_of_ble_eq_true rfl)) dX7_coverBits_3 ⟨(Nat.le_of_ble_eq_true rfl), (Nat.le_of_ble_eq_true rfl)⟩) hP hD hS hA [0, 1] [] rfl rfl (by decide) (by decide) (fun r2 q1 H locs hw hP hD hS => ?_)
  have hw : r2 = 0 := hw
  subst hw
  have hP : va_P G.1 pxCl [(a0, .inr (6, [.ref a1, .ref a2, .ref a3, .int 0, .ref a4, .int 0, .int 0, .int 1, .int 0, .ref a5, .int 0, .ref a6, .int 0, .int 0, .int 0, .int (-1), .ref a7, .ref a8, .int 0, .ref a9, .ref a10, .ref a11])), (a1, .inl (G.2.1 0, 4891, .inl (fun _ => 0)))] H := hP
  have hD : va_D A [(a0, .inr (6, [.ref a1, .ref a2, .ref a3, .int 0, .ref a4, .int 0, .int 0, .int 1, .int 0, .ref a5, .int 0, .ref a6, .int 0, .int 0, .int 0, .int (-1), .ref a7, .ref a8, .int 0, .ref a9, .ref a10, .ref a11])), (a1, .inl (G.2.1 0, 4891, .inl (fun _ => 0)))] := hD
  refine lv_if_eq (tgt := 21) hx hb dX7_coverBits_6 (by decide) (fun _ => ?_) (fun h9 => absurd (by decide) h9)
  refine lv_iconst (v := 0) hx hb dX7_coverBits_21 (by decide) ?_
  have hD : va_D A [(a0, .inr (6, [.ref a1, .ref a2, .ref a3, .int 0, .ref a4, .int 0, .int 0, .int 1, .int 0, .ref a5, .int 0, .ref a6, .int 0, .int 0, .int 0, .int (-1), .ref a7, .ref a8, .int 0, .ref a9, .ref a10, .ref a11]))] := hD.sub [0] (by decide) rfl
  have hP : va_P G.1 pxCl [(a0, .inr (6, [.ref a1, .ref a2, .ref a3, .int 0, .ref a4, .int 0, .int 0, .int 1, .int 0, .ref a5, .int 0, .ref a6, .int 0, .int 0, .int 0, .int (-1), .ref a7, .ref a8, .int 0, .ref a9, .ref a10, .ref a11]))] H := hP.sub [0] rfl
  refine W.widen (k := 0) (n := 0) (Nat.le_of_ble_eq_true rfl) (Nat.le_of_ble_eq_true rfl) ?_
  exact W.iret (v := 0) hx hb hr (fun t ht hW => ⟨⟨0, (fun _ => 0), rfl, rfl, by rw [ht]; exact hP, hD⟩, hS.F ht⟩) hS.2.2 dX7_coverBits_22
set_option maxHeartbeats 4000000 in
set_option maxRecDepth 100000 in
theorem lc24 {p : Program} {l : Launch} {e : Env} {s : State} {m : MethodId} {below : List Frame} {meth : Method} {c : Code} {b : Nat} {xs : Nat → Int32} (hl9 : l.stackTraces = false) (G : pxG) (C0 : lw_At p s m meth c b 5 xs) (hG : pxOk G s) (hZ : pxZ (fun q : Nat => s.heap.size ≤ q) s s.heap) (a1 a2 a3 a4 a5 a6 a7 a8 a9 a10 a43 a86 a127 a131 a149 a150 a151 a152 a153 a154 a155 a156 a157 a158 a159 a160 a161 a162 : Nat) (H : Heap) (locs : List Loc) (hP : va_P G.1 pxCl [(a1, .inr (5, [.ref a2, .ref a43, .ref a86, .ref a127, .ref a131, .int 0, .int 0, .int (-1)])), (a2, .inr (2, [.ref a3, .ref a4, .ref a5, .ref a6, .ref a7, .ref a8, .ref a9, .ref a10, .int 0, .int 0])), (a149, .inr (6, [.ref a150, .ref a151, .ref a152, .int 0, .ref a153, .int 0, .int 0, .int 0, .int 0, .ref a154, .int 0, .ref a155, .int 0, .int 0, .int 0, .int (-1), .ref a156, .ref a157, .int 0, .ref a158, .ref a159, .ref a160])), (a150, .inl (G.2.1 0, 4891, .inl (fun _ => 0)))] H) (hD : va_D (fun q : Nat => s.heap.size ≤ q) [(a1, .inr (5, [.ref a2, .ref a43, .ref a86, .ref a127, .ref a131, .int 0, .int 0, .int (-1)])), (a2, .inr (2, [.ref a3, .ref a4, .ref a5, .ref a6, .ref a7, .ref a8, .ref a9, .ref a10, .int 0, .int 0])), (a149, .inr (6, [.ref a150, .ref a151, .ref a152, .int 0, .ref a153, .int 0, .int 0, .int 0, .int 0, .ref a154, .int 0, .ref a155, .int 0, .int 0, .int 0, .int (-1), .ref a156, .ref a157, .int 0, .ref a158, .ref a159, .ref a160])), (a150, .inl (G.2.1 0, 4891, .inl (fun _ => 0)))]) (hS : va_S (fun q : Nat => s.heap.size ≤ q) s.heap H locs) (ls : Array Slot) (hl : lv_has ls 9 [(5, .int 0), (4, .ref a162), (3, .ref a161), (2, .ref a149), (1, .ref a1), (0, .ref b)]) : W p l e room_1 s m #[Value.ref b] below meth c H locs 482 60053 (lw_Z below #[Value.ref b] s) (F0 m 1866 ls []) := by
  obtain ⟨hx, hb, hr, hml, hown, hts0, hX, hbl, hlocks, hgv⟩ := id C0
  have hts : ∀ w ∈ pxAll, w.before #[Value.ref b] s = true := fun w h => hts0 w (List.mem_filter.mp h).1
  have hA : ∀ q : Nat, s.heap.size ≤ q → (fun q : Nat => s.heap.size ≤ q) q := fun _ h => h
  have hbA : ¬ (fun q : Nat => s.heap.size ≤ q) b := Nat.not_le.mpr hbl
  have hK := hG.1
  obtain ⟨p1, hp1⟩ : ∃ z : Int32, xs 1 = z := ⟨_, rfl⟩
  have r1 := pxRng p1
  obtain ⟨p2, hp2⟩ : ∃ z : Int32, xs 2 = z := ⟨_, rfl⟩
  have r2 := pxRng p2
  refine lv_aload_n hx hb dL_law_1866 rfl (lv_at hl 4 rfl) ?_
  refine lv_aload_n hx hb dL_law_1867 rfl (lv_at hl 5 rfl) ?_
  refine lv_iload hx hb dL_law_1868 (lv_at hl 0 rfl) ?_
  refine lv_iconst (v := 1) hx hb dL_law_1870 (by decide) ?_
  refine lv_iadd hx hb dL_law_1871 ?_
  refine pxTop (w := .int 1) (congrArg Value.int (by decide)) ?_
  refine va_sld hx hb hX hbl hbA hS (show ¬ ((1 : Int32) < 0 ∨ 5 ≤ (1 : Int32).toNatClampNeg) by decide +kernel) dL_law_1872 ?_
  refine pxTop (w := .int p1) (congrArg Value.int hp1) ?_
  refine lv_aload_n hx hb dL_law_1873 rfl (lv_at hl 5 rfl) ?_
  refine lv_iload hx hb dL_law_1874 (lv_at hl 0 rfl) ?_
  refine lv_iconst (v := 2) hx hb dL_law_1876 (by decide) ?_
  refine lv_iadd hx hb dL_law_1877 ?_
  refine pxTop (w := .int 2) (congrArg Value.int (by decide)) ?_
  refine va_sld hx hb hX hbl hbA hS (show ¬ ((2 : Int32) < 0 ∨ 5 ≤ (2 : Int32).toNatClampNeg) by decide +kernel) dL_law_1878 ?_
  refine pxTop (w := .int p2) (congrArg Value.int hp2) ?_
  refine lv_aload_n hx hb dL_law_1879 rfl (lv_at hl 2 rfl) ?_
  refine pxCi (vx_runSW (As := [.ref a1, .int p1, .int p2, .ref a161]) (rest := []) ⟨hx, hb, hml, hown, hts⟩ (k188_L_coverBits l hl9 G H.size a1 a2 a161 a43 a86 a127 a131 a3 a4 a5 a6 a7 a8 a9 a10 p1 p2) (vx_cwSW 4 hts (pxGS pm546 pm547 pm136 pm548) rfl rfl rfl (by decide +kernel) ⟨(Nat.le_of_ble_eq_true rfl), (Nat.le_of_ble_eq_true rfl)⟩) (pxS hG hZ hP hD hS hA [0, 1] rfl (by decide)) rfl rfl hl.1 rfl (lv_room (Nat.le_of_ble_eq_true rfl)) dL_law_1880 ⟨(Nat.le_of_ble_eq_true rfl), (Nat.le_of_ble_eq_true rfl)⟩) hP hD hS hA [0, 1] [2, 3] rfl rfl (by decide) (by decide) (fun r2 q1 H locs hw hP hD hS => ?_)
  have hw : r2 = 1 := hw
  subst hw
  have hP : va_P G.1 pxCl [(a149, .inr (6, [.ref a150, .ref a151, .ref a152, .int 0, .ref a153, .int 0, .int 0, .int 0, .int 0, .ref a154, .int 0, .ref a155, .int 0, .int 0, .int 0, .int (-1), .ref a156, .ref a157, .int 0, .ref a158, .ref a159, .ref a160])), (a150, .inl (G.2.1 0, 4891, .inl (fun _ => 0)))] H := hP
  have hD : va_D (fun q : Nat => s.heap.size ≤ q) [(a149, .inr (6, [.ref a150, .ref a151, .ref a152, .int 0, .ref a153, .int 0, .int 0, .int 0, .int 0, .ref a154, .int 0, .ref a155, .int 0, .int 0, .int 0, .int (-1), .ref a156, .ref a157, .int 0, .ref a158, .ref a159, .ref a160])), (a150, .inl (G.2.1 0, 4891, .inl (fun _ => 0)))] := hD
  refine W.widen (k := 483) (n := 60059) (Nat.le_of_ble_eq_true rfl) (Nat.le_of_ble_eq_true rfl) ?_
  refine lv_istore (lv' := [(6, .int 1), (5, .int 0), (4, .ref a162), (3, .ref a161), (2, .ref a149), (1, .ref a1), (0, .ref b)]) hx hb dL_law_1883 hl (by decide) rfl (fun ls hl => ?_)
  refine lv_aload_n hx hb dL_law_1885 rfl (lv_at hl 4 rfl) ?_
  refine lv_aload_n hx hb dL_law_1886 rfl (lv_at hl 6 rfl) ?_
  refine lv_iload hx hb dL_law_1887 (lv_at hl 1 rfl) ?_
  refine lv_iconst (v := 1) hx hb dL_law_1889 (by decide) ?_
  refine lv_iadd hx hb dL_law_1890 ?_
  refine pxTop (w := .int 1) (congrArg Value.int (by decide)) ?_
  refine va_sld hx hb hX hbl hbA hS (show ¬ ((1 : Int32) < 0 ∨ 5 ≤ (1 : Int32).toNatClampNeg) by decide +kernel) dL_law_1891 ?_
  refine pxTop (w := .int p1) (congrArg Value.int hp1) ?_
  refine lv_aload_n hx hb dL_law_1892 rfl (lv_at hl 6 rfl) ?_
  refine lv_iload hx hb dL_law_1893 (lv_at hl 1 rfl) ?_
  refine lv_iconst (v := 2) hx hb dL_law_1895 (by decide) ?_
  refine lv_iadd hx hb dL_law_1896 ?_
  refine pxTop (w := .int 2) (congrArg Value.int (by decide)) ?_
  refine va_sld hx hb hX hbl hbA hS (show ¬ ((2 : Int32) < 0 ∨ 5 ≤ (2 : Int32).toNatClampNeg) by decide +kernel) dL_law_1897 ?_
  refine pxTop (w := .int p2) (congrArg Value.int hp2) ?_
  refine pxCi (va_runV (As := [.int p1, .int p2]) (rest := []) ⟨hx, hb, hml, hown, hts⟩ (k190_X7_coverBits l G H.size a149 a150 a151 a152 a153 a154 a155 a156 a157 a158 a159 a160 p1 p2) (cwV 2 hts (pxGV pm549 pm550 pm551 pm71 pm552) rfl rfl rfl (by decide +kernel) ⟨(Nat.le_of_ble_eq_true rfl), (Nat.le_of_ble_eq_true rfl)⟩) (pxV (ci := 6) (q0 := 0) hG hZ hP hD hS hA [0, 1] rfl (by decide) rfl rfl) rfl rfl hl.1 rfl (lv_room (Nat.le_of_ble_eq_true rfl)) dL_law_1898 ⟨(Nat.le_of_ble_eq_true rfl), (Nat.le_of_ble_eq_true rfl)⟩) hP hD hS hA [0, 1] [] rfl rfl (by decide) (by decide) (fun r4 q3 H locs hw hP hD hS => ?_)
  have hw : r4 = 0 := hw
  subst hw
  have hP : va_P G.1 pxCl [(a149, .inr (6, [.ref a150, .ref a151, .ref a152, .int 0, .ref a153, .int 0, .int 0, .int 1, .int 0, .ref a154, .int 0, .ref a155, .int 0, .int 0, .int 0, .int (-1), .ref a156, .ref a157, .int 0, .ref a158, .ref a159, .ref a160]))] H := hP
  have hD : va_D (fun q : Nat => s.heap.size ≤ q) [(a149, .inr (6, [.ref a150, .ref a151, .ref a152, .int 0, .ref a153, .int 0, .int 0, .int 1, .int 0, .ref a154, .int 0, .ref a155, .int 0, .int 0, .int 0, .int (-1), .ref a156, .ref a157, .int 0, .ref a158, .ref a159, .ref a160]))] := hD
  refine lv_istore (lv' := [(7, .int 0), (6, .int 1), (5, .int 0), (4, .ref a162), (3, .ref a161), (2, .ref a149), (1, .ref a1), (0, .ref b)]) hx hb dL_law_1901 hl (by decide) rfl (fun ls hl => ?_)
  refine lv_aload_n hx hb dL_law_1903 rfl (lv_at hl 5 rfl) ?_
  refine pxCi (va_runV (As := []) (rest := []) ⟨hx, hb, hml, hown, hts⟩ (k158_X7_thrown l G H.size a149 a150 a151 a152 a153 a154 a155 a156 a157 a158 a159 a160) (cwV 0 hts (pxGV pm160 pm161 pm162 pm71 pm163) rfl rfl rfl (by decide +kernel) ⟨(Nat.le_of_ble_eq_true rfl), (Nat.le_of_ble_eq_true rfl)⟩) (pxV (ci := 6) (q0 := 0) hG hZ hP hD hS hA [0] rfl (by decide) rfl rfl) rfl rfl hl.1 rfl (lv_room (Nat.le_of_ble_eq_true rfl)) dL_law_1904 ⟨(Nat.le_of_ble_eq_true rfl), (Nat.le_of_ble_eq_true rfl)⟩) hP hD hS hA [0] [] rfl rfl (by decide) (by decide) (fun r6 q5 H locs hw hP hD hS => ?_)
  have hw : r6 = 1 := hw
  subst hw
  have hP : va_P G.1 pxCl [(a149, .inr (6, [.ref a150, .ref a151, .ref a152, .int 0, .ref a153, .int 0, .int 0, .int 1, .int 0, .ref a154, .int 0, .ref a155, .int 0, .int 0, .int 0, .int (-1), .ref a156, .ref a157, .int 0, .ref a158, .ref a159, .ref a160]))] H := hP
  have hD : va_D (fun q : Nat => s.heap.size ≤ q) [(a149, .inr (6, [.ref a150, .ref a151, .ref a152, .int 0, .ref a153, .int 0, .int 0, .int 1, .int 0, .ref a154, .int 0, .ref a155, .int 0, .int 0, .int 0, .int (-1), .ref a156, .ref a157, .int 0, .ref a158, .ref a159, .ref a160]))] := hD
  refine lv_iload hx hb dL_law_1907 (lv_at hl 1 rfl) ?_
  refine lv_icmp_eq (tgt := 1914) hx hb dL_law_1909 (by decide) (fun _ => ?_) (fun h9 => absurd (by decide) h9)
  refine lv_iload hx hb dL_law_1914 (lv_at hl 1 rfl) ?_
  refine lv_if_ne (tgt := 1931) hx hb dL_law_1916 (by decide) (fun _ => ?_) (fun h9 => absurd h9 (by decide))
  refine lv_goto (tgt := 2658) hx hb dL_law_1931 (by decide) ?_
  refine W.widen (k := 2000) (n := 200000) (Nat.le_of_ble_eq_true rfl) (Nat.le_of_ble_eq_true rfl) ?_
  exact law_tail hl9 G C0 hG hZ H locs hS ls (lv_sub hl [2, 7] rfl)
