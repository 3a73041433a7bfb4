theorem pm666 : Cond.methodLink RX6 336 yX1_places ∈ pxAll := pxM 1183 (by decide +kernel) rfl
theorem pm667 : Cond.instanceMethod yX1_places ∈ pxAll := pxM 1184 (by decide +kernel) rfl
theorem pm668 : Cond.selects RX1 yX1_places yX1_places ∈ pxAll := pxM 1185 (by decide +kernel) rfl
set_option maxRecDepth 100000 in
theorem pm669 : Cond.code yX1_places cX1_places 1 (some .int) ∈ pxAll := pxM 1186 rfl rfl
theorem pm670 : Cond.methodLink RX6 307 yX6_requirePlace ∈ pxAll := pxM 1179 (by decide +kernel) rfl
theorem pm671 : Cond.instanceMethod yX6_requirePlace ∈ pxAll := pxM 1181 (by decide +kernel) rfl
theorem pm672 : Cond.selects RX6 yX6_requirePlace yX6_requirePlace ∈ pxAll := pxM 26 (by decide +kernel) rfl
set_option maxRecDepth 100000 in
theorem pm673 : Cond.code yX6_requirePlace cX6_requirePlace 3 none ∈ pxAll := pxM 1182 rfl rfl
theorem pm674 : Cond.methodLink RL 119 yX6_file ∈ pxAll := pxM 1175 (by decide +kernel) rfl
theorem pm675 : Cond.instanceMethod yX6_file ∈ pxAll := pxM 1176 (by decide +kernel) rfl
theorem pm676 : Cond.selects RX6 yX6_file yX6_file ∈ pxAll := pxM 1177 (by decide +kernel) rfl
set_option maxRecDepth 100000 in
theorem pm677 : Cond.code yX6_file cX6_file 7 (some .int) ∈ pxAll := pxM 1178 rfl rfl
theorem pm678 : Cond.methodLink RL 245 yL_file ∈ pxAll := pxM 1172 (by decide +kernel) rfl
theorem pm679 : Cond.static yL_file ∈ pxAll := pxM 1173 (by decide +kernel) rfl
set_option maxRecDepth 100000 in
theorem pm680 : Cond.codeWith yL_file cL_file 7 (some .int) [(0, 14, 17, 67), (0, 14, 21, 51), (0, 14, 25, 62), (0, 14, 29, 53)] ∈ pxAll := pxM 1174 rfl rfl
theorem pm681 : Cond.methodLink RX7 307 yX7_isPlace ∈ pxAll := pxM 1754 (by decide +kernel) rfl
theorem pm682 : Cond.instanceMethod yX7_isPlace ∈ pxAll := pxM 1756 (by decide +kernel) rfl
theorem pm683 : Cond.selects RX7 yX7_isPlace yX7_isPlace ∈ pxAll := pxM 81 (by decide +kernel) rfl
set_option maxRecDepth 100000 in
theorem pm684 : Cond.code yX7_isPlace cX7_isPlace 3 (some .boolean) ∈ pxAll := pxM 1757 rfl rfl
theorem pm685 : Cond.methodLink RL 247 yX7_file ∈ pxAll := pxM 1750 (by decide +kernel) rfl
theorem pm686 : Cond.instanceMethod yX7_file ∈ pxAll := pxM 1751 (by decide +kernel) rfl
theorem pm687 : Cond.selects RX7 yX7_file yX7_file ∈ pxAll := pxM 1752 (by decide +kernel) rfl
set_option maxRecDepth 100000 in
theorem pm688 : Cond.code yX7_file cX7_file 7 (some .int) ∈ pxAll := pxM 1753 rfl rfl
theorem dL_law_2245 : decode cL_law 2245 = .ok (.aload_n 1, 1) := by decide +kernel
theorem dL_law_2246 : decode cL_law 2246 = .ok (.aload_n 0, 1) := by decide +kernel
theorem dL_law_2247 : decode cL_law 2247 = .ok (.iload 5, 2) := by decide +kernel
theorem dL_law_2249 : decode cL_law 2249 = .ok (.iconst 1, 1) := by decide +kernel
theorem dL_law_2250 : decode cL_law 2250 = .ok (.iadd, 1) := by decide +kernel
theorem dL_law_2251 : decode cL_law 2251 = .ok (.iaload, 1) := by decide +kernel
theorem dL_law_2252 : decode cL_law 2252 = .ok (.aload_n 0, 1) := by decide +kernel
theorem dL_law_2253 : decode cL_law 2253 = .ok (.iload 5, 2) := by decide +kernel
theorem dL_law_2255 : decode cL_law 2255 = .ok (.iconst 2, 1) := by decide +kernel
theorem dL_law_2256 : decode cL_law 2256 = .ok (.iadd, 1) := by decide +kernel
theorem dL_law_2257 : decode cL_law 2257 = .ok (.iaload, 1) := by decide +kernel
theorem dL_law_2258 : decode cL_law 2258 = .ok (.aload_n 0, 1) := by decide +kernel
theorem dL_law_2259 : decode cL_law 2259 = .ok (.iload 5, 2) := by decide +kernel
theorem dL_law_2261 : decode cL_law 2261 = .ok (.iconst 3, 1) := by decide +kernel
theorem dL_law_2262 : decode cL_law 2262 = .ok (.iadd, 1) := by decide +kernel
theorem dL_law_2263 : decode cL_law 2263 = .ok (.iaload, 1) := by decide +kernel
theorem dL_law_2264 : decode cL_law 2264 = .ok (.aload_n 0, 1) := by decide +kernel
theorem dL_law_2265 : decode cL_law 2265 = .ok (.iload 5, 2) := by decide +kernel
theorem dL_law_2267 : decode cL_law 2267 = .ok (.iconst 4, 1) := by decide +kernel
theorem dL_law_2268 : decode cL_law 2268 = .ok (.iadd, 1) := by decide +kernel
theorem dL_law_2269 : decode cL_law 2269 = .ok (.iaload, 1) := by decide +kernel
theorem dL_law_2270 : decode cL_law 2270 = .ok (.aload_n 3, 1) := by decide +kernel
theorem dL_file_0 : decode cL_file 0 = .ok (.aload 5, 2) := by decide +kernel
theorem dL_file_2 : decode cL_file 2 = .ok (.iconst 0, 1) := by decide +kernel
theorem dL_file_3 : decode cL_file 3 = .ok (.aload_n 0, 1) := by decide +kernel
theorem dL_file_4 : decode cL_file 4 = .ok (.iload_n 1, 1) := by decide +kernel
theorem dL_file_5 : decode cL_file 5 = .ok (.iload_n 2, 1) := by decide +kernel
theorem dL_file_6 : decode cL_file 6 = .ok (.iload_n 3, 1) := by decide +kernel
theorem dL_file_7 : decode cL_file 7 = .ok (.iload 4, 2) := by decide +kernel
theorem dX6_file_0 : decode cX6_file 0 = .ok (.aload_n 0, 1) := by decide +kernel
theorem dX6_file_1 : decode cX6_file 1 = .ok (.iload_n 1, 1) := by decide +kernel
theorem dX6_file_2 : decode cX6_file 2 = .ok (.iload_n 2, 1) := by decide +kernel
theorem dX6_requirePlace_0 : decode cX6_requirePlace 0 = .ok (.aload_n 0, 1) := by decide +kernel
theorem dX6_requirePlace_1 : decode cX6_requirePlace 1 = .ok (.iload_n 1, 1) := by decide +kernel
theorem dX6_requirePlace_2 : decode cX6_requirePlace 2 = .ok (.invokevirtual 296, 3) := by decide +kernel
theorem dX6_requirePlace_5 : decode cX6_requirePlace 5 = .ok (.iload_n 2, 1) := by decide +kernel
theorem dX6_requirePlace_6 : decode cX6_requirePlace 6 = .ok (.ifCond .lt 16, 3) := by decide +kernel
theorem dX6_requirePlace_9 : decode cX6_requirePlace 9 = .ok (.iload_n 2, 1) := by decide +kernel
theorem dX6_requirePlace_10 : decode cX6_requirePlace 10 = .ok (.aload_n 0, 1) := by decide +kernel
theorem dX6_requirePlace_11 : decode cX6_requirePlace 11 = .ok (.getfield 35, 3) := by decide +kernel
theorem dX6_requirePlace_14 : decode cX6_requirePlace 14 = .ok (.iload_n 1, 1) := by decide +kernel
theorem dX6_requirePlace_15 : decode cX6_requirePlace 15 = .ok (.aaload, 1) := by decide +kernel
theorem dX1_places_0 : decode cX1_places 0 = .ok (.aload_n 0, 1) := by decide +kernel
theorem dX1_places_1 : decode cX1_places 1 = .ok (.getfield 22, 3) := by decide +kernel
theorem dX1_places_4 : decode cX1_places 4 = .ok (.ireturn, 1) := by decide +kernel
theorem dX6_requirePlace_16 : decode cX6_requirePlace 16 = .ok (.invokevirtual 336, 3) := by decide +kernel
theorem dX6_requirePlace_19 : decode cX6_requirePlace 19 = .ok (.if_icmp .lt 14, 3) := by decide +kernel
theorem dX6_requirePlace_22 : decode cX6_requirePlace 22 = .ok (.new 276, 3) := by decide +kernel
theorem dX6_requirePlace_25 : decode cX6_requirePlace 25 = .ok (.dup, 1) := by decide +kernel
theorem dX6_requirePlace_26 : decode cX6_requirePlace 26 = .ok (.ldc_w 346, 3) := by decide +kernel
theorem dX6_requirePlace_29 : decode cX6_requirePlace 29 = .ok (.invokespecial 280, 3) := by decide +kernel
theorem dX6_requirePlace_32 : decode cX6_requirePlace 32 = .ok (.athrow, 1) := by decide +kernel
theorem dX6_file_3 : decode cX6_file 3 = .ok (.invokevirtual 307, 3) := by decide +kernel
theorem dL_file_9 : decode cL_file 9 = .ok (.invokevirtual 119, 3) := by decide +kernel
theorem dL_file_17 : decode cL_file 17 = .ok (.astore 6, 2) := by decide +kernel
theorem dL_file_19 : decode cL_file 19 = .ok (.iconst 1, 1) := by decide +kernel
theorem dL_file_20 : decode cL_file 20 = .ok (.ireturn, 1) := by decide +kernel
theorem dL_law_2271 : decode cL_law 2271 = .ok (.invokestatic 245, 3) := by decide +kernel
theorem dL_law_2274 : decode cL_law 2274 = .ok (.istore 6, 2) := by decide +kernel
theorem dL_law_2276 : decode cL_law 2276 = .ok (.aload_n 2, 1) := by decide +kernel
theorem dL_law_2277 : decode cL_law 2277 = .ok (.aload_n 0, 1) := by decide +kernel
theorem dL_law_2278 : decode cL_law 2278 = .ok (.iload 5, 2) := by decide +kernel
theorem dL_law_2280 : decode cL_law 2280 = .ok (.iconst 1, 1) := by decide +kernel
theorem dL_law_2281 : decode cL_law 2281 = .ok (.iadd, 1) := by decide +kernel
theorem dL_law_2282 : decode cL_law 2282 = .ok (.iaload, 1) := by decide +kernel
theorem dL_law_2283 : decode cL_law 2283 = .ok (.aload_n 0, 1) := by decide +kernel
theorem dL_law_2284 : decode cL_law 2284 = .ok (.iload 5, 2) := by decide +kernel
theorem dL_law_2286 : decode cL_law 2286 = .ok (.iconst 2, 1) := by decide +kernel
theorem dL_law_2287 : decode cL_law 2287 = .ok (.iadd, 1) := by decide +kernel
theorem dL_law_2288 : decode cL_law 2288 = .ok (.iaload, 1) := by decide +kernel
theorem dL_law_2289 : decode cL_law 2289 = .ok (.aload_n 0, 1) := by decide +kernel
theorem dL_law_2290 : decode cL_law 2290 = .ok (.iload 5, 2) := by decide +kernel
theorem dL_law_2292 : decode cL_law 2292 = .ok (.iconst 3, 1) := by decide +kernel
theorem dL_law_2293 : decode cL_law 2293 = .ok (.iadd, 1) := by decide +kernel
theorem dL_law_2294 : decode cL_law 2294 = .ok (.iaload, 1) := by decide +kernel
theorem dL_law_2295 : decode cL_law 2295 = .ok (.aload_n 0, 1) := by decide +kernel
theorem dL_law_2296 : decode cL_law 2296 = .ok (.iload 5, 2) := by decide +kernel
theorem dL_law_2298 : decode cL_law 2298 = .ok (.iconst 4, 1) := by decide +kernel
theorem dL_law_2299 : decode cL_law 2299 = .ok (.iadd, 1) := by decide +kernel
theorem dL_law_2300 : decode cL_law 2300 = .ok (.iaload, 1) := by decide +kernel
theorem dX7_file_0 : decode cX7_file 0 = .ok (.iload_n 3, 1) := by decide +kernel
theorem dX7_file_1 : decode cX7_file 1 = .ok (.ifCond .ne 20, 3) := by decide +kernel
theorem dX7_file_21 : decode cX7_file 21 = .ok (.aload_n 0, 1) := by decide +kernel
theorem dX7_file_22 : decode cX7_file 22 = .ok (.iload 4, 2) := by decide +kernel
theorem dX7_file_24 : decode cX7_file 24 = .ok (.invokevirtual 69, 3) := by decide +kernel
theorem dX7_file_27 : decode cX7_file 27 = .ok (.istore 5, 2) := by decide +kernel
theorem dX7_file_29 : decode cX7_file 29 = .ok (.aload_n 0, 1) := by decide +kernel
theorem dX7_file_30 : decode cX7_file 30 = .ok (.aload_n 0, 1) := by decide +kernel
theorem dX7_file_31 : decode cX7_file 31 = .ok (.iload_n 1, 1) := by decide +kernel
theorem dX7_file_32 : decode cX7_file 32 = .ok (.iload_n 2, 1) := by decide +kernel
theorem dX7_isPlace_0 : decode cX7_isPlace 0 = .ok (.iload_n 1, 1) := by decide +kernel
theorem dX7_isPlace_1 : decode cX7_isPlace 1 = .ok (.invokestatic 301, 3) := by decide +kernel
theorem dX7_isPlace_4 : decode cX7_isPlace 4 = .ok (.ifCond .eq 23, 3) := by decide +kernel
theorem dX7_isPlace_27 : decode cX7_isPlace 27 = .ok (.iconst 0, 1) := by decide +kernel
theorem dX7_isPlace_7 : decode cX7_isPlace 7 = .ok (.iload_n 2, 1) := by decide +kernel
theorem dX7_isPlace_8 : decode cX7_isPlace 8 = .ok (.iconst 0, 1) := by decide +kernel
theorem dX7_isPlace_9 : decode cX7_isPlace 9 = .ok (.aload_n 0, 1) := by decide +kernel
theorem dX7_isPlace_10 : decode cX7_isPlace 10 = .ok (.getfield 39, 3) := by decide +kernel
theorem dX7_isPlace_13 : decode cX7_isPlace 13 = .ok (.iload_n 1, 1) := by decide +kernel
theorem dX7_isPlace_14 : decode cX7_isPlace 14 = .ok (.iaload, 1) := by decide +kernel
theorem dX7_isPlace_15 : decode cX7_isPlace 15 = .ok (.iconst 1, 1) := by decide +kernel
theorem dX7_isPlace_16 : decode cX7_isPlace 16 = .ok (.isub, 1) := by decide +kernel
theorem dX7_isPlace_17 : decode cX7_isPlace 17 = .ok (.invokestatic 61, 3) := by decide +kernel
theorem dX7_isPlace_20 : decode cX7_isPlace 20 = .ok (.ifCond .eq 7, 3) := by decide +kernel
theorem dX7_isPlace_28 : decode cX7_isPlace 28 = .ok (.ireturn, 1) := by decide +kernel
theorem dX7_file_33 : decode cX7_file 33 = .ok (.invokevirtual 307, 3) := by decide +kernel
theorem dX7_file_36 : decode cX7_file 36 = .ok (.ifCond .ne 7, 3) := by decide +kernel
theorem dX7_file_39 : decode cX7_file 39 = .ok (.iconst 1, 1) := by decide +kernel
theorem dX7_file_40 : decode cX7_file 40 = .ok (.goto 40, 3) := by decide +kernel
theorem dX7_file_80 : decode cX7_file 80 = .ok (.putfield 48, 3) := by decide +kernel
theorem dX7_file_83 : decode cX7_file 83 = .ok (.aload_n 0, 1) := by decide +kernel
theorem dX7_file_84 : decode cX7_file 84 = .ok (.getfield 48, 3) := by decide +kernel
theorem dX7_file_87 : decode cX7_file 87 = .ok (.ifCond .le 5, 3) := by decide +kernel
theorem dX7_file_90 : decode cX7_file 90 = .ok (.iconst 0, 1) := by decide +kernel
theorem dX7_file_4 : decode cX7_file 4 = .ok (.iload 4, 2) := by decide +kernel
theorem dX7_file_6 : decode cX7_file 6 = .ok (.iconst 0, 1) := by decide +kernel
theorem dX7_file_7 : decode cX7_file 7 = .ok (.aload_n 0, 1) := by decide +kernel
theorem dX7_file_8 : decode cX7_file 8 = .ok (.getfield 9, 3) := by decide +kernel
theorem dX7_file_11 : decode cX7_file 11 = .ok (.iconst 0, 1) := by decide +kernel
theorem dX7_file_12 : decode cX7_file 12 = .ok (.iaload, 1) := by decide +kernel
theorem dX7_file_13 : decode cX7_file 13 = .ok (.iconst 1, 1) := by decide +kernel
theorem dX7_file_14 : decode cX7_file 14 = .ok (.isub, 1) := by decide +kernel
theorem dX7_file_15 : decode cX7_file 15 = .ok (.invokestatic 61, 3) := by decide +kernel
theorem dX7_file_18 : decode cX7_file 18 = .ok (.goto 9, 3) := by decide +kernel
theorem dX7_file_91 : decode cX7_file 91 = .ok (.ireturn, 1) := by decide +kernel
theorem dL_law_2301 : decode cL_law 2301 = .ok (.invokevirtual 247, 3) := by decide +kernel
theorem dL_law_2304 : decode cL_law 2304 = .ok (.istore 7, 2) := by decide +kernel
theorem dL_law_2306 : decode cL_law 2306 = .ok (.aload_n 2, 1) := by decide +kernel
theorem dL_law_2307 : decode cL_law 2307 = .ok (.invokevirtual 147, 3) := by decide +kernel
theorem dL_law_2310 : decode cL_law 2310 = .ok (.iload 6, 2) := by decide +kernel
theorem dL_law_2312 : decode cL_law 2312 = .ok (.if_icmp .eq 5, 3) := by decide +kernel
theorem dL_law_2317 : decode cL_law 2317 = .ok (.iload 6, 2) := by decide +kernel
theorem dL_law_2319 : decode cL_law 2319 = .ok (.ifCond .ne 15, 3) := by decide +kernel
theorem dL_law_2334 : decode cL_law 2334 = .ok (.goto 324, 3) := by decide +kernel
set_option maxHeartbeats 4000000 in
set_option maxRecDepth 100000 in
theorem k298_X1_places (l : Launch) (G : pxG) (sz : Nat) (a0 a1 a2 : Nat) : Met l yX1_places (Cond.code yX1_places cX1_places 1 (some .int) :: pxAll) ({ frames := 0, cells := 0, slots := 0, locals := 0 } : Room) (va_Pc [.ref a0] (pxPre G [(a0, .inr (0, [.ref a1, .ref a2, .int 0, .int 0]))] sz)) (pxQi G (fun r => r = 0) (fun q => [(a0, .inr (0, [.ref a1, .ref a2, .int 0, .int 0]))]) (va_A [(a0, .inr (0, [.ref a1, .ref a2, .int 0, .int 0]))] sz)) 0 0 (va_A [(a0, .inr (0, [.ref a1, .ref a2, .int 0, .int 0]))] sz) := by
  refine Met.ofW (cc := cX1_places) (maxL := 1) (ret := (some .int)) (by decide) rfl ?_
  intro p e s m args below meth c s₁ B hml hv
  obtain ⟨rfl, hsz, hG, hZ, hP, hD0⟩ := hv
  have hx := B.exec
  have hb := B.bytes
  have hr := B.returns
  have hts0 := atoms_spec (ws := Cond.code yX1_places cX1_places 1 (some .int) :: pxAll) B.pre
  have hts : ∀ w ∈ pxAll, w.before _ s = true := fun w h => hts0 w (List.mem_cons_of_mem _ h)
  have hown : s.vm.findClass RX1 = some m.cls := findClass_of_methodNamed B.named
  have hlocks := B.notSynchronized
  subst hsz
  have hK := hG.1
  have hD := hD0.self (sz := s.heap.size)
  generalize hAe : va_A [(a0, .inr (0, [.ref a1, .ref a2, .int 0, .int 0]))] s.heap.size = A at hD hZ ⊢
  have hA : ∀ q : Nat, s.heap.size ≤ q → A q := fun q h => by rw [← hAe]; exact Or.inr h
  have hS : va_S A s.heap s.heap [] := va_S.rf
  have hl := lv_entry ([.ref a0]) (n := 1) (Nat.le_of_ble_eq_true rfl)
  rw [lg_entry_eq]
  generalize (lg_sl ([.ref a0]) ++ List.replicate (1 - (lg_sl ([.ref a0])).length) Slot.unset).toArray = ls at hl ⊢
  have hl : lv_has ls 1 [(0, .ref a0)] := hl
  refine lv_aload_n hx hb dX1_places_0 rfl (lv_at hl 0 rfl) ?_
  refine va_get (D := G.1) (ci := 0) (v := .int 0) (C := RX1) (T := TX1) (N := 4) hx hb hts piX1 hown hK hP 0 rfl rfl 3 (by decide) (hts _ pm653) (fun _ h9 => h9) rfl dX1_places_1 ?_
  refine W.widen (k := 0) (n := 0) (Nat.le_of_ble_eq_true rfl) (Nat.le_of_ble_eq_true rfl) ?_
  exact W.iret (v := 0) hx hb hr (fun t ht hW => ⟨⟨0, (fun _ => 0), rfl, rfl, by rw [ht]; exact hP, hD⟩, hS.F ht⟩) hS.2.2 dX1_places_4
set_option maxHeartbeats 4000000 in
set_option maxRecDepth 100000 in
theorem k298_X6_requirePlace (l : Launch) (hl9 : l.stackTraces = false) (G : pxG) (sz : Nat) (a0 a1 a2 a3 a4 a5 a6 a7 a8 a9 a10 a11 a12 a13 a14 : Nat) (i0 i1 : Int32) : vx_Met l yX6_requirePlace (Cond.code yX6_requirePlace cX6_requirePlace 3 none :: pxAll) ({ frames := 7, cells := 1, slots := 6, locals := 111 } : Room) (va_Pc [.ref a0, .int i0, .int i1] (pxPre G [(a0, .inr (5, [.ref a5, .ref a6, .ref a7, .ref a8, .ref a1, .int 0, .int 0, .int (-1)])), (a1, .inl (G.2.1 6, 3, .inr (.inr (.inr (.inr (va_up (va_up (va_up (fun _ => none) 0 (some a2)) 1 (some a3)) 2 (some a4))))))), (a2, .inr (0, [.ref a9, .ref a10, .int 0, .int 0])), (a3, .inr (0, [.ref a11, .ref a12, .int 0, .int 0])), (a4, .inr (0, [.ref a13, .ref a14, .int 0, .int 0]))] sz)) pxF (pxXC "java/lang/IndexOutOfBoundsException" (va_A [(a0, .inr (5, [.ref a5, .ref a6, .ref a7, .ref a8, .ref a1, .int 0, .int 0, .int (-1)])), (a1, .inl (G.2.1 6, 3, .inr (.inr (.inr (.inr (va_up (va_up (va_up (fun _ => none) 0 (some a2)) 1 (some a3)) 2 (some a4))))))), (a2, .inr (0, [.ref a9, .ref a10, .int 0, .int 0])), (a3, .inr (0, [.ref a11, .ref a12, .int 0, .int 0])), (a4, .inr (0, [.ref a13, .ref a14, .int 0, .int 0]))] sz)) 1 6 (va_A [(a0, .inr (5, [.ref a5, .ref a6, .ref a7, .ref a8, .ref a1, .int 0, .int 0, .int (-1)])), (a1, .inl (G.2.1 6, 3, .inr (.inr (.inr (.inr (va_up (va_up (va_up (fun _ => none) 0 (some a2)) 1 (some a3)) 2 (some a4))))))), (a2, .inr (0, [.ref a9, .ref a10, .int 0, .int 0])), (a3, .inr (0, [.ref a11, .ref a12, .int 0, .int 0])), (a4, .inr (0, [.ref a13, .ref a14, .int 0, .int 0]))] sz) := by
  refine vx_ofW (cc := cX6_requirePlace) (maxL := 3) (ret := none) (by decide) rfl ?_
  intro p e s m args below meth c s₁ B hml hEx hv
  obtain ⟨rfl, hsz, hG, hZ, hP, hD0⟩ := hv
  have hx := B.exec
  have hb := B.bytes
  have hr := B.returns
  have hts0 := atoms_spec (ws := Cond.code yX6_requirePlace cX6_requirePlace 3 none :: pxAll) B.pre
  have hts : ∀ w ∈ pxAll, w.before _ s = true := fun w h => hts0 w (List.mem_cons_of_mem _ h)
  have hown : s.vm.findClass RX6 = some m.cls := findClass_of_methodNamed B.named
  have hlocks := B.notSynchronized
  subst hsz
  have hK := hG.1
  have hD := hD0.self (sz := s.heap.size)
  generalize hAe : va_A [(a0, .inr (5, [.ref a5, .ref a6, .ref a7, .ref a8, .ref a1, .int 0, .int 0, .int (-1)])), (a1, .inl (G.2.1 6, 3, .inr (.inr (.inr (.inr (va_up (va_up (va_up (fun _ => none) 0 (some a2)) 1 (some a3)) 2 (some a4))))))), (a2, .inr (0, [.ref a9, .ref a10, .int 0, .int 0])), (a3, .inr (0, [.ref a11, .ref a12, .int 0, .int 0])), (a4, .inr (0, [.ref a13, .ref a14, .int 0, .int 0]))] s.heap.size = A at hD hZ ⊢
  have hA : ∀ q : Nat, s.heap.size ≤ q → A q := fun q h => by rw [← hAe]; exact Or.inr h
  have hS : va_S A s.heap s.heap [] := va_S.rf
  have hl := lv_entry ([.ref a0, .int i0, .int i1]) (n := 3) (Nat.le_of_ble_eq_true rfl)
  rw [lg_entry_eq]
  generalize (lg_sl ([.ref a0, .int i0, .int i1]) ++ List.replicate (3 - (lg_sl ([.ref a0, .int i0, .int i1])).length) Slot.unset).toArray = ls at hl ⊢
  have hl : lv_has ls 3 [(0, .ref a0), (1, .int i0), (2, .int i1)] := hl
  have r0 := pxRng i0
  have r1 := pxRng i1
  refine lv_aload_n hx hb dX6_requirePlace_0 rfl (lv_at hl 0 rfl) ?_
  refine lv_iload_n hx hb dX6_requirePlace_1 rfl (lv_at hl 1 rfl) ?_
  rcases Int.lt_or_le i0.toInt 0 with f1 | f1
  · skip
    refine pxCx (vx_runV (As := [.int i0]) (rest := []) ⟨hx, hb, hml, hown, hts⟩ (k226_X6_requireDrawer l hl9 G s.heap.size a0 i0 ⟨by omega, by omega⟩) (cwV 1 hts (pxGV pm632 pm633 pm634 pm2 pm635) rfl rfl rfl (by decide +kernel) ⟨(Nat.le_of_ble_eq_true rfl), (Nat.le_of_ble_eq_true rfl)⟩) (pxV (ci := 5) (q0 := 0) hG hZ hP hD hS hA [] rfl (by decide) rfl rfl) rfl rfl hl.1 rfl (lv_room (Nat.le_of_ble_eq_true rfl)) dX6_requirePlace_2 ⟨(Nat.le_of_ble_eq_true rfl), (Nat.le_of_ble_eq_true rfl)⟩) hD hS hA [] rfl (fun ce q9 H locs hS hce hcv hcl => ?_)
    exact vx_out (fun x hx => (hEx x hx).elim) hlocks hce hcv hcl (fun t ht _ => ⟨rfl, hS.F ht⟩) hS.2.2 (Nat.le_of_ble_eq_true rfl) (Nat.le_of_ble_eq_true rfl)
  · skip
    rcases Int.lt_or_le i0.toInt 3 with f2 | f2
    · skip
      refine pxCv (va_runV (As := [.int i0]) (rest := []) ⟨hx, hb, hml, hown, hts⟩ (k232_X6_requireDrawer l G s.heap.size a0 i0 ⟨by omega, by omega⟩) (cwV 1 hts (pxGV pm632 pm633 pm634 pm2 pm635) rfl rfl rfl (by decide +kernel) ⟨(Nat.le_of_ble_eq_true rfl), (Nat.le_of_ble_eq_true rfl)⟩) (pxV (ci := 5) (q0 := 0) hG hZ hP hD hS hA [] rfl (by decide) rfl rfl) rfl rfl hl.1 rfl (lv_room (Nat.le_of_ble_eq_true rfl)) dX6_requirePlace_2 ⟨(Nat.le_of_ble_eq_true rfl), (Nat.le_of_ble_eq_true rfl)⟩) hP hD hS hA [] [0, 1, 2, 3, 4] rfl rfl (by decide) (by decide) (fun q1 H locs hP hD hS => ?_)
      have hP : va_P G.1 pxCl [(a0, .inr (5, [.ref a5, .ref a6, .ref a7, .ref a8, .ref a1, .int 0, .int 0, .int (-1)])), (a1, .inl (G.2.1 6, 3, .inr (.inr (.inr (.inr (va_up (va_up (va_up (fun _ => none) 0 (some a2)) 1 (some a3)) 2 (some a4))))))), (a2, .inr (0, [.ref a9, .ref a10, .int 0, .int 0])), (a3, .inr (0, [.ref a11, .ref a12, .int 0, .int 0])), (a4, .inr (0, [.ref a13, .ref a14, .int 0, .int 0]))] H := hP
      have hD : va_D A [(a0, .inr (5, [.ref a5, .ref a6, .ref a7, .ref a8, .ref a1, .int 0, .int 0, .int (-1)])), (a1, .inl (G.2.1 6, 3, .inr (.inr (.inr (.inr (va_up (va_up (va_up (fun _ => none) 0 (some a2)) 1 (some a3)) 2 (some a4))))))), (a2, .inr (0, [.ref a9, .ref a10, .int 0, .int 0])), (a3, .inr (0, [.ref a11, .ref a12, .int 0, .int 0])), (a4, .inr (0, [.ref a13, .ref a14, .int 0, .int 0]))] := hD
      refine lv_iload_n hx hb dX6_requirePlace_5 rfl (lv_at hl 2 rfl) ?_
      rcases Int.lt_or_le i1.toInt 0 with f3 | f3
      · skip
        refine lv_if_lt (tgt := 22) hx hb dX6_requirePlace_6 (by decide) (fun _ => ?_) (fun h9 => absurd (pxLt 0 (by decide) (by omega)) h9)
        exact vx_throwSW (own := RX6) (cls := "java/lang/IndexOutOfBoundsException") (names := ["java/lang/RuntimeException", "java/lang/Exception"]) hx hb hl9 hown (by decide +kernel) (by decide +kernel) (hts _ pm427) (hts _ pm428) (hG.2.2.2.2.1 10 _ rfl) (pxThr (own := RX6) (ic := 280) (by simp [pxBadC]) hts hG wsL_law_x6 pxh_x6) pxg_x6 hZ.1 hZ.2 hS (hl.1.trans hml.symm) dX6_requirePlace_22 dX6_requirePlace_25 dX6_requirePlace_26 dX6_requirePlace_29 dX6_requirePlace_32 (fun x hx => (hEx x hx).elim) (Nat.le_of_ble_eq_true rfl) (Nat.le_of_ble_eq_true rfl) (Nat.le_of_ble_eq_true rfl) (Nat.le_of_ble_eq_true rfl) hlocks (pxXe hS) hS.2.2 (Nat.le_of_ble_eq_true rfl) (Nat.le_of_ble_eq_true rfl)
      · skip
        refine lv_if_lt (tgt := 22) hx hb dX6_requirePlace_6 (by decide) (fun h9 => absurd h9 (pxNlt 0 (by decide) (by omega))) (fun _ => ?_)
        refine lv_iload_n hx hb dX6_requirePlace_9 rfl (lv_at hl 2 rfl) ?_
        refine lv_aload_n hx hb dX6_requirePlace_10 rfl (lv_at hl 0 rfl) ?_
        refine va_get (D := G.1) (ci := 5) (v := .ref a1) (C := RX6) (T := TX6) (N := 8) hx hb hts piX6 hown hK hP 0 rfl rfl 4 (by decide) (hts _ pm57) (fun _ h9 => h9) rfl dX6_requirePlace_11 ?_
        refine lv_iload_n hx hb dX6_requirePlace_14 rfl (lv_at hl 1 rfl) ?_
        rcases Int.lt_or_le i0.toInt 1 with f4 | f4
        · skip
          obtain rfl : i0 = 0 := pxEq 0 (by have h9 : (0 : Int32).toInt = 0 := (by decide); omega)
          refine va_aldq hx hb hK hP 1 6 rfl rfl (show ¬ ((0 : Int32) < 0 ∨ 3 ≤ (0 : Int32).toNatClampNeg) by decide +kernel) dX6_requirePlace_15 ?_
          refine pxTop (w := .ref a2) rfl ?_
          refine pxCi (va_runV (As := []) (rest := [.int i1]) ⟨hx, hb, hml, hown, hts⟩ (k298_X1_places l G H.size a2 a9 a10) (cwV 0 hts (pxGV pm666 pm667 pm668 pm60 pm669) rfl rfl rfl (by decide +kernel) ⟨(Nat.le_of_ble_eq_true rfl), (Nat.le_of_ble_eq_true rfl)⟩) (pxV (ci := 0) (q0 := 2) hG hZ hP hD hS hA [2] rfl (by decide) rfl rfl) rfl rfl hl.1 rfl (lv_room (Nat.le_of_ble_eq_true rfl)) dX6_requirePlace_16 ⟨(Nat.le_of_ble_eq_true rfl), (Nat.le_of_ble_eq_true rfl)⟩) hP hD hS hA [2] [0, 1, 3, 4] rfl rfl (by decide) (by decide) (fun r4 q3 H locs hw hP hD hS => ?_)
          have hw : r4 = 0 := hw
          subst hw
          have hP : va_P G.1 pxCl [(a0, .inr (5, [.ref a5, .ref a6, .ref a7, .ref a8, .ref a1, .int 0, .int 0, .int (-1)])), (a1, .inl (G.2.1 6, 3, .inr (.inr (.inr (.inr (va_up (va_up (va_up (fun _ => none) 0 (some a2)) 1 (some a3)) 2 (some a4))))))), (a3, .inr (0, [.ref a11, .ref a12, .int 0, .int 0])), (a4, .inr (0, [.ref a13, .ref a14, .int 0, .int 0])), (a2, .inr (0, [.ref a9, .ref a10, .int 0, .int 0]))] H := hP
          have hD : va_D A [(a0, .inr (5, [.ref a5, .ref a6, .ref a7, .ref a8, .ref a1, .int 0, .int 0, .int (-1)])), (a1, .inl (G.2.1 6, 3, .inr (.inr (.inr (.inr (va_up (va_up (va_up (fun _ => none) 0 (some a2)) 1 (some a3)) 2 (some a4))))))), (a3, .inr (0, [.ref a11, .ref a12, .int 0, .int 0])), (a4, .inr (0, [.ref a13, .ref a14, .int 0, .int 0])), (a2, .inr (0, [.ref a9, .ref a10, .int 0, .int 0]))] := hD
          refine lv_icmp_lt (tgt := 33) hx hb dX6_requirePlace_19 (by decide) (fun h9 => absurd h9 (pxNlt 0 (by decide) (by omega))) (fun _ => ?_)
          exact vx_throwSW (own := RX6) (cls := "java/lang/IndexOutOfBoundsException") (names := ["java/lang/RuntimeException", "java/lang/Exception"]) hx hb hl9 hown (by decide +kernel) (by decide +kernel) (hts _ pm427) (hts _ pm428) (hG.2.2.2.2.1 10 _ rfl) (pxThr (own := RX6) (ic := 280) (by simp [pxBadC]) hts hG wsL_law_x6 pxh_x6) pxg_x6 hZ.1 hZ.2 hS (hl.1.trans hml.symm) dX6_requirePlace_22 dX6_requirePlace_25 dX6_requirePlace_26 dX6_requirePlace_29 dX6_requirePlace_32 (fun x hx => (hEx x hx).elim) (Nat.le_of_ble_eq_true rfl) (Nat.le_of_ble_eq_true rfl) (Nat.le_of_ble_eq_true rfl) (Nat.le_of_ble_eq_true rfl) hlocks (pxXe hS) hS.2.2 (Nat.le_of_ble_eq_true rfl) (Nat.le_of_ble_eq_true rfl)
        · skip
          rcases Int.lt_or_le i0.toInt 2 with f5 | f5
          · skip
            obtain rfl : i0 = 1 := pxEq 1 (by have h9 : (1 : Int32).toInt = 1 := (by decide); omega)
            refine va_aldq hx hb hK hP 1 6 rfl rfl (show ¬ ((1 : Int32) < 0 ∨ 3 ≤ (1 : Int32).toNatClampNeg) by decide +kernel) dX6_requirePlace_15 ?_
            refine pxTop (w := .ref a3) rfl ?_
            refine pxCi (va_runV (As := []) (rest := [.int i1]) ⟨hx, hb, hml, hown, hts⟩ (k298_X1_places l G H.size a3 a11 a12) (cwV 0 hts (pxGV pm666 pm667 pm668 pm60 pm669) rfl rfl rfl (by decide +kernel) ⟨(Nat.le_of_ble_eq_true rfl), (Nat.le_of_ble_eq_true rfl)⟩) (pxV (ci := 0) (q0 := 3) hG hZ hP hD hS hA [3] rfl (by decide) rfl rfl) rfl rfl hl.1 rfl (lv_room (Nat.le_of_ble_eq_true rfl)) dX6_requirePlace_16 ⟨(Nat.le_of_ble_eq_true rfl), (Nat.le_of_ble_eq_true rfl)⟩) hP hD hS hA [3] [0, 1, 2, 4] rfl rfl (by decide) (by decide) (fun r4 q3 H locs hw hP hD hS => ?_)
            have hw : r4 = 0 := hw
            subst hw
            have hP : va_P G.1 pxCl [(a0, .inr (5, [.ref a5, .ref a6, .ref a7, .ref a8, .ref a1, .int 0, .int 0, .int (-1)])), (a1, .inl (G.2.1 6, 3, .inr (.inr (.inr (.inr (va_up (va_up (va_up (fun _ => none) 0 (some a2)) 1 (some a3)) 2 (some a4))))))), (a2, .inr (0, [.ref a9, .ref a10, .int 0, .int 0])), (a4, .inr (0, [.ref a13, .ref a14, .int 0, .int 0])), (a3, .inr (0, [.ref a11, .ref a12, .int 0, .int 0]))] H := hP
            have hD : va_D A [(a0, .inr (5, [.ref a5, .ref a6, .ref a7, .ref a8, .ref a1, .int 0, .int 0, .int (-1)])), (a1, .inl (G.2.1 6, 3, .inr (.inr (.inr (.inr (va_up (va_up (va_up (fun _ => none) 0 (some a2)) 1 (some a3)) 2 (some a4))))))), (a2, .inr (0, [.ref a9, .ref a10, .int 0, .int 0])), (a4, .inr (0, [.ref a13, .ref a14, .int 0, .int 0])), (a3, .inr (0, [.ref a11, .ref a12, .int 0, .int 0]))] := hD
            refine lv_icmp_lt (tgt := 33) hx hb dX6_requirePlace_19 (by decide) (fun h9 => absurd h9 (pxNlt 0 (by decide) (by omega))) (fun _ => ?_)
            exact vx_throwSW (own := RX6) (cls := "java/lang/IndexOutOfBoundsException") (names := ["java/lang/RuntimeException", "java/lang/Exception"]) hx hb hl9 hown (by decide +kernel) (by decide +kernel) (hts _ pm427) (hts _ pm428) (hG.2.2.2.2.1 10 _ rfl) (pxThr (own := RX6) (ic := 280) (by simp [pxBadC]) hts hG wsL_law_x6 pxh_x6) pxg_x6 hZ.1 hZ.2 hS (hl.1.trans hml.symm) dX6_requirePlace_22 dX6_requirePlace_25 dX6_requirePlace_26 dX6_requirePlace_29 dX6_requirePlace_32 (fun x hx => (hEx x hx).elim) (Nat.le_of_ble_eq_true rfl) (Nat.le_of_ble_eq_true rfl) (Nat.le_of_ble_eq_true rfl) (Nat.le_of_ble_eq_true rfl) hlocks (pxXe hS) hS.2.2 (Nat.le_of_ble_eq_true rfl) (Nat.le_of_ble_eq_true rfl)
          · skip
            obtain rfl : i0 = 2 := pxEq 2 (by have h9 : (2 : Int32).toInt = 2 := (by decide); omega)
            refine va_aldq hx hb hK hP 1 6 rfl rfl (show ¬ ((2 : Int32) < 0 ∨ 3 ≤ (2 : Int32).toNatClampNeg) by decide +kernel) dX6_requirePlace_15 ?_
            refine pxTop (w := .ref a4) rfl ?_
            refine pxCi (va_runV (As := []) (rest := [.int i1]) ⟨hx, hb, hml, hown, hts⟩ (k298_X1_places l G H.size a4 a13 a14) (cwV 0 hts (pxGV pm666 pm667 pm668 pm60 pm669) rfl rfl rfl (by decide +kernel) ⟨(Nat.le_of_ble_eq_true rfl), (Nat.le_of_ble_eq_true rfl)⟩) (pxV (ci := 0) (q0 := 4) hG hZ hP hD hS hA [4] rfl (by decide) rfl rfl) rfl rfl hl.1 rfl (lv_room (Nat.le_of_ble_eq_true rfl)) dX6_requirePlace_16 ⟨(Nat.le_of_ble_eq_true rfl), (Nat.le_of_ble_eq_true rfl)⟩) hP hD hS hA [4] [0, 1, 2, 3] rfl rfl (by decide) (by decide) (fun r4 q3 H locs hw hP hD hS => ?_)
            have hw : r4 = 0 := hw
            subst hw
            have hP : va_P G.1 pxCl [(a0, .inr (5, [.ref a5, .ref a6, .ref a7, .ref a8, .ref a1, .int 0, .int 0, .int (-1)])), (a1, .inl (G.2.1 6, 3, .inr (.inr (.inr (.inr (va_up (va_up (va_up (fun _ => none) 0 (some a2)) 1 (some a3)) 2 (some a4))))))), (a2, .inr (0, [.ref a9, .ref a10, .int 0, .int 0])), (a3, .inr (0, [.ref a11, .ref a12, .int 0, .int 0])), (a4, .inr (0, [.ref a13, .ref a14, .int 0, .int 0]))] H := hP
            have hD : va_D A [(a0, .inr (5, [.ref a5, .ref a6, .ref a7, .ref a8, .ref a1, .int 0, .int 0, .int (-1)])), (a1, .inl (G.2.1 6, 3, .inr (.inr (.inr (.inr (va_up (va_up (va_up (fun _ => none) 0 (some a2)) 1 (some a3)) 2 (some a4))))))), (a2, .inr (0, [.ref a9, .ref a10, .int 0, .int 0])), (a3, .inr (0, [.ref a11, .ref a12, .int 0, .int 0])), (a4, .inr (0, [.ref a13, .ref a14, .int 0, .int 0]))] := hD
            refine lv_icmp_lt (tgt := 33) hx hb dX6_requirePlace_19 (by decide) (fun h9 => absurd h9 (pxNlt 0 (by decide) (by omega))) (fun _ => ?_)
            exact vx_throwSW (own := RX6) (cls := "java/lang/IndexOutOfBoundsException") (names := ["java/lang/RuntimeException", "java/lang/Exception"]) hx hb hl9 hown (by decide +kernel) (by decide +kernel) (hts _ pm427) (hts _ pm428) (hG.2.2.2.2.1 10 _ rfl) (pxThr (own := RX6) (ic := 280) (by simp [pxBadC]) hts hG wsL_law_x6 pxh_x6) pxg_x6 hZ.1 hZ.2 hS (hl.1.trans hml.symm) dX6_requirePlace_22 dX6_requirePlace_25 dX6_requirePlace_26 dX6_requirePlace_29 dX6_requirePlace_32 (fun x hx => (hEx x hx).elim) (Nat.le_of_ble_eq_true rfl) (Nat.le_of_ble_eq_true rfl) (Nat.le_of_ble_eq_true rfl) (Nat.le_of_ble_eq_true rfl) hlocks (pxXe hS) hS.2.2 (Nat.le_of_ble_eq_true rfl) (Nat.le_of_ble_eq_true rfl)
    · skip
      refine pxCx (vx_runV (As := [.int i0]) (rest := []) ⟨hx, hb, hml, hown, hts⟩ (k292_X6_requireDrawer l hl9 G s.heap.size a0 i0 ⟨by omega, by omega⟩) (cwV 1 hts (pxGV pm632 pm633 pm634 pm2 pm635) rfl rfl rfl (by decide +kernel) ⟨(Nat.le_of_ble_eq_true rfl), (Nat.le_of_ble_eq_true rfl)⟩) (pxV (ci := 5) (q0 := 0) hG hZ hP hD hS hA [] rfl (by decide) rfl rfl) rfl rfl hl.1 rfl (lv_room (Nat.le_of_ble_eq_true rfl)) dX6_requirePlace_2 ⟨(Nat.le_of_ble_eq_true rfl), (Nat.le_of_ble_eq_true rfl)⟩) hD hS hA [] rfl (fun ce q9 H locs hS hce hcv hcl => ?_)
      exact vx_out (fun x hx => (hEx x hx).elim) hlocks hce hcv hcl (fun t ht _ => ⟨rfl, hS.F ht⟩) hS.2.2 (Nat.le_of_ble_eq_true rfl) (Nat.le_of_ble_eq_true rfl)
set_option maxHeartbeats 4000000 in
set_option maxRecDepth 100000 in
theorem k298_X6_file (l : Launch) (hl9 : l.stackTraces = false) (G : pxG) (sz : Nat) (a0 a1 a2 a3 a4 a5 a6 a7 a8 a9 a10 a11 a12 a13 a14 : Nat) (i0 i1 i2 i3 : Int32) : vx_Met l yX6_file (Cond.code yX6_file cX6_file 7 (some .int) :: pxAll) ({ frames := 8, cells := 1, slots := 6, locals := 133 } : Room) (va_Pc [.ref a0, .int i0, .int i1, .int i2, .int i3] (pxPre G [(a0, .inr (5, [.ref a5, .ref a6, .ref a7, .ref a8, .ref a1, .int 0, .int 0, .int (-1)])), (a1, .inl (G.2.1 6, 3, .inr (.inr (.inr (.inr (va_up (va_up (va_up (fun _ => none) 0 (some a2)) 1 (some a3)) 2 (some a4))))))), (a2, .inr (0, [.ref a9, .ref a10, .int 0, .int 0])), (a3, .inr (0, [.ref a11, .ref a12, .int 0, .int 0])), (a4, .inr (0, [.ref a13, .ref a14, .int 0, .int 0]))] sz)) pxF (pxXC "java/lang/IndexOutOfBoundsException" (va_A [(a0, .inr (5, [.ref a5, .ref a6, .ref a7, .ref a8, .ref a1, .int 0, .int 0, .int (-1)])), (a1, .inl (G.2.1 6, 3, .inr (.inr (.inr (.inr (va_up (va_up (va_up (fun _ => none) 0 (some a2)) 1 (some a3)) 2 (some a4))))))), (a2, .inr (0, [.ref a9, .ref a10, .int 0, .int 0])), (a3, .inr (0, [.ref a11, .ref a12, .int 0, .int 0])), (a4, .inr (0, [.ref a13, .ref a14, .int 0, .int 0]))] sz)) 1 6 (va_A [(a0, .inr (5, [.ref a5, .ref a6, .ref a7, .ref a8, .ref a1, .int 0, .int 0, .int (-1)])), (a1, .inl (G.2.1 6, 3, .inr (.inr (.inr (.inr (va_up (va_up (va_up (fun _ => none) 0 (some a2)) 1 (some a3)) 2 (some a4))))))), (a2, .inr (0, [.ref a9, .ref a10, .int 0, .int 0])), (a3, .inr (0, [.ref a11, .ref a12, .int 0, .int 0])), (a4, .inr (0, [.ref a13, .ref a14, .int 0, .int 0]))] sz) := by
  refine vx_ofW (cc := cX6_file) (maxL := 7) (ret := (some .int)) (by decide) rfl ?_
  intro p e s m args below meth c s₁ B hml hEx hv
  obtain ⟨rfl, hsz, hG, hZ, hP, hD0⟩ := hv
  have hx := B.exec
  have hb := B.bytes
  have hr := B.returns
  have hts0 := atoms_spec (ws := Cond.code yX6_file cX6_file 7 (some .int) :: pxAll) B.pre
  have hts : ∀ w ∈ pxAll, w.before _ s = true := fun w h => hts0 w (List.mem_cons_of_mem _ h)
  have hown : s.vm.findClass RX6 = some m.cls := findClass_of_methodNamed B.named
  have hlocks := B.notSynchronized
  subst hsz
  have hK := hG.1
  have hD := hD0.self (sz := s.heap.size)
  generalize hAe : va_A [(a0, .inr (5, [.ref a5, .ref a6, .ref a7, .ref a8, .ref a1, .int 0, .int 0, .int (-1)])), (a1, .inl (G.2.1 6, 3, .inr (.inr (.inr (.inr (va_up (va_up (va_up (fun _ => none) 0 (some a2)) 1 (some a3)) 2 (some a4))))))), (a2, .inr (0, [.ref a9, .ref a10, .int 0, .int 0])), (a3, .inr (0, [.ref a11, .ref a12, .int 0, .int 0])), (a4, .inr (0, [.ref a13, .ref a14, .int 0, .int 0]))] s.heap.size = A at hD hZ ⊢
  have hA : ∀ q : Nat, s.heap.size ≤ q → A q := fun q h => by rw [← hAe]; exact Or.inr h
  have hS : va_S A s.heap s.heap [] := va_S.rf
  have hl := lv_entry ([.ref a0, .int i0, .int i1, .int i2, .int i3]) (n := 7) (Nat.le_of_ble_eq_true rfl)
  rw [lg_entry_eq]
  generalize (lg_sl ([.ref a0, .int i0, .int i1, .int i2, .int i3]) ++ List.replicate (7 - (lg_sl ([.ref a0, .int i0, .int i1, .int i2, .int i3])).length) Slot.unset).toArray = ls at hl ⊢
  have hl : lv_has ls 7 [(0, .ref a0), (1, .int i0), (2, .int i1), (3, .int i2), (4, .int i3)] := hl
  refine lv_aload_n hx hb dX6_file_0 rfl (lv_at hl 0 rfl) ?_
  refine lv_iload_n hx hb dX6_file_1 rfl (lv_at hl 1 rfl) ?_
  refine lv_iload_n hx hb dX6_file_2 rfl (lv_at hl 2 rfl) ?_
  refine pxCx (vx_runV (As := [.int i0, .int i1]) (rest := []) ⟨hx, hb, hml, hown, hts⟩ (k298_X6_requirePlace l hl9 G s.heap.size a0 a1 a2 a3 a4 a5 a6 a7 a8 a9 a10 a11 a12 a13 a14 i0 i1) (cwV 2 hts (pxGV pm670 pm671 pm672 pm2 pm673) rfl rfl rfl (by decide +kernel) ⟨(Nat.le_of_ble_eq_true rfl), (Nat.le_of_ble_eq_true rfl)⟩) (pxV (ci := 5) (q0 := 0) hG hZ hP hD hS hA [0, 1, 2, 3, 4] rfl (by decide) rfl rfl) rfl rfl hl.1 rfl (lv_room (Nat.le_of_ble_eq_true rfl)) dX6_file_3 ⟨(Nat.le_of_ble_eq_true rfl), (Nat.le_of_ble_eq_true rfl)⟩) hD hS hA [0, 1, 2, 3, 4] rfl (fun ce q9 H locs hS hce hcv hcl => ?_)
  exact vx_out (fun x hx => (hEx x hx).elim) hlocks hce hcv hcl (fun t ht _ => ⟨rfl, hS.F ht⟩) hS.2.2 (Nat.le_of_ble_eq_true rfl) (Nat.le_of_ble_eq_true rfl)
set_option maxHeartbeats 4000000 in
set_option maxRecDepth 100000 in
theorem k298_L_file (l : Launch) (hl9 : l.stackTraces = false) (G : pxG) (sz : Nat) (a0 a1 a2 a3 a4 a5 a6 a7 a8 a9 a10 a11 a12 a13 a14 a15 : Nat) (i0 i1 i2 i3 : Int32) : Met l yL_file (Cond.codeWith yL_file cL_file 7 (some .int) [(0, 14, 17, 67), (0, 14, 21, 51), (0, 14, 25, 62), (0, 14, 29, 53)] :: pxAll) ({ frames := 9, cells := 1, slots := 6, locals := 159 } : Room) (va_Pc [.ref a0, .int i0, .int i1, .int i2, .int i3, .ref a5] (pxPre G [(a0, .inr (5, [.ref a6, .ref a7, .ref a8, .ref a9, .ref a1, .int 0, .int 0, .int (-1)])), (a1, .inl (G.2.1 6, 3, .inr (.inr (.inr (.inr (va_up (va_up (va_up (fun _ => none) 0 (some a2)) 1 (some a3)) 2 (some a4))))))), (a2, .inr (0, [.ref a10, .ref a11, .int 0, .int 0])), (a3, .inr (0, [.ref a12, .ref a13, .int 0, .int 0])), (a4, .inr (0, [.ref a14, .ref a15, .int 0, .int 0]))] sz)) (pxQi G (fun r => r = 1) (fun q => []) (va_A [(a0, .inr (5, [.ref a6, .ref a7, .ref a8, .ref a9, .ref a1, .int 0, .int 0, .int (-1)])), (a1, .inl (G.2.1 6, 3, .inr (.inr (.inr (.inr (va_up (va_up (va_up (fun _ => none) 0 (some a2)) 1 (some a3)) 2 (some a4))))))), (a2, .inr (0, [.ref a10, .ref a11, .int 0, .int 0])), (a3, .inr (0, [.ref a12, .ref a13, .int 0, .int 0])), (a4, .inr (0, [.ref a14, .ref a15, .int 0, .int 0]))] sz)) 1 6 (va_A [(a0, .inr (5, [.ref a6, .ref a7, .ref a8, .ref a9, .ref a1, .int 0, .int 0, .int (-1)])), (a1, .inl (G.2.1 6, 3, .inr (.inr (.inr (.inr (va_up (va_up (va_up (fun _ => none) 0 (some a2)) 1 (some a3)) 2 (some a4))))))), (a2, .inr (0, [.ref a10, .ref a11, .int 0, .int 0])), (a3, .inr (0, [.ref a12, .ref a13, .int 0, .int 0])), (a4, .inr (0, [.ref a14, .ref a15, .int 0, .int 0]))] sz) := by
  refine va_MetW (cc := cL_file) (maxL := 7) (ret := (some .int)) (hh := [(0, 14, 17, 67), (0, 14, 21, 51), (0, 14, 25, 62), (0, 14, 29, 53)]) (by decide) rfl ?_
  intro p e s m args below meth c s₁ B hml hv
  obtain ⟨rfl, hsz, hG, hZ, hP, hD0⟩ := hv
  have hx := B.exec
  have hb := B.bytes
  have hr := B.returns
  have hts0 := atoms_spec (ws := Cond.codeWith yL_file cL_file 7 (some .int) [(0, 14, 17, 67), (0, 14, 21, 51), (0, 14, 25, 62), (0, 14, 29, 53)] :: pxAll) B.pre
  have hts : ∀ w ∈ pxAll, w.before _ s = true := fun w h => hts0 w (List.mem_cons_of_mem _ h)
  have hown : s.vm.findClass RL = some m.cls := findClass_of_methodNamed B.named
  have hlocks := B.notSynchronized
  have hTab := vx_table (x := yL_file) B (hts0 _ List.mem_cons_self)
  subst hsz
  have hK := hG.1
  have hD := hD0.self (sz := s.heap.size)
  generalize hAe : va_A [(a0, .inr (5, [.ref a6, .ref a7, .ref a8, .ref a9, .ref a1, .int 0, .int 0, .int (-1)])), (a1, .inl (G.2.1 6, 3, .inr (.inr (.inr (.inr (va_up (va_up (va_up (fun _ => none) 0 (some a2)) 1 (some a3)) 2 (some a4))))))), (a2, .inr (0, [.ref a10, .ref a11, .int 0, .int 0])), (a3, .inr (0, [.ref a12, .ref a13, .int 0, .int 0])), (a4, .inr (0, [.ref a14, .ref a15, .int 0, .int 0]))] s.heap.size = A at hD hZ ⊢
  have hA : ∀ q : Nat, s.heap.size ≤ q → A q := fun q h => by rw [← hAe]; exact Or.inr h
  have hS : va_S A s.heap s.heap [] := va_S.rf
  have hl := lv_entry ([.ref a0, .int i0, .int i1, .int i2, .int i3, .ref a5]) (n := 7) (Nat.le_of_ble_eq_true rfl)
  rw [lg_entry_eq]
  generalize (lg_sl ([.ref a0, .int i0, .int i1, .int i2, .int i3, .ref a5]) ++ List.replicate (7 - (lg_sl ([.ref a0, .int i0, .int i1, .int i2, .int i3, .ref a5])).length) Slot.unset).toArray = ls at hl ⊢
  have hl : lv_has ls 7 [(0, .ref a0), (1, .int i0), (2, .int i1), (3, .int i2), (4, .int i3), (5, .ref a5)] := hl
  refine lv_aload hx hb dL_file_0 (lv_at hl 5 rfl) ?_
  refine lv_iconst (v := 0) hx hb dL_file_2 (by decide) ?_
  refine lv_aload_n hx hb dL_file_3 rfl (lv_at hl 0 rfl) ?_
  refine lv_iload_n hx hb dL_file_4 rfl (lv_at hl 1 rfl) ?_
  refine lv_iload_n hx hb dL_file_5 rfl (lv_at hl 2 rfl) ?_
  refine lv_iload_n hx hb dL_file_6 rfl (lv_at hl 3 rfl) ?_
  refine lv_iload hx hb dL_file_7 (lv_at hl 4 rfl) ?_
  refine pxCx (vx_runV (As := [.int i0, .int i1, .int i2, .int i3]) (rest := [.int 0, .ref a5]) ⟨hx, hb, hml, hown, hts⟩ (k298_X6_file l hl9 G s.heap.size a0 a1 a2 a3 a4 a6 a7 a8 a9 a10 a11 a12 a13 a14 a15 i0 i1 i2 i3) (cwV 4 hts (pxGV pm674 pm675 pm676 pm2 pm677) rfl rfl rfl (by decide +kernel) ⟨(Nat.le_of_ble_eq_true rfl), (Nat.le_of_ble_eq_true rfl)⟩) (pxV (ci := 5) (q0 := 0) hG hZ hP hD hS hA [0, 1, 2, 3, 4] rfl (by decide) rfl rfl) rfl rfl hl.1 rfl (lv_room (Nat.le_of_ble_eq_true rfl)) dL_file_9 ⟨(Nat.le_of_ble_eq_true rfl), (Nat.le_of_ble_eq_true rfl)⟩) hD hS hA [0, 1, 2, 3, 4] rfl (fun ce q9 H locs hS hce hcv hcl => ?_)
  refine vx_catch (own := RL) (name := "java/lang/IndexOutOfBoundsException") (E := "java/lang/IndexOutOfBoundsException") hown [] ⟨0, 14, 17, 67⟩ [⟨0, 14, 21, 51⟩, ⟨0, 14, 25, 62⟩, ⟨0, 14, 29, 53⟩] (by rw [hTab]; rfl) (fun z hz => nomatch hz) (by decide) (by decide) (hts _ pm437) (va_Nw.use rfl (hG.2.2.1 "java/lang/IndexOutOfBoundsException" (by simp [pxBadC]))) hce hcv hcl ?_
  have hP : va_P G.1 pxCl [] H := fun k q h => by simp at h
  have hD : va_D A [] := ⟨fun i j p q h => by simp at h, fun k q h => by simp at h⟩
  refine lv_astore (lv' := [(6, .ref q9), (0, .ref a0), (1, .int i0), (2, .int i1), (3, .int i2), (4, .int i3), (5, .ref a5)]) hx hb dL_file_17 hl (by decide) rfl (fun ls hl => ?_)
  refine lv_iconst (v := 1) hx hb dL_file_19 (by decide) ?_
  refine W.widen (k := 1) (n := 6) (Nat.le_of_ble_eq_true rfl) (Nat.le_of_ble_eq_true rfl) ?_
  exact W.iret (v := 1) hx hb hr (fun t ht hW => ⟨⟨1, (fun _ => 0), rfl, rfl, by rw [ht]; exact hP, hD⟩, hS.F ht⟩) hS.2.2 dL_file_20
set_option maxHeartbeats 4000000 in
set_option maxRecDepth 100000 in
theorem k302_X7_isPlace (l : Launch) (G : pxG) (sz : Nat) (a0 a1 a2 a3 a4 a5 a6 a7 a8 a9 a10 a11 : Nat) (i0 i1 : Int32) : Met l yX7_isPlace (Cond.code yX7_isPlace cX7_isPlace 3 (some .boolean) :: pxAll) ({ frames := 2, cells := 0, slots := 0, locals := 42 } : Room) (va_Pc [.ref a0, .int i0, .int i1] (pxPre G [(a0, .inr (6, [.ref a2, .ref a3, .ref a4, .int 0, .ref a5, .int 0, .int 0, .int 0, .int 0, .ref a6, .int 0, .ref a7, .int 0, .int 0, .int 0, .int (-1), .ref a8, .ref a9, .int 0, .ref a1, .ref a10, .ref a11])), (a1, .inl (G.2.1 0, 3, .inl (fun _ => 0)))] sz)) (pxQi G (fun r => r = 0) (fun q => [(a0, .inr (6, [.ref a2, .ref a3, .ref a4, .int 0, .ref a5, .int 0, .int 0, .int 0, .int 0, .ref a6, .int 0, .ref a7, .int 0, .int 0, .int 0, .int (-1), .ref a8, .ref a9, .int 0, .ref a1, .ref a10, .ref a11])), (a1, .inl (G.2.1 0, 3, .inl (fun _ => 0)))]) (va_A [(a0, .inr (6, [.ref a2, .ref a3, .ref a4, .int 0, .ref a5, .int 0, .int 0, .int 0, .int 0, .ref a6, .int 0, .ref a7, .int 0, .int 0, .int 0, .int (-1), .ref a8, .ref a9, .int 0, .ref a1, .ref a10, .ref a11])), (a1, .inl (G.2.1 0, 3, .inl (fun _ => 0)))] sz)) 0 0 (va_A [(a0, .inr (6, [.ref a2, .ref a3, .ref a4, .int 0, .ref a5, .int 0, .int 0, .int 0, .int 0, .ref a6, .int 0, .ref a7, .int 0, .int 0, .int 0, .int (-1), .ref a8, .ref a9, .int 0, .ref a1, .ref a10, .ref a11])), (a1, .inl (G.2.1 0, 3, .inl (fun _ => 0)))] sz) := by
  refine Met.ofW (cc := cX7_isPlace) (maxL := 3) (ret := (some .boolean)) (by decide) rfl ?_
  intro p e s m args below meth c s₁ B hml hv
  obtain ⟨rfl, hsz, hG, hZ, hP, hD0⟩ := hv
  have hx := B.exec
  have hb := B.bytes
  have hr := B.returns
  have hts0 := atoms_spec (ws := Cond.code yX7_isPlace cX7_isPlace 3 (some .boolean) :: pxAll) B.pre
  have hts : ∀ w ∈ pxAll, w.before _ s = true := fun w h => hts0 w (List.mem_cons_of_mem _ h)
  have hown : s.vm.findClass RX7 = some m.cls := findClass_of_methodNamed B.named
  have hlocks := B.notSynchronized
  subst hsz
  have hK := hG.1
  have hD := hD0.self (sz := s.heap.size)
  generalize hAe : va_A [(a0, .inr (6, [.ref a2, .ref a3, .ref a4, .int 0, .ref a5, .int 0, .int 0, .int 0, .int 0, .ref a6, .int 0, .ref a7, .int 0, .int 0, .int 0, .int (-1), .ref a8, .ref a9, .int 0, .ref a1, .ref a10, .ref a11])), (a1, .inl (G.2.1 0, 3, .inl (fun _ => 0)))] s.heap.size = A at hD hZ ⊢
  have hA : ∀ q : Nat, s.heap.size ≤ q → A q := fun q h => by rw [← hAe]; exact Or.inr h
  have hS : va_S A s.heap s.heap [] := va_S.rf
  have hl := lv_entry ([.ref a0, .int i0, .int i1]) (n := 3) (Nat.le_of_ble_eq_true rfl)
  rw [lg_entry_eq]
  generalize (lg_sl ([.ref a0, .int i0, .int i1]) ++ List.replicate (3 - (lg_sl ([.ref a0, .int i0, .int i1])).length) Slot.unset).toArray = ls at hl ⊢
  have hl : lv_has ls 3 [(0, .ref a0), (1, .int i0), (2, .int i1)] := hl
  have r0 := pxRng i0
  have r1 := pxRng i1
  refine lv_iload_n hx hb dX7_isPlace_0 rfl (lv_at hl 1 rfl) ?_
  rcases Int.lt_or_le i0.toInt 0 with f1 | f1
  · skip
    refine pxCi (va_runS (As := [.int i0]) (rest := []) ⟨hx, hb, hml, hown, hts⟩ (k229_X7_isDrawer l G s.heap.size i0 ⟨by omega, by omega⟩) (va_cwS 1 hts (pxGS pm643 pm644 pm71 pm645) rfl rfl rfl (by decide +kernel) ⟨(Nat.le_of_ble_eq_true rfl), (Nat.le_of_ble_eq_true rfl)⟩) (pxS hG hZ hP hD hS hA [] rfl (by decide)) rfl rfl hl.1 rfl (lv_room (Nat.le_of_ble_eq_true rfl)) dX7_isPlace_1 ⟨(Nat.le_of_ble_eq_true rfl), (Nat.le_of_ble_eq_true rfl)⟩) hP hD hS hA [] [0, 1] rfl rfl (by decide) (by decide) (fun r2 q1 H locs hw hP hD hS => ?_)
    have hw : r2 = 0 := hw
    subst hw
    have hP : va_P G.1 pxCl [(a0, .inr (6, [.ref a2, .ref a3, .ref a4, .int 0, .ref a5, .int 0, .int 0, .int 0, .int 0, .ref a6, .int 0, .ref a7, .int 0, .int 0, .int 0, .int (-1), .ref a8, .ref a9, .int 0, .ref a1, .ref a10, .ref a11])), (a1, .inl (G.2.1 0, 3, .inl (fun _ => 0)))] H := hP
    have hD : va_D A [(a0, .inr (6, [.ref a2, .ref a3, .ref a4, .int 0, .ref a5, .int 0, .int 0, .int 0, .int 0, .ref a6, .int 0, .ref a7, .int 0, .int 0, .int 0, .int (-1), .ref a8, .ref a9, .int 0, .ref a1, .ref a10, .ref a11])), (a1, .inl (G.2.1 0, 3, .inl (fun _ => 0)))] := hD
    refine lv_if_eq (tgt := 27) hx hb dX7_isPlace_4 (by decide) (fun _ => ?_) (fun h9 => absurd (by decide) h9)
    refine lv_iconst (v := 0) hx hb dX7_isPlace_27 (by decide) ?_
    refine W.widen (k := 0) (n := 0) (Nat.le_of_ble_eq_true rfl) (Nat.le_of_ble_eq_true rfl) ?_
    exact W.zret (ty := .boolean) (v := 0) hx hb hr rfl (fun t ht hW => ⟨⟨0, (fun _ => 0), rfl, rfl, by rw [ht]; exact hP, hD⟩, hS.F ht⟩) hS.2.2 dX7_isPlace_28
  · skip
    rcases Int.lt_or_le i0.toInt 3 with f2 | f2
    · skip
      refine pxCi (va_runS (As := [.int i0]) (rest := []) ⟨hx, hb, hml, hown, hts⟩ (k236_X7_isDrawer l G s.heap.size i0 ⟨by omega, by omega⟩) (va_cwS 1 hts (pxGS pm643 pm644 pm71 pm645) rfl rfl rfl (by decide +kernel) ⟨(Nat.le_of_ble_eq_true rfl), (Nat.le_of_ble_eq_true rfl)⟩) (pxS hG hZ hP hD hS hA [] rfl (by decide)) rfl rfl hl.1 rfl (lv_room (Nat.le_of_ble_eq_true rfl)) dX7_isPlace_1 ⟨(Nat.le_of_ble_eq_true rfl), (Nat.le_of_ble_eq_true rfl)⟩) hP hD hS hA [] [0, 1] rfl rfl (by decide) (by decide) (fun r2 q1 H locs hw hP hD hS => ?_)
      have hw : r2 = 1 := hw
      subst hw
      have hP : va_P G.1 pxCl [(a0, .inr (6, [.ref a2, .ref a3, .ref a4, .int 0, .ref a5, .int 0, .int 0, .int 0, .int 0, .ref a6, .int 0, .ref a7, .int 0, .int 0, .int 0, .int (-1), .ref a8, .ref a9, .int 0, .ref a1, .ref a10, .ref a11])), (a1, .inl (G.2.1 0, 3, .inl (fun _ => 0)))] H := hP
      have hD : va_D A [(a0, .inr (6, [.ref a2, .ref a3, .ref a4, .int 0, .ref a5, .int 0, .int 0, .int 0, .int 0, .ref a6, .int 0, .ref a7, .int 0, .int 0, .int 0, .int (-1), .ref a8, .ref a9, .int 0, .ref a1, .ref a10, .ref a11])), (a1, .inl (G.2.1 0, 3, .inl (fun _ => 0)))] := hD
      refine lv_if_eq (tgt := 27) hx hb dX7_isPlace_4 (by decide) (fun h9 => absurd h9 (by decide)) (fun _ => ?_)
      refine lv_iload_n hx hb dX7_isPlace_7 rfl (lv_at hl 2 rfl) ?_
      refine lv_iconst (v := 0) hx hb dX7_isPlace_8 (by decide) ?_
      refine lv_aload_n hx hb dX7_isPlace_9 rfl (lv_at hl 0 rfl) ?_
      refine va_get (D := G.1) (ci := 6) (v := .ref a1) (C := RX7) (T := TX7) (N := 22) hx hb hts piX7 hown hK hP 0 rfl rfl 19 (by decide) (hts _ pm83) (fun _ h9 => h9) rfl dX7_isPlace_10 ?_
      refine lv_iload_n hx hb dX7_isPlace_13 rfl (lv_at hl 1 rfl) ?_
      refine va_iald hx hb hK hP 1 0 rfl rfl (vp_in_iff.mpr ⟨by omega, by omega⟩) dX7_isPlace_14 ?_
      refine pxTop (w := .int 0) rfl ?_
      refine lv_iconst (v := 1) hx hb dX7_isPlace_15 (by decide) ?_
      refine lv_isub hx hb dX7_isPlace_16 ?_
      refine pxTop (w := .int (-1)) (congrArg Value.int (by decide)) ?_
      refine pxCi (va_runS (As := [.int i1, .int 0, .int (-1)]) (rest := []) ⟨hx, hb, hml, hown, hts⟩ (k103_X7_in l G H.size i1) (va_cwS 3 hts (pxGS pm143 pm144 pm71 pm145) rfl rfl rfl (by decide +kernel) ⟨(Nat.le_of_ble_eq_true rfl), (Nat.le_of_ble_eq_true rfl)⟩) (pxS hG hZ hP hD hS hA [] rfl (by decide)) rfl rfl hl.1 rfl (lv_room (Nat.le_of_ble_eq_true rfl)) dX7_isPlace_17 ⟨(Nat.le_of_ble_eq_true rfl), (Nat.le_of_ble_eq_true rfl)⟩) hP hD hS hA [] [0, 1] rfl rfl (by decide) (by decide) (fun r4 q3 H locs hw hP hD hS => ?_)
      have hw : r4 = 0 := hw
      subst hw
      have hP : va_P G.1 pxCl [(a0, .inr (6, [.ref a2, .ref a3, .ref a4, .int 0, .ref a5, .int 0, .int 0, .int 0, .int 0, .ref a6, .int 0, .ref a7, .int 0, .int 0, .int 0, .int (-1), .ref a8, .ref a9, .int 0, .ref a1, .ref a10, .ref a11])), (a1, .inl (G.2.1 0, 3, .inl (fun _ => 0)))] H := hP
      have hD : va_D A [(a0, .inr (6, [.ref a2, .ref a3, .ref a4, .int 0, .ref a5, .int 0, .int 0, .int 0, .int 0, .ref a6, .int 0, .ref a7, .int 0, .int 0, .int 0, .int (-1), .ref a8, .ref a9, .int 0, .ref a1, .ref a10, .ref a11])), (a1, .inl (G.2.1 0, 3, .inl (fun _ => 0)))] := hD
      refine lv_if_eq (tgt := 27) hx hb dX7_isPlace_20 (by decide) (fun _ => ?_) (fun h9 => absurd (by decide) h9)
      refine lv_iconst (v := 0) hx hb dX7_isPlace_27 (by decide) ?_
      refine W.widen (k := 0) (n := 0) (Nat.le_of_ble_eq_true rfl) (Nat.le_of_ble_eq_true rfl) ?_
      exact W.zret (ty := .boolean) (v := 0) hx hb hr rfl (fun t ht hW => ⟨⟨0, (fun _ => 0), rfl, rfl, by rw [ht]; exact hP, hD⟩, hS.F ht⟩) hS.2.2 dX7_isPlace_28
    · skip
      refine pxCi (va_runS (As := [.int i0]) (rest := []) ⟨hx, hb, hml, hown, hts⟩ (k295_X7_isDrawer l G s.heap.size i0 ⟨by omega, by omega⟩) (va_cwS 1 hts (pxGS pm643 pm644 pm71 pm645) rfl rfl rfl (by decide +kernel) ⟨(Nat.le_of_ble_eq_true rfl), (Nat.le_of_ble_eq_true rfl)⟩) (pxS hG hZ hP hD hS hA [] rfl (by decide)) rfl rfl hl.1 rfl (lv_room (Nat.le_of_ble_eq_true rfl)) dX7_isPlace_1 ⟨(Nat.le_of_ble_eq_true rfl), (Nat.le_of_ble_eq_true rfl)⟩) hP hD hS hA [] [0, 1] rfl rfl (by decide) (by decide) (fun r2 q1 H locs hw hP hD hS => ?_)
      have hw : r2 = 0 := hw
      subst hw
      have hP : va_P G.1 pxCl [(a0, .inr (6, [.ref a2, .ref a3, .ref a4, .int 0, .ref a5, .int 0, .int 0, .int 0, .int 0, .ref a6, .int 0, .ref a7, .int 0, .int 0, .int 0, .int (-1), .ref a8, .ref a9, .int 0, .ref a1, .ref a10, .ref a11])), (a1, .inl (G.2.1 0, 3, .inl (fun _ => 0)))] H := hP
      have hD : va_D A [(a0, .inr (6, [.ref a2, .ref a3, .ref a4, .int 0, .ref a5, .int 0, .int 0, .int 0, .int 0, .ref a6, .int 0, .ref a7, .int 0, .int 0, .int 0, .int (-1), .ref a8, .ref a9, .int 0, .ref a1, .ref a10, .ref a11])), (a1, .inl (G.2.1 0, 3, .inl (fun _ => 0)))] := hD
      refine lv_if_eq (tgt := 27) hx hb dX7_isPlace_4 (by decide) (fun _ => ?_) (fun h9 => absurd (by decide) h9)
      refine lv_iconst (v := 0) hx hb dX7_isPlace_27 (by decide) ?_
      refine W.widen (k := 0) (n := 0) (Nat.le_of_ble_eq_true rfl) (Nat.le_of_ble_eq_true rfl) ?_
      exact W.zret (ty := .boolean) (v := 0) hx hb hr rfl (fun t ht hW => ⟨⟨0, (fun _ => 0), rfl, rfl, by rw [ht]; exact hP, hD⟩, hS.F ht⟩) hS.2.2 dX7_isPlace_28
set_option maxHeartbeats 4000000 in
set_option maxRecDepth 100000 in
theorem k302_X7_file (l : Launch) (G : pxG) (sz : Nat) (a0 a1 a2 a3 a4 a5 a6 a7 a8 a9 a10 a11 : Nat) (i0 i1 i2 i3 : Int32) : Met l yX7_file (Cond.code yX7_file cX7_file 7 (some .int) :: pxAll) ({ frames := 3, cells := 0, slots := 0, locals := 64 } : Room) (va_Pc [.ref a0, .int i0, .int i1, .int i2, .int i3] (pxPre G [(a0, .inr (6, [.ref a1, .ref a3, .ref a4, .int 0, .ref a5, .int 0, .int 0, .int 0, .int 0, .ref a6, .int 0, .ref a7, .int 0, .int 0, .int 0, .int (-1), .ref a8, .ref a9, .int 0, .ref a2, .ref a10, .ref a11])), (a1, .inl (G.2.1 0, 4891, .inl (fun _ => 0))), (a2, .inl (G.2.1 0, 3, .inl (fun _ => 0)))] sz)) (pxQi G (fun r => r = 0) (fun q => [(a0, .inr (6, [.ref a1, .ref a3, .ref a4, .int 0, .ref a5, .int 0, .int 0, .int 1, .int 0, .ref a6, .int 0, .ref a7, .int 0, .int 0, .int 0, .int (-1), .ref a8, .ref a9, .int 0, .ref a2, .ref a10, .ref a11]))]) (va_A [(a0, .inr (6, [.ref a1, .ref a3, .ref a4, .int 0, .ref a5, .int 0, .int 0, .int 0, .int 0, .ref a6, .int 0, .ref a7, .int 0, .int 0, .int 0, .int (-1), .ref a8, .ref a9, .int 0, .ref a2, .ref a10, .ref a11])), (a1, .inl (G.2.1 0, 4891, .inl (fun _ => 0))), (a2, .inl (G.2.1 0, 3, .inl (fun _ => 0)))] sz)) 0 0 (va_A [(a0, .inr (6, [.ref a1, .ref a3, .ref a4, .int 0, .ref a5, .int 0, .int 0, .int 0, .int 0, .ref a6, .int 0, .ref a7, .int 0, .int 0, .int 0, .int (-1), .ref a8, .ref a9, .int 0, .ref a2, .ref a10, .ref a11])), (a1, .inl (G.2.1 0, 4891, .inl (fun _ => 0))), (a2, .inl (G.2.1 0, 3, .inl (fun _ => 0)))] sz) := by
  refine Met.ofW (cc := cX7_file) (maxL := 7) (ret := (some .int)) (by decide) rfl ?_
  intro p e s m args below meth c s₁ B hml hv
  obtain ⟨rfl, hsz, hG, hZ, hP, hD0⟩ := hv
  have hx := B.exec
  have hb := B.bytes
  have hr := B.returns
  have hts0 := atoms_spec (ws := Cond.code yX7_file cX7_file 7 (some .int) :: pxAll) B.pre
  have hts : ∀ w ∈ pxAll, w.before _ s = true := fun w h => hts0 w (List.mem_cons_of_mem _ h)
  have hown : s.vm.findClass RX7 = some m.cls := findClass_of_methodNamed B.named
  have hlocks := B.notSynchronized
  subst hsz
  have hK := hG.1
  have hD := hD0.self (sz := s.heap.size)
  generalize hAe : va_A [(a0, .inr (6, [.ref a1, .ref a3, .ref a4, .int 0, .ref a5, .int 0, .int 0, .int 0, .int 0, .ref a6, .int 0, .ref a7, .int 0, .int 0, .int 0, .int (-1), .ref a8, .ref a9, .int 0, .ref a2, .ref a10, .ref a11])), (a1, .inl (G.2.1 0, 4891, .inl (fun _ => 0))), (a2, .inl (G.2.1 0, 3, .inl (fun _ => 0)))] s.heap.size = A at hD hZ ⊢
  have hA : ∀ q : Nat, s.heap.size ≤ q → A q := fun q h => by rw [← hAe]; exact Or.inr h
  have hS : va_S A s.heap s.heap [] := va_S.rf
  have hl := lv_entry ([.ref a0, .int i0, .int i1, .int i2, .int i3]) (n := 7) (Nat.le_of_ble_eq_true rfl)
  rw [lg_entry_eq]
  generalize (lg_sl ([.ref a0, .int i0, .int i1, .int i2, .int i3]) ++ List.replicate (7 - (lg_sl ([.ref a0, .int i0, .int i1, .int i2, .int i3])).length) Slot.unset).toArray = ls at hl ⊢
  have hl : lv_has ls 7 [(0, .ref a0), (1, .int i0), (2, .int i1), (3, .int i2), (4, .int i3)] := hl
  have r0 := pxRng i0
  have r1 := pxRng i1
  have r2 := pxRng i2
  have r3 := pxRng i3
  refine lv_iload_n hx hb dX7_file_0 rfl (lv_at hl 3 rfl) ?_
  rcases Int.lt_or_le i2.toInt 0 with f1 | f1
  · skip
    refine lv_if_ne (tgt := 21) hx hb dX7_file_1 (by decide) (fun _ => ?_) (fun h9 => absurd h9 (pxNe 0 (by decide) (by omega)))
    refine lv_aload_n hx hb dX7_file_21 rfl (lv_at hl 0 rfl) ?_
    refine lv_iload hx hb dX7_file_22 (lv_at hl 4 rfl) ?_
    refine pxCi (va_runV (As := [.int i3]) (rest := []) ⟨hx, hb, hml, hown, hts⟩ (k103_X7_wasMortgage l G s.heap.size a0 a1 a3 a4 a5 a6 a7 a8 a9 a2 a10 a11 i3) (cwV 1 hts (pxGV pm250 pm251 pm252 pm71 pm253) rfl rfl rfl (by decide +kernel) ⟨(Nat.le_of_ble_eq_true rfl), (Nat.le_of_ble_eq_true rfl)⟩) (pxV (ci := 6) (q0 := 0) hG hZ hP hD hS hA [0, 1] rfl (by decide) rfl rfl) rfl rfl hl.1 rfl (lv_room (Nat.le_of_ble_eq_true rfl)) dX7_file_24 ⟨(Nat.le_of_ble_eq_true rfl), (Nat.le_of_ble_eq_true rfl)⟩) hP hD hS hA [0, 1] [2] rfl rfl (by decide) (by decide) (fun r2 q1 H locs hw hP hD hS => ?_)
    have hw : r2 = 0 := hw
    subst hw
    have hP : va_P G.1 pxCl [(a2, .inl (G.2.1 0, 3, .inl (fun _ => 0))), (a0, .inr (6, [.ref a1, .ref a3, .ref a4, .int 0, .ref a5, .int 0, .int 0, .int 0, .int 0, .ref a6, .int 0, .ref a7, .int 0, .int 0, .int 0, .int (-1), .ref a8, .ref a9, .int 0, .ref a2, .ref a10, .ref a11])), (a1, .inl (G.2.1 0, 4891, .inl (fun _ => 0)))] H := hP
    have hD : va_D A [(a2, .inl (G.2.1 0, 3, .inl (fun _ => 0))), (a0, .inr (6, [.ref a1, .ref a3, .ref a4, .int 0, .ref a5, .int 0, .int 0, .int 0, .int 0, .ref a6, .int 0, .ref a7, .int 0, .int 0, .int 0, .int (-1), .ref a8, .ref a9, .int 0, .ref a2, .ref a10, .ref a11])), (a1, .inl (G.2.1 0, 4891, .inl (fun _ => 0)))] := hD
    refine lv_istore (lv' := [(5, .int 0), (0, .ref a0), (1, .int i0), (2, .int i1), (3, .int i2), (4, .int i3)]) hx hb dX7_file_27 hl (by decide) rfl (fun ls hl => ?_)
    refine lv_aload_n hx hb dX7_file_29 rfl (lv_at hl 1 rfl) ?_
    refine lv_aload_n hx hb dX7_file_30 rfl (lv_at hl 1 rfl) ?_
    refine lv_iload_n hx hb dX7_file_31 rfl (lv_at hl 2 rfl) ?_
    refine lv_iload_n hx hb dX7_file_32 rfl (lv_at hl 3 rfl) ?_
    refine pxCi (va_runV (As := [.int i0, .int i1]) (rest := [.ref a0]) ⟨hx, hb, hml, hown, hts⟩ (k302_X7_isPlace l G H.size a0 a2 a1 a3 a4 a5 a6 a7 a8 a9 a10 a11 i0 i1) (cwV 2 hts (pxGV pm681 pm682 pm683 pm71 pm684) rfl rfl rfl (by decide +kernel) ⟨(Nat.le_of_ble_eq_true rfl), (Nat.le_of_ble_eq_true rfl)⟩) (pxV (ci := 6) (q0 := 1) hG hZ hP hD hS hA [1, 0] rfl (by decide) rfl rfl) rfl rfl hl.1 rfl (lv_room (Nat.le_of_ble_eq_true rfl)) dX7_file_33 ⟨(Nat.le_of_ble_eq_true rfl), (Nat.le_of_ble_eq_true rfl)⟩) hP hD hS hA [1, 0] [2] rfl rfl (by decide) (by decide) (fun r4 q3 H locs hw hP hD hS => ?_)
    have hw : r4 = 0 := hw
    subst hw
    have hP : va_P G.1 pxCl [(a1, .inl (G.2.1 0, 4891, .inl (fun _ => 0))), (a0, .inr (6, [.ref a1, .ref a3, .ref a4, .int 0, .ref a5, .int 0, .int 0, .int 0, .int 0, .ref a6, .int 0, .ref a7, .int 0, .int 0, .int 0, .int (-1), .ref a8, .ref a9, .int 0, .ref a2, .ref a10, .ref a11])), (a2, .inl (G.2.1 0, 3, .inl (fun _ => 0)))] H := hP
    have hD : va_D A [(a1, .inl (G.2.1 0, 4891, .inl (fun _ => 0))), (a0, .inr (6, [.ref a1, .ref a3, .ref a4, .int 0, .ref a5, .int 0, .int 0, .int 0, .int 0, .ref a6, .int 0, .ref a7, .int 0, .int 0, .int 0, .int (-1), .ref a8, .ref a9, .int 0, .ref a2, .ref a10, .ref a11])), (a2, .inl (G.2.1 0, 3, .inl (fun _ => 0)))] := hD
    refine lv_if_ne (tgt := 43) hx hb dX7_file_36 (by decide) (fun h9 => absurd h9 (by decide)) (fun _ => ?_)
    refine lv_iconst (v := 1) hx hb dX7_file_39 (by decide) ?_
    refine lv_goto (tgt := 80) hx hb dX7_file_40 (by decide) ?_
    refine va_put (D := G.1) (ci := 6) (v := .int 1) (ty := .int) (C := RX7) (T := TX7) (N := 22) hx hb hts piX7 tyX7 tyX7_ok nmX7 hown hK hP hD hS 1 rfl rfl 7 (by decide) (hts _ pm150) (fun _ h9 => h9) rfl (by decide +kernel) rfl rfl (Nat.le_of_ble_eq_true rfl) dX7_file_80 (fun H locs hP hD hS => ?_)
    have hP : va_P G.1 pxCl [(a1, .inl (G.2.1 0, 4891, .inl (fun _ => 0))), (a0, .inr (6, [.ref a1, .ref a3, .ref a4, .int 0, .ref a5, .int 0, .int 0, .int 1, .int 0, .ref a6, .int 0, .ref a7, .int 0, .int 0, .int 0, .int (-1), .ref a8, .ref a9, .int 0, .ref a2, .ref a10, .ref a11])), (a2, .inl (G.2.1 0, 3, .inl (fun _ => 0)))] H := hP
    have hD : va_D A [(a1, .inl (G.2.1 0, 4891, .inl (fun _ => 0))), (a0, .inr (6, [.ref a1, .ref a3, .ref a4, .int 0, .ref a5, .int 0, .int 0, .int 1, .int 0, .ref a6, .int 0, .ref a7, .int 0, .int 0, .int 0, .int (-1), .ref a8, .ref a9, .int 0, .ref a2, .ref a10, .ref a11])), (a2, .inl (G.2.1 0, 3, .inl (fun _ => 0)))] := hD
    refine lv_aload_n hx hb dX7_file_83 rfl (lv_at hl 1 rfl) ?_
    refine va_get (D := G.1) (ci := 6) (v := .int 1) (C := RX7) (T := TX7) (N := 22) hx hb hts piX7 hown hK hP 1 rfl rfl 7 (by decide) (hts _ pm150) (fun _ h9 => h9) rfl dX7_file_84 ?_
    refine lv_if_le (tgt := 92) hx hb dX7_file_87 (by decide) (fun h9 => absurd h9 (by decide)) (fun _ => ?_)
    refine lv_iconst (v := 0) hx hb dX7_file_90 (by decide) ?_
    have hD : va_D A [(a0, .inr (6, [.ref a1, .ref a3, .ref a4, .int 0, .ref a5, .int 0, .int 0, .int 1, .int 0, .ref a6, .int 0, .ref a7, .int 0, .int 0, .int 0, .int (-1), .ref a8, .ref a9, .int 0, .ref a2, .ref a10, .ref a11]))] := hD.sub [1] (by decide) rfl
    have hP : va_P G.1 pxCl [(a0, .inr (6, [.ref a1, .ref a3, .ref a4, .int 0, .ref a5, .int 0, .int 0, .int 1, .int 0, .ref a6, .int 0, .ref a7, .int 0, .int 0, .int 0, .int (-1), .ref a8, .ref a9, .int 0, .ref a2, .ref a10, .ref a11]))] H := hP.sub [1] rfl
    refine W.widen (k := 0) (n := 0) (Nat.le_of_ble_eq_true rfl) (Nat.le_of_ble_eq_true rfl) ?_
    exact W.iret (v := 0) hx hb hr (fun t ht hW => ⟨⟨0, (fun _ => 0), rfl, rfl, by rw [ht]; exact hP, hD⟩, hS.F ht⟩) hS.2.2 dX7_file_91
  · skip
    rcases Int.lt_or_le i2.toInt 1 with f2 | f2
    · skip
      obtain rfl : i2 = 0 := pxEq 0 (by have h9 : (0 : Int32).toInt = 0 := (by decide); omega)
      refine lv_if_ne (tgt := 21) hx hb dX7_file_1 (by decide) (fun h9 => absurd h9 (by decide)) (fun _ => ?_)
      refine lv_iload hx hb dX7_file_4 (lv_at hl 4 rfl) ?_
      refine lv_iconst (v := 0) hx hb dX7_file_6 (by decide) ?_
      refine lv_aload_n hx hb dX7_file_7 rfl (lv_at hl 0 rfl) ?_
      refine va_get (D := G.1) (ci := 6) (v := .ref a1) (C := RX7) (T := TX7) (N := 22) hx hb hts piX7 hown hK hP 0 rfl rfl 0 (by decide) (hts _ pm73) (fun _ h9 => h9) rfl dX7_file_8 ?_
      refine lv_iconst (v := 0) hx hb dX7_file_11 (by decide) ?_
      refine va_iald hx hb hK hP 1 0 rfl rfl (show ¬ ((0 : Int32) < 0 ∨ 4891 ≤ (0 : Int32).toNatClampNeg) by decide +kernel) dX7_file_12 ?_
      refine pxTop (w := .int 0) rfl ?_
      refine lv_iconst (v := 1) hx hb dX7_file_13 (by decide) ?_
      refine lv_isub hx hb dX7_file_14 ?_
      refine pxTop (w := .int (-1)) (congrArg Value.int (by decide)) ?_
      refine pxCi (va_runS (As := [.int i3, .int 0, .int (-1)]) (rest := []) ⟨hx, hb, hml, hown, hts⟩ (k103_X7_in l G s.heap.size i3) (va_cwS 3 hts (pxGS pm143 pm144 pm71 pm145) rfl rfl rfl (by decide +kernel) ⟨(Nat.le_of_ble_eq_true rfl), (Nat.le_of_ble_eq_true rfl)⟩) (pxS hG hZ hP hD hS hA [] rfl (by decide)) rfl rfl hl.1 rfl (lv_room (Nat.le_of_ble_eq_true rfl)) dX7_file_15 ⟨(Nat.le_of_ble_eq_true rfl), (Nat.le_of_ble_eq_true rfl)⟩) hP hD hS hA [] [0, 1, 2] rfl rfl (by decide) (by decide) (fun r2 q1 H locs hw hP hD hS => ?_)
      have hw : r2 = 0 := hw
      subst hw
      have hP : va_P G.1 pxCl [(a0, .inr (6, [.ref a1, .ref a3, .ref a4, .int 0, .ref a5, .int 0, .int 0, .int 0, .int 0, .ref a6, .int 0, .ref a7, .int 0, .int 0, .int 0, .int (-1), .ref a8, .ref a9, .int 0, .ref a2, .ref a10, .ref a11])), (a1, .inl (G.2.1 0, 4891, .inl (fun _ => 0))), (a2, .inl (G.2.1 0, 3, .inl (fun _ => 0)))] H := hP
      have hD : va_D A [(a0, .inr (6, [.ref a1, .ref a3, .ref a4, .int 0, .ref a5, .int 0, .int 0, .int 0, .int 0, .ref a6, .int 0, .ref a7, .int 0, .int 0, .int 0, .int (-1), .ref a8, .ref a9, .int 0, .ref a2, .ref a10, .ref a11])), (a1, .inl (G.2.1 0, 4891, .inl (fun _ => 0))), (a2, .inl (G.2.1 0, 3, .inl (fun _ => 0)))] := hD
      refine lv_goto (tgt := 27) hx hb dX7_file_18 (by decide) ?_
      refine lv_istore (lv' := [(5, .int 0), (0, .ref a0), (1, .int i0), (2, .int i1), (3, .int 0), (4, .int i3)]) hx hb dX7_file_27 hl (by decide) rfl (fun ls hl => ?_)
      refine lv_aload_n hx hb dX7_file_29 rfl (lv_at hl 1 rfl) ?_
      refine lv_aload_n hx hb dX7_file_30 rfl (lv_at hl 1 rfl) ?_
      refine lv_iload_n hx hb dX7_file_31 rfl (lv_at hl 2 rfl) ?_
      refine lv_iload_n hx hb dX7_file_32 rfl (lv_at hl 3 rfl) ?_
      refine pxCi (va_runV (As := [.int i0, .int i1]) (rest := [.ref a0]) ⟨hx, hb, hml, hown, hts⟩ (k302_X7_isPlace l G H.size a0 a2 a1 a3 a4 a5 a6 a7 a8 a9 a10 a11 i0 i1) (cwV 2 hts (pxGV pm681 pm682 pm683 pm71 pm684) rfl rfl rfl (by decide +kernel) ⟨(Nat.le_of_ble_eq_true rfl), (Nat.le_of_ble_eq_true rfl)⟩) (pxV (ci := 6) (q0 := 0) hG hZ hP hD hS hA [0, 2] rfl (by decide) rfl rfl) rfl rfl hl.1 rfl (lv_room (Nat.le_of_ble_eq_true rfl)) dX7_file_33 ⟨(Nat.le_of_ble_eq_true rfl), (Nat.le_of_ble_eq_true rfl)⟩) hP hD hS hA [0, 2] [1] rfl rfl (by decide) (by decide) (fun r4 q3 H locs hw hP hD hS => ?_)
      have hw : r4 = 0 := hw
      subst hw
      have hP : va_P G.1 pxCl [(a1, .inl (G.2.1 0, 4891, .inl (fun _ => 0))), (a0, .inr (6, [.ref a1, .ref a3, .ref a4, .int 0, .ref a5, .int 0, .int 0, .int 0, .int 0, .ref a6, .int 0, .ref a7, .int 0, .int 0, .int 0, .int (-1), .ref a8, .ref a9, .int 0, .ref a2, .ref a10, .ref a11])), (a2, .inl (G.2.1 0, 3, .inl (fun _ => 0)))] H := hP
      have hD : va_D A [(a1, .inl (G.2.1 0, 4891, .inl (fun _ => 0))), (a0, .inr (6, [.ref a1, .ref a3, .ref a4, .int 0, .ref a5, .int 0, .int 0, .int 0, .int 0, .ref a6, .int 0, .ref a7, .int 0, .int 0, .int 0, .int (-1), .ref a8, .ref a9, .int 0, .ref a2, .ref a10, .ref a11])), (a2, .inl (G.2.1 0, 3, .inl (fun _ => 0)))] := hD
      refine lv_if_ne (tgt := 43) hx hb dX7_file_36 (by decide) (fun h9 => absurd h9 (by decide)) (fun _ => ?_)
      refine lv_iconst (v := 1) hx hb dX7_file_39 (by decide) ?_
      refine lv_goto (tgt := 80) hx hb dX7_file_40 (by decide) ?_
      refine va_put (D := G.1) (ci := 6) (v := .int 1) (ty := .int) (C := RX7) (T := TX7) (N := 22) hx hb hts piX7 tyX7 tyX7_ok nmX7 hown hK hP hD hS 1 rfl rfl 7 (by decide) (hts _ pm150) (fun _ h9 => h9) rfl (by decide +kernel) rfl rfl (Nat.le_of_ble_eq_true rfl) dX7_file_80 (fun H locs hP hD hS => ?_)
      have hP : va_P G.1 pxCl [(a1, .inl (G.2.1 0, 4891, .inl (fun _ => 0))), (a0, .inr (6, [.ref a1, .ref a3, .ref a4, .int 0, .ref a5, .int 0, .int 0, .int 1, .int 0, .ref a6, .int 0, .ref a7, .int 0, .int 0, .int 0, .int (-1), .ref a8, .ref a9, .int 0, .ref a2, .ref a10, .ref a11])), (a2, .inl (G.2.1 0, 3, .inl (fun _ => 0)))] H := hP
      have hD : va_D A [(a1, .inl (G.2.1 0, 4891, .inl (fun _ => 0))), (a0, .inr (6, [.ref a1, .ref a3, .ref a4, .int 0, .ref a5, .int 0, .int 0, .int 1, .int 0, .ref a6, .int 0, .ref a7, .int 0, .int 0, .int 0, .int (-1), .ref a8, .ref a9, .int 0, .ref a2, .ref a10, .ref a11])), (a2, .inl (G.2.1 0, 3, .inl (fun _ => 0)))] := hD
      refine lv_aload_n hx hb dX7_file_83 rfl (lv_at hl 1 rfl) ?_
      refine va_get (D := G.1) (ci := 6) (v := .int 1) (C := RX7) (T := TX7) (N := 22) hx hb hts piX7 hown hK hP 1 rfl rfl 7 (by decide) (hts _ pm150) (fun _ h9 => h9) rfl dX7_file_84 ?_
      refine lv_if_le (tgt := 92) hx hb dX7_file_87 (by decide) (fun h9 => absurd h9 (by decide)) (fun _ => ?_)
      refine lv_iconst (v := 0) hx hb dX7_file_90 (by decide) ?_
      have hD : va_D A [(a0, .inr (6, [.ref a1, .ref a3, .ref a4, .int 0, .ref a5, .int 0, .int 0, .int 1, .int 0, .ref a6, .int 0, .ref a7, .int 0, .int 0, .int 0, .int (-1), .ref a8, .ref a9, .int 0, .ref a2, .ref a10, .ref a11]))] := hD.sub [1] (by decide) rfl
      have hP : va_P G.1 pxCl [(a0, .inr (6, [.ref a1, .ref a3, .ref a4, .int 0, .ref a5, .int 0, .int 0, .int 1, .int 0, .ref a6, .int 0, .ref a7, .int 0, .int 0, .int 0, .int (-1), .ref a8, .ref a9, .int 0, .ref a2, .ref a10, .ref a11]))] H := hP.sub [1] rfl
      refine W.widen (k := 0) (n := 0) (Nat.le_of_ble_eq_true rfl) (Nat.le_of_ble_eq_true rfl) ?_
      exact W.iret (v := 0) hx hb hr (fun t ht hW => ⟨⟨0, (fun _ => 0), rfl, rfl, by rw [ht]; exact hP, hD⟩, hS.F ht⟩) hS.2.2 dX7_file_91
    · skip
      refine lv_if_ne (tgt := 21) hx hb dX7_file_1 (by decide) (fun _ => ?_) (fun h9 => absurd h9 (pxNe 0 (by decide) (by omega)))
      refine lv_aload_n hx hb dX7_file_21 rfl (lv_at hl 0 rfl) ?_
      refine lv_iload hx hb dX7_file_22 (lv_at hl 4 rfl) ?_
      refine pxCi (va_runV (As := [.int i3]) (rest := []) ⟨hx, hb, hml, hown, hts⟩ (k103_X7_wasMortgage l G s.heap.size a0 a1 a3 a4 a5 a6 a7 a8 a9 a2 a10 a11 i3) (cwV 1 hts (pxGV pm250 pm251 pm252 pm71 pm253) rfl rfl rfl (by decide +kernel) ⟨(Nat.le_of_ble_eq_true rfl), (Nat.le_of_ble_eq_true rfl)⟩) (pxV (ci := 6) (q0 := 0) hG hZ hP hD hS hA [0, 1] rfl (by decide) rfl rfl) rfl rfl hl.1 rfl (lv_room (Nat.le_of_ble_eq_true rfl)) dX7_file_24 ⟨(Nat.le_of_ble_eq_true rfl), (Nat.le_of_ble_eq_true rfl)⟩) hP hD hS hA [0, 1] [2] rfl rfl (by decide) (by decide) (fun r2 q1 H locs hw hP hD hS => ?_)
      have hw : r2 = 0 := hw
      subst hw
      have hP : va_P G.1 pxCl [(a2, .inl (G.2.1 0, 3, .inl (fun _ => 0))), (a0, .inr (6, [.ref a1, .ref a3, .ref a4, .int 0, .ref a5, .int 0, .int 0, .int 0, .int 0, .ref a6, .int 0, .ref a7, .int 0, .int 0, .int 0, .int (-1), .ref a8, .ref a9, .int 0, .ref a2, .ref a10, .ref a11])), (a1, .inl (G.2.1 0, 4891, .inl (fun _ => 0)))] H := hP
      have hD : va_D A [(a2, .inl (G.2.1 0, 3, .inl (fun _ => 0))), (a0, .inr (6, [.ref a1, .ref a3, .ref a4, .int 0, .ref a5, .int 0, .int 0, .int 0, .int 0, .ref a6, .int 0, .ref a7, .int 0, .int 0, .int 0, .int (-1), .ref a8, .ref a9, .int 0, .ref a2, .ref a10, .ref a11])), (a1, .inl (G.2.1 0, 4891, .inl (fun _ => 0)))] := hD
      refine lv_istore (lv' := [(5, .int 0), (0, .ref a0), (1, .int i0), (2, .int i1), (3, .int i2), (4, .int i3)]) hx hb dX7_file_27 hl (by decide) rfl (fun ls hl => ?_)
      refine lv_aload_n hx hb dX7_file_29 rfl (lv_at hl 1 rfl) ?_
      refine lv_aload_n hx hb dX7_file_30 rfl (lv_at hl 1 rfl) ?_
      refine lv_iload_n hx hb dX7_file_31 rfl (lv_at hl 2 rfl) ?_
      refine lv_iload_n hx hb dX7_file_32 rfl (lv_at hl 3 rfl) ?_
      refine pxCi (va_runV (As := [.int i0, .int i1]) (rest := [.ref a0]) ⟨hx, hb, hml, hown, hts⟩ (k302_X7_isPlace l G H.size a0 a2 a1 a3 a4 a5 a6 a7 a8 a9 a10 a11 i0 i1) (cwV 2 hts (pxGV pm681 pm682 pm683 pm71 pm684) rfl rfl rfl (by decide +kernel) ⟨(Nat.le_of_ble_eq_true rfl), (Nat.le_of_ble_eq_true rfl)⟩) (pxV (ci := 6) (q0 := 1) hG hZ hP hD hS hA [1, 0] rfl (by decide) rfl rfl) rfl rfl hl.1 rfl (lv_room (Nat.le_of_ble_eq_true rfl)) dX7_file_33 ⟨(Nat.le_of_ble_eq_true rfl), (Nat.le_of_ble_eq_true rfl)⟩) hP hD hS hA [1, 0] [2] rfl rfl (by decide) (by decide) (fun r4 q3 H locs hw hP hD hS => ?_)
      have hw : r4 = 0 := hw
      subst hw
      have hP : va_P G.1 pxCl [(a1, .inl (G.2.1 0, 4891, .inl (fun _ => 0))), (a0, .inr (6, [.ref a1, .ref a3, .ref a4, .int 0, .ref a5, .int 0, .int 0, .int 0, .int 0, .ref a6, .int 0, .ref a7, .int 0, .int 0, .int 0, .int (-1), .ref a8, .ref a9, .int 0, .ref a2, .ref a10, .ref a11])), (a2, .inl (G.2.1 0, 3, .inl (fun _ => 0)))] H := hP
      have hD : va_D A [(a1, .inl (G.2.1 0, 4891, .inl (fun _ => 0))), (a0, .inr (6, [.ref a1, .ref a3, .ref a4, .int 0, .ref a5, .int 0, .int 0, .int 0, .int 0, .ref a6, .int 0, .ref a7, .int 0, .int 0, .int 0, .int (-1), .ref a8, .ref a9, .int 0, .ref a2, .ref a10, .ref a11])), (a2, .inl (G.2.1 0, 3, .inl (fun _ => 0)))] := hD
      refine lv_if_ne (tgt := 43) hx hb dX7_file_36 (by decide) (fun h9 => absurd h9 (by decide)) (fun _ => ?_)
      refine lv_iconst (v := 1) hx hb dX7_file_39 (by decide) ?_
      refine lv_goto (tgt := 80) hx hb dX7_file_40 (by decide) ?_
      refine va_put (D := G.1) (ci := 6) (v := .int 1) (ty := .int) (C := RX7) (T := TX7) (N := 22) hx hb hts piX7 tyX7 tyX7_ok nmX7 hown hK hP hD hS 1 rfl rfl 7 (by decide) (hts _ pm150) (fun _ h9 => h9) rfl (by decide +kernel) rfl rfl (Nat.le_of_ble_eq_true rfl) dX7_file_80 (fun H locs hP hD hS => ?_)
      have hP : va_P G.1 pxCl [(a1, .inl (G.2.1 0, 4891, .inl (fun _ => 0))), (a0, .inr (6, [.ref a1, .ref a3, .ref a4, .int 0, .ref a5, .int 0, .int 0, .int 1, .int 0, .ref a6, .int 0, .ref a7, .int 0, .int 0, .int 0, .int (-1), .ref a8, .ref a9, .int 0, .ref a2, .ref a10, .ref a11])), (a2, .inl (G.2.1 0, 3, .inl (fun _ => 0)))] H := hP
      have hD : va_D A [(a1, .inl (G.2.1 0, 4891, .inl (fun _ => 0))), (a0, .inr (6, [.ref a1, .ref a3, .ref a4, .int 0, .ref a5, .int 0, .int 0, .int 1, .int 0, .ref a6, .int 0, .ref a7, .int 0, .int 0, .int 0, .int (-1), .ref a8, .ref a9, .int 0, .ref a2, .ref a10, .ref a11])), (a2, .inl (G.2.1 0, 3, .inl (fun _ => 0)))] := hD
      refine lv_aload_n hx hb dX7_file_83 rfl (lv_at hl 1 rfl) ?_
      refine va_get (D := G.1) (ci := 6) (v := .int 1) (C := RX7) (T := TX7) (N := 22) hx hb hts piX7 hown hK hP 1 rfl rfl 7 (by decide) (hts _ pm150) (fun _ h9 => h9) rfl dX7_file_84 ?_
      refine lv_if_le (tgt := 92) hx hb dX7_file_87 (by decide) (fun h9 => absurd h9 (by decide)) (fun _ => ?_)
      refine lv_iconst (v := 0) hx hb dX7_file_90 (by decide) ?_
      have hD : va_D A [(a0, .inr (6, [.ref a1, .ref a3, .ref a4, .int 0, .ref a5, .int 0, .int 0, .int 1, .int 0, .ref a6, .int 0, .ref a7, .int 0, .int 0, .int 0, .int (-1), .ref a8, .ref a9, .int 0, .ref a2, .ref a10, .ref a11]))] := hD.sub [1] (by decide) rfl
      have hP : va_P G.1 pxCl [(a0, .inr (6, [.ref a1, .ref a3, .ref a4, .int 0, .ref a5, .int 0, .int 0, .int 1, .int 0, .ref a6, .int 0, .ref a7, .int 0, .int 0, .int 0, .int (-1), .ref a8, .ref a9, .int 0, .ref a2, .ref a10, .ref a11]))] H := hP.sub [1] rfl
      refine W.widen (k := 0) (n := 0) (Nat.le_of_ble_eq_true rfl) (Nat.le_of_ble_eq_true rfl) ?_
      exact W.iret (v := 0) hx hb hr (fun t ht hW => ⟨⟨0, (fun _ => 0), rfl, rfl, by rw [ht]; exact hP, hD⟩, hS.F ht⟩) hS.2.2 dX7_file_91
set_option maxHeartbeats 4000000 in
set_option maxRecDepth 100000 in
theorem lc30 {p : Program} {l : Launch} {e : Env} {s : State} {m : MethodId} {below : List Frame} {meth : Method} {c : Code} {b : Nat} {xs : Nat → Int32} (hl9 : l.stackTraces = false) (G : pxG) (C0 : lw_At p s m meth c b 5 xs) (hG : pxOk G s) (hZ : pxZ (fun q : Nat => s.heap.size ≤ q) s s.heap) (a1 a2 a43 a86 a127 a131 a132 a133 a134 a135 a136 a137 a138 a139 a140 a149 a150 a151 a152 a153 a154 a155 a156 a157 a158 a159 a160 a161 a162 : Nat) (H : Heap) (locs : List Loc) (hP : va_P G.1 pxCl [(a1, .inr (5, [.ref a2, .ref a43, .ref a86, .ref a127, .ref a131, .int 0, .int 0, .int (-1)])), (a131, .inl (G.2.1 6, 3, .inr (.inr (.inr (.inr (va_up (va_up (va_up (fun _ => none) 0 (some a132)) 1 (some a135)) 2 (some a138))))))), (a132, .inr (0, [.ref a133, .ref a134, .int 0, .int 0])), (a135, .inr (0, [.ref a136, .ref a137, .int 0, .int 0])), (a138, .inr (0, [.ref a139, .ref a140, .int 0, .int 0])), (a149, .inr (6, [.ref a150, .ref a151, .ref a152, .int 0, .ref a153, .int 0, .int 0, .int 0, .int 0, .ref a154, .int 0, .ref a155, .int 0, .int 0, .int 0, .int (-1), .ref a156, .ref a157, .int 0, .ref a158, .ref a159, .ref a160])), (a150, .inl (G.2.1 0, 4891, .inl (fun _ => 0))), (a158, .inl (G.2.1 0, 3, .inl (fun _ => 0)))] H) (hD : va_D (fun q : Nat => s.heap.size ≤ q) [(a1, .inr (5, [.ref a2, .ref a43, .ref a86, .ref a127, .ref a131, .int 0, .int 0, .int (-1)])), (a131, .inl (G.2.1 6, 3, .inr (.inr (.inr (.inr (va_up (va_up (va_up (fun _ => none) 0 (some a132)) 1 (some a135)) 2 (some a138))))))), (a132, .inr (0, [.ref a133, .ref a134, .int 0, .int 0])), (a135, .inr (0, [.ref a136, .ref a137, .int 0, .int 0])), (a138, .inr (0, [.ref a139, .ref a140, .int 0, .int 0])), (a149, .inr (6, [.ref a150, .ref a151, .ref a152, .int 0, .ref a153, .int 0, .int 0, .int 0, .int 0, .ref a154, .int 0, .ref a155, .int 0, .int 0, .int 0, .int (-1), .ref a156, .ref a157, .int 0, .ref a158, .ref a159, .ref a160])), (a150, .inl (G.2.1 0, 4891, .inl (fun _ => 0))), (a158, .inl (G.2.1 0, 3, .inl (fun _ => 0)))]) (hS : va_S (fun q : Nat => s.heap.size ≤ q) s.heap H locs) (ls : Array Slot) (hl : lv_has ls 9 [(5, .int 0), (4, .ref a162), (3, .ref a161), (2, .ref a149), (1, .ref a1), (0, .ref b)]) : W p l e room_1 s m #[Value.ref b] below meth c H locs 482 60053 (lw_Z below #[Value.ref b] s) (F0 m 2245 ls []) := by
  obtain ⟨hx, hb, hr, hml, hown, hts0, hX, hbl, hlocks, hgv⟩ := id C0
  have hts : ∀ w ∈ pxAll, w.before #[Value.ref b] s = true := fun w h => hts0 w (List.mem_filter.mp h).1
  have hA : ∀ q : Nat, s.heap.size ≤ q → (fun q : Nat => s.heap.size ≤ q) q := fun _ h => h
  have hbA : ¬ (fun q : Nat => s.heap.size ≤ q) b := Nat.not_le.mpr hbl
  have hK := hG.1
  obtain ⟨p1, hp1⟩ : ∃ z : Int32, xs 1 = z := ⟨_, rfl⟩
  have r1 := pxRng p1
  obtain ⟨p2, hp2⟩ : ∃ z : Int32, xs 2 = z := ⟨_, rfl⟩
  have r2 := pxRng p2
  obtain ⟨p3, hp3⟩ : ∃ z : Int32, xs 3 = z := ⟨_, rfl⟩
  have r3 := pxRng p3
  obtain ⟨p4, hp4⟩ : ∃ z : Int32, xs 4 = z := ⟨_, rfl⟩
  have r4 := pxRng p4
  refine lv_aload_n hx hb dL_law_2245 rfl (lv_at hl 4 rfl) ?_
  refine lv_aload_n hx hb dL_law_2246 rfl (lv_at hl 5 rfl) ?_
  refine lv_iload hx hb dL_law_2247 (lv_at hl 0 rfl) ?_
  refine lv_iconst (v := 1) hx hb dL_law_2249 (by decide) ?_
  refine lv_iadd hx hb dL_law_2250 ?_
  refine pxTop (w := .int 1) (congrArg Value.int (by decide)) ?_
  refine va_sld hx hb hX hbl hbA hS (show ¬ ((1 : Int32) < 0 ∨ 5 ≤ (1 : Int32).toNatClampNeg) by decide +kernel) dL_law_2251 ?_
  refine pxTop (w := .int p1) (congrArg Value.int hp1) ?_
  refine lv_aload_n hx hb dL_law_2252 rfl (lv_at hl 5 rfl) ?_
  refine lv_iload hx hb dL_law_2253 (lv_at hl 0 rfl) ?_
  refine lv_iconst (v := 2) hx hb dL_law_2255 (by decide) ?_
  refine lv_iadd hx hb dL_law_2256 ?_
  refine pxTop (w := .int 2) (congrArg Value.int (by decide)) ?_
  refine va_sld hx hb hX hbl hbA hS (show ¬ ((2 : Int32) < 0 ∨ 5 ≤ (2 : Int32).toNatClampNeg) by decide +kernel) dL_law_2257 ?_
  refine pxTop (w := .int p2) (congrArg Value.int hp2) ?_
  refine lv_aload_n hx hb dL_law_2258 rfl (lv_at hl 5 rfl) ?_
  refine lv_iload hx hb dL_law_2259 (lv_at hl 0 rfl) ?_
  refine lv_iconst (v := 3) hx hb dL_law_2261 (by decide) ?_
  refine lv_iadd hx hb dL_law_2262 ?_
  refine pxTop (w := .int 3) (congrArg Value.int (by decide)) ?_
  refine va_sld hx hb hX hbl hbA hS (show ¬ ((3 : Int32) < 0 ∨ 5 ≤ (3 : Int32).toNatClampNeg) by decide +kernel) dL_law_2263 ?_
  refine pxTop (w := .int p3) (congrArg Value.int hp3) ?_
  refine lv_aload_n hx hb dL_law_2264 rfl (lv_at hl 5 rfl) ?_
  refine lv_iload hx hb dL_law_2265 (lv_at hl 0 rfl) ?_
  refine lv_iconst (v := 4) hx hb dL_law_2267 (by decide) ?_
  refine lv_iadd hx hb dL_law_2268 ?_
  refine pxTop (w := .int 4) (congrArg Value.int (by decide)) ?_
  refine va_sld hx hb hX hbl hbA hS (show ¬ ((4 : Int32) < 0 ∨ 5 ≤ (4 : Int32).toNatClampNeg) by decide +kernel) dL_law_2269 ?_
  refine pxTop (w := .int p4) (congrArg Value.int hp4) ?_
  refine lv_aload_n hx hb dL_law_2270 rfl (lv_at hl 2 rfl) ?_
  refine pxCi (vx_runSW (As := [.ref a1, .int p1, .int p2, .int p3, .int p4, .ref a161]) (rest := []) ⟨hx, hb, hml, hown, hts⟩ (k298_L_file l hl9 G H.size a1 a131 a132 a135 a138 a161 a2 a43 a86 a127 a133 a134 a136 a137 a139 a140 p1 p2 p3 p4) (vx_cwSW 6 hts (pxGS pm678 pm679 pm136 pm680) rfl rfl rfl (by decide +kernel) ⟨(Nat.le_of_ble_eq_true rfl), (Nat.le_of_ble_eq_true rfl)⟩) (pxS hG hZ hP hD hS hA [0, 1, 2, 3, 4] rfl (by decide)) rfl rfl hl.1 rfl (lv_room (Nat.le_of_ble_eq_true rfl)) dL_law_2271 ⟨(Nat.le_of_ble_eq_true rfl), (Nat.le_of_ble_eq_true rfl)⟩) hP hD hS hA [0, 1, 2, 3, 4] [5, 6, 7] rfl rfl (by decide) (by decide) (fun r2 q1 H locs hw hP hD hS => ?_)
  have hw : r2 = 1 := hw
  subst hw
  have hP : va_P G.1 pxCl [(a149, .inr (6, [.ref a150, .ref a151, .ref a152, .int 0, .ref a153, .int 0, .int 0, .int 0, .int 0, .ref a154, .int 0, .ref a155, .int 0, .int 0, .int 0, .int (-1), .ref a156, .ref a157, .int 0, .ref a158, .ref a159, .ref a160])), (a150, .inl (G.2.1 0, 4891, .inl (fun _ => 0))), (a158, .inl (G.2.1 0, 3, .inl (fun _ => 0)))] H := hP
  have hD : va_D (fun q : Nat => s.heap.size ≤ q) [(a149, .inr (6, [.ref a150, .ref a151, .ref a152, .int 0, .ref a153, .int 0, .int 0, .int 0, .int 0, .ref a154, .int 0, .ref a155, .int 0, .int 0, .int 0, .int (-1), .ref a156, .ref a157, .int 0, .ref a158, .ref a159, .ref a160])), (a150, .inl (G.2.1 0, 4891, .inl (fun _ => 0))), (a158, .inl (G.2.1 0, 3, .inl (fun _ => 0)))] := hD
  refine W.widen (k := 483) (n := 60059) (Nat.le_of_ble_eq_true rfl) (Nat.le_of_ble_eq_true rfl) ?_
  refine lv_istore (lv' := [(6, .int 1), (5, .int 0), (4, .ref a162), (3, .ref a161), (2, .ref a149), (1, .ref a1), (0, .ref b)]) hx hb dL_law_2274 hl (by decide) rfl (fun ls hl => ?_)
  refine lv_aload_n hx hb dL_law_2276 rfl (lv_at hl 4 rfl) ?_
  refine lv_aload_n hx hb dL_law_2277 rfl (lv_at hl 6 rfl) ?_
  refine lv_iload hx hb dL_law_2278 (lv_at hl 1 rfl) ?_
  refine lv_iconst (v := 1) hx hb dL_law_2280 (by decide) ?_
  refine lv_iadd hx hb dL_law_2281 ?_
  refine pxTop (w := .int 1) (congrArg Value.int (by decide)) ?_
  refine va_sld hx hb hX hbl hbA hS (show ¬ ((1 : Int32) < 0 ∨ 5 ≤ (1 : Int32).toNatClampNeg) by decide +kernel) dL_law_2282 ?_
  refine pxTop (w := .int p1) (congrArg Value.int hp1) ?_
  refine lv_aload_n hx hb dL_law_2283 rfl (lv_at hl 6 rfl) ?_
  refine lv_iload hx hb dL_law_2284 (lv_at hl 1 rfl) ?_
  refine lv_iconst (v := 2) hx hb dL_law_2286 (by decide) ?_
  refine lv_iadd hx hb dL_law_2287 ?_
  refine pxTop (w := .int 2) (congrArg Value.int (by decide)) ?_
  refine va_sld hx hb hX hbl hbA hS (show ¬ ((2 : Int32) < 0 ∨ 5 ≤ (2 : Int32).toNatClampNeg) by decide +kernel) dL_law_2288 ?_
  refine pxTop (w := .int p2) (congrArg Value.int hp2) ?_
  refine lv_aload_n hx hb dL_law_2289 rfl (lv_at hl 6 rfl) ?_
  refine lv_iload hx hb dL_law_2290 (lv_at hl 1 rfl) ?_
  refine lv_iconst (v := 3) hx hb dL_law_2292 (by decide) ?_
  refine lv_iadd hx hb dL_law_2293 ?_
  refine pxTop (w := .int 3) (congrArg Value.int (by decide)) ?_
  refine va_sld hx hb hX hbl hbA hS (show ¬ ((3 : Int32) < 0 ∨ 5 ≤ (3 : Int32).toNatClampNeg) by decide +kernel) dL_law_2294 ?_
  refine pxTop (w := .int p3) (congrArg Value.int hp3) ?_
  refine lv_aload_n hx hb dL_law_2295 rfl (lv_at hl 6 rfl) ?_
  refine lv_iload hx hb dL_law_2296 (lv_at hl 1 rfl) ?_
  refine lv_iconst (v := 4) hx hb dL_law_2298 (by decide) ?_
  refine lv_iadd hx hb dL_law_2299 ?_
  refine pxTop (w := .int 4) (congrArg Value.int (by decide)) ?_
  refine va_sld hx hb hX hbl hbA hS (show ¬ ((4 : Int32) < 0 ∨ 5 ≤ (4 : Int32).toNatClampNeg) by decide +kernel) dL_law_2300 ?_
  refine pxTop (w := .int p4) (congrArg Value.int hp4) ?_
  refine pxCi (va_runV (As := [.int p1, .int p2, .int p3, .int p4]) (rest := []) ⟨hx, hb, hml, hown, hts⟩ (k302_X7_file l G H.size a149 a150 a158 a151 a152 a153 a154 a155 a156 a157 a159 a160 p1 p2 p3 p4) (cwV 4 hts (pxGV pm685 pm686 pm687 pm71 pm688) rfl rfl rfl (by decide +kernel) ⟨(Nat.le_of_ble_eq_true rfl), (Nat.le_of_ble_eq_true rfl)⟩) (pxV (ci := 6) (q0 := 0) hG hZ hP hD hS hA [0, 1, 2] rfl (by decide) rfl rfl) rfl rfl hl.1 rfl (lv_room (Nat.le_of_ble_eq_true rfl)) dL_law_2301 ⟨(Nat.le_of_ble_eq_true rfl), (Nat.le_of_ble_eq_true rfl)⟩) hP hD hS hA [0, 1, 2] [] rfl rfl (by decide) (by decide) (fun r4 q3 H locs hw hP hD hS => ?_)
  have hw : r4 = 0 := hw
  subst hw
  have hP : va_P G.1 pxCl [(a149, .inr (6, [.ref a150, .ref a151, .ref a152, .int 0, .ref a153, .int 0, .int 0, .int 1, .int 0, .ref a154, .int 0, .ref a155, .int 0, .int 0, .int 0, .int (-1), .ref a156, .ref a157, .int 0, .ref a158, .ref a159, .ref a160]))] H := hP
  have hD : va_D (fun q : Nat => s.heap.size ≤ q) [(a149, .inr (6, [.ref a150, .ref a151, .ref a152, .int 0, .ref a153, .int 0, .int 0, .int 1, .int 0, .ref a154, .int 0, .ref a155, .int 0, .int 0, .int 0, .int (-1), .ref a156, .ref a157, .int 0, .ref a158, .ref a159, .ref a160]))] := hD
  refine lv_istore (lv' := [(7, .int 0), (6, .int 1), (5, .int 0), (4, .ref a162), (3, .ref a161), (2, .ref a149), (1, .ref a1), (0, .ref b)]) hx hb dL_law_2304 hl (by decide) rfl (fun ls hl => ?_)
  refine lv_aload_n hx hb dL_law_2306 rfl (lv_at hl 5 rfl) ?_
  refine pxCi (va_runV (As := []) (rest := []) ⟨hx, hb, hml, hown, hts⟩ (k158_X7_thrown l G H.size a149 a150 a151 a152 a153 a154 a155 a156 a157 a158 a159 a160) (cwV 0 hts (pxGV pm160 pm161 pm162 pm71 pm163) rfl rfl rfl (by decide +kernel) ⟨(Nat.le_of_ble_eq_true rfl), (Nat.le_of_ble_eq_true rfl)⟩) (pxV (ci := 6) (q0 := 0) hG hZ hP hD hS hA [0] rfl (by decide) rfl rfl) rfl rfl hl.1 rfl (lv_room (Nat.le_of_ble_eq_true rfl)) dL_law_2307 ⟨(Nat.le_of_ble_eq_true rfl), (Nat.le_of_ble_eq_true rfl)⟩) hP hD hS hA [0] [] rfl rfl (by decide) (by decide) (fun r6 q5 H locs hw hP hD hS => ?_)
  have hw : r6 = 1 := hw
  subst hw
  have hP : va_P G.1 pxCl [(a149, .inr (6, [.ref a150, .ref a151, .ref a152, .int 0, .ref a153, .int 0, .int 0, .int 1, .int 0, .ref a154, .int 0, .ref a155, .int 0, .int 0, .int 0, .int (-1), .ref a156, .ref a157, .int 0, .ref a158, .ref a159, .ref a160]))] H := hP
  have hD : va_D (fun q : Nat => s.heap.size ≤ q) [(a149, .inr (6, [.ref a150, .ref a151, .ref a152, .int 0, .ref a153, .int 0, .int 0, .int 1, .int 0, .ref a154, .int 0, .ref a155, .int 0, .int 0, .int 0, .int (-1), .ref a156, .ref a157, .int 0, .ref a158, .ref a159, .ref a160]))] := hD
  refine lv_iload hx hb dL_law_2310 (lv_at hl 1 rfl) ?_
  refine lv_icmp_eq (tgt := 2317) hx hb dL_law_2312 (by decide) (fun _ => ?_) (fun h9 => absurd (by decide) h9)
  refine lv_iload hx hb dL_law_2317 (lv_at hl 1 rfl) ?_
  refine lv_if_ne (tgt := 2334) hx hb dL_law_2319 (by decide) (fun _ => ?_) (fun h9 => absurd h9 (by decide))
  refine lv_goto (tgt := 2658) hx hb dL_law_2334 (by decide) ?_
  refine W.widen (k := 2000) (n := 200000) (Nat.le_of_ble_eq_true rfl) (Nat.le_of_ble_eq_true rfl) ?_
  exact law_tail hl9 G C0 hG hZ H locs hS ls (lv_sub hl [2, 7] rfl)
