theorem dL_law_37 : decode cL_law 37 = .ok (.aload_n 0, 1) := by decide +kernel
theorem dL_law_38 : decode cL_law 38 = .ok (.iload 5, 2) := by decide +kernel
theorem dL_law_40 : decode cL_law 40 = .ok (.iaload, 1) := by decide +kernel
theorem dL_law_41 : decode cL_law 41 = .ok (.bipush 63, 2) := by decide +kernel
theorem dL_law_43 : decode cL_law 43 = .ok (.iand, 1) := by decide +kernel
theorem dL_law_44 : decode cL_law 44 = .ok (.tableswitch 2614 0 36 #[164, 220, 300, 392, 472, 540, 596, 664, 732, 800, 868, 948, 1004, 1048, 1061, 1105, 1173, 1253, 1321, 1417, 1504, 1596, 1676, 1732, 1822, 1890, 1955, 1998, 2066, 2121, 2201, 2293, 2389, 2457, 2513, 2557, 2570], 164) := by decide +kernel
theorem pxRc {args : Array Value} {s : State} {t : FieldType} (h : (Cond.arrayClass t).before args s = true) (ho : ∀ C, t ≠ .object C) : ∃ c : ClassId, ArrOfT s c t ∧ va_RA s c t := by
  obtain ⟨c, k, comp, h1, h2, h3⟩ := Cond.arrayClass_spec h
  refine ⟨c, fun N z => ⟨(fun q hq => by cases hq), k, h2, comp, h3⟩, ?_⟩
  cases t <;> first | exact h1 | exact absurd rfl (ho _)
theorem pxRo {args : Array Value} {s : State} {C : String} (h : (Cond.arrayOver (.object C)).before args s = true) : ∃ c : ClassId, ArrOfT s c (.object C) ∧ va_RA s c (.object C) := by
  obtain ⟨comp, c, k, h1, h2, h3, h4, h5⟩ := Cond.arrayOver_spec h
  exact ⟨c, fun N z => ⟨(fun q hq => by cases hq), k, h3, comp, h4⟩, k, comp, h3, h4, h1, h5⟩
theorem pxEx {args : Array Value} {s : State} {t : Term} {C : String} (h : (Cond.exactly t C).before args s = true) : ∃ a : Nat, t.eval args s none [] s = some (.ref a) := by
  obtain ⟨a, c, cell, k, q1, -⟩ := Cond.exactly_spec h
  exact ⟨a, q1⟩
set_option maxHeartbeats 4000000 in
set_option maxRecDepth 100000 in
/-- what the Statement gives of the start, in the words of part 03 -/
theorem pxStart {p : Program} {s : State} {m : MethodId} {meth : Method} {c : Code} {b L : Nat} {xs : Nat → Int32} (C0 : lw_At p s m meth c b L xs) : ∃ G : pxG, pxOk G s ∧ pxE G (fun q : Nat => s.heap.size ≤ q) s s.heap ∧ pxZ (fun q : Nat => s.heap.size ≤ q) s s.heap := by
  obtain ⟨hx, hb, hr, hml, hown, hts0, hX, hbl, hlocks, hgv⟩ := C0
  have hts : ∀ w ∈ pxAll, w.before #[Value.ref b] s = true := fun w h => hts0 w (List.mem_filter.mp h).1
  have hs := flat_of_before _ hgv
  have hA9 : ∀ a : Nat, a < s.heap.size → ¬ (fun q : Nat => s.heap.size ≤ q) a := fun a h9 => Nat.not_le.mpr h9
  obtain ⟨c0, iS0, hKn0⟩ := u_known (C := RX1) (T := TX1) (N := 4) (n := 4) hts piX1 (hts _ pm59)
  obtain ⟨c1, iS1, hKn1⟩ := u_known (C := RX2) (T := TX2) (N := 3) (n := 3) hts piX2 (hts _ pm34)
  obtain ⟨c2, iS2, hKn2⟩ := u_known (C := RX3) (T := TX3) (N := 10) (n := 10) hts piX3 (hts _ pm7)
  obtain ⟨c3, iS3, hKn3⟩ := u_known (C := RX4) (T := TX4) (N := 4) (n := 4) hts piX4 (hts _ pm21)
  obtain ⟨c4, iS4, hKn4⟩ := u_known (C := RX5) (T := TX5) (N := 6) (n := 6) hts piX5 (hts _ pm46)
  obtain ⟨c5, iS5, hKn5⟩ := u_known (C := RX6) (T := TX6) (N := 8) (n := 8) hts piX6 (hts _ pm1)
  obtain ⟨c6, iS6, hKn6⟩ := u_known (C := RX7) (T := TX7) (N := 22) (n := 22) hts piX7 (hts _ pm70)
  obtain ⟨y0, hy0⟩ := pxRc (t := .int) (hts _ pm12) (fun C h => by cases h)
  obtain ⟨y1, hy1⟩ := pxRc (t := .long) (hts _ pm19) (fun C h => by cases h)
  obtain ⟨y2, hy2⟩ := pxRc (t := .char) (hts _ pm49) (fun C h => by cases h)
  obtain ⟨y3, hy3⟩ := pxRc (t := .double) (hts _ pm89) (fun C h => by cases h)
  have ho0 := hts0 (.arrayOver (.object "MortgageRegister$Row")) (List.mem_of_getElem? (i := 127) (by decide +kernel))
  obtain ⟨y4, hy4⟩ := pxRo ho0
  have ho1 := hts0 (.arrayOver (.object "MortgageRegister$Ledger")) (List.mem_of_getElem? (i := 186) (by decide +kernel))
  obtain ⟨y5, hy5⟩ := pxRo ho1
  have ho2 := hts0 (.arrayOver (.object "MortgageRegister$Drawer")) (List.mem_of_getElem? (i := 225) (by decide +kernel))
  obtain ⟨y6, hy6⟩ := pxRo ho2
  obtain ⟨t0, ht0⟩ := pxEx (hs (.exactly (.string "MortgageRegister" 93) "java/lang/String") (by decide +kernel))
  obtain ⟨t1, ht1⟩ := pxEx (hs (.exactly (.string "MortgageRegister" 128) "java/lang/String") (by decide +kernel))
  obtain ⟨t2, ht2⟩ := pxEx (hs (.exactly (.string "MortgageRegister" 152) "java/lang/String") (by decide +kernel))
  obtain ⟨t3, ht3⟩ := pxEx (hs (.exactly (.string "MortgageRegister" 278) "java/lang/String") (by decide +kernel))
  obtain ⟨t4, ht4⟩ := pxEx (hs (.exactly (.string "MortgageRegister" 292) "java/lang/String") (by decide +kernel))
  obtain ⟨t5, ht5⟩ := pxEx (hs (.exactly (.string "MortgageRegister" 286) "java/lang/String") (by decide +kernel))
  obtain ⟨t6, ht6⟩ := pxEx (hs (.exactly (.string "MortgageRegister" 262) "java/lang/String") (by decide +kernel))
  obtain ⟨t7, ht7⟩ := pxEx (hs (.exactly (.string "MortgageRegister" 267) "java/lang/String") (by decide +kernel))
  obtain ⟨t8, ht8⟩ := pxEx (hs (.exactly (.string "MortgageRegister" 344) "java/lang/String") (by decide +kernel))
  obtain ⟨t9, ht9⟩ := pxEx (hs (.exactly (.string "MortgageRegister" 302) "java/lang/String") (by decide +kernel))
  obtain ⟨t10, ht10⟩ := pxEx (hs (.exactly (.string "MortgageRegister" 346) "java/lang/String") (by decide +kernel))
  obtain ⟨t11, ht11⟩ := pxEx (hs (.exactly (.string "MortgageRegister" 339) "java/lang/String") (by decide +kernel))
  obtain ⟨t12, ht12⟩ := pxEx (hs (.exactly (.string "MortgageRegister" 366) "java/lang/String") (by decide +kernel))
  obtain ⟨t13, ht13⟩ := pxEx (hs (.exactly (.string "MortgageRegister" 368) "java/lang/String") (by decide +kernel))
  obtain ⟨t14, ht14⟩ := pxEx (hs (.exactly (.string "MortgageRegister" 377) "java/lang/String") (by decide +kernel))
  obtain ⟨t16, ht16⟩ := pxEx (hs (.exactly (.string "MortgageRegister" 107) "java/lang/String") (by decide +kernel))
  obtain ⟨adK, adV, hvS, hev⟩ := vk_Sof (args := #[Value.ref b]) (s := s) (N := 1) (tm := fun _ => (Term.string "MortgageRegister$Text" 58)) (len := [0]) (byt := [[]]) (A := (fun q : Nat => s.heap.size ≤ q)) (fun i hi => by revert i hi; decide) (fun i _ => hs (.exactly (Term.string "MortgageRegister$Text" 58) "java/lang/String") (by decide +kernel)) (fun i _ => hs (.eq (.field (Term.string "MortgageRegister$Text" 58) "java/lang/String" "coder" "B") (.int 0)) (by decide +kernel)) (fun i _ => hs (.arrayOf (.field (Term.string "MortgageRegister$Text" 58) "java/lang/String" "value" "[B") .byte) (by decide +kernel)) (fun i hi => by have e : i = 0 := (by omega); subst e; exact hs (.eq (.length (.field (Term.string "MortgageRegister$Text" 58) "java/lang/String" "value" "[B")) (.int 0)) (by decide +kernel)) (fun i hi j hj => by have e : i = 0 := (by omega); subst e; exact absurd hj (Nat.not_lt_zero j)) (fun i j hi hj n => absurd (by omega) n) hA9
  have ht15 := hev 0 (by decide)
  let G : pxG := ((fun k => ([c0, c1, c2, c3, c4, c5, c6] : List Nat).getD k 0, fun k => ([iS0, iS1, iS2, iS3, iS4, iS5, iS6] : List (Nat → Nat)).getD k iS0), fun k => ([y0, y1, y2, y3, y4, y5, y6] : List Nat).getD k 0, fun k => if k = 99 then adV 0 else ([t0, t1, t2, t3, t4, t5, t6, t7, t8, t9, t10, t11, t12, t13, t14, adK 0, t16] : List Nat).getD k 0)
  refine ⟨G, ⟨⟨fun k q hq => ?_, fun k q hq => ?_⟩, fun q hq => ?_, fun q hq => ?_, fun q hq => ?_, fun k q hq => ?_, fun q hq => ?_, va_AO.of ho0, va_AO.of ho1, va_AO.of ho2⟩, ?_, ?_⟩
  · match k, hq with
    | 0, hq => cases hq; exact hKn0
    | 1, hq => cases hq; exact hKn1
    | 2, hq => cases hq; exact hKn2
    | 3, hq => cases hq; exact hKn3
    | 4, hq => cases hq; exact hKn4
    | 5, hq => cases hq; exact hKn5
    | 6, hq => cases hq; exact hKn6
    | k + 7, hq => simp at hq
  · match k, hq with
    | 0, hq => cases hq; exact hy0
    | 1, hq => cases hq; exact hy1
    | 2, hq => cases hq; exact hy2
    | 3, hq => cases hq; exact hy3
    | 4, hq => cases hq; exact hy4
    | 5, hq => cases hq; exact hy5
    | 6, hq => cases hq; exact hy6
    | k + 7, hq => simp at hq
  · simp only [pxBadM, List.mem_cons, List.not_mem_nil, or_false] at hq
    rcases hq with rfl | rfl | rfl
    · exact va_Nw.of rfl (hts0 _ (List.mem_of_getElem? (i := 200) (by decide +kernel)))
    · exact va_Nw.of rfl (hts0 _ (List.mem_of_getElem? (i := 227) (by decide +kernel)))
    · exact va_Nw.of rfl (hts0 _ (List.mem_of_getElem? (i := 129) (by decide +kernel)))
  · simp only [pxBadC, List.mem_cons, List.not_mem_nil, or_false] at hq
    rcases hq with rfl | rfl | rfl | rfl | rfl | rfl
    · exact va_Nw.of rfl (hts0 _ (List.mem_of_getElem? (i := 341) (by decide +kernel)))
    · exact va_Nw.of rfl (hts0 _ (List.mem_of_getElem? (i := 681) (by decide +kernel)))
    · exact va_Nw.of rfl (hts0 _ (List.mem_of_getElem? (i := 701) (by decide +kernel)))
    · exact va_Nw.of rfl (hts0 _ (List.mem_of_getElem? (i := 903) (by decide +kernel)))
    · exact va_Nw.of rfl (hts0 _ (List.mem_of_getElem? (i := 1085) (by decide +kernel)))
    · exact va_Nw.of rfl (hts0 _ (List.mem_of_getElem? (i := 851) (by decide +kernel)))
  · simp only [pxBadD, List.mem_cons, List.not_mem_nil, or_false] at hq
    rcases hq with rfl | rfl | rfl
    · exact va_Nw.of rfl (hts0 _ (List.mem_of_getElem? (i := 343) (by decide +kernel)))
    · exact va_Nw.of rfl (hts0 _ (List.mem_of_getElem? (i := 345) (by decide +kernel)))
    · exact va_Nw.of rfl (hts0 _ (List.mem_of_getElem? (i := 347) (by decide +kernel)))
  · match k, hq with
    | 0, hq => cases hq; exact vk_R.of (hts0 _ (List.mem_of_getElem? (i := 384) (by decide +kernel))) ht0
    | 1, hq => cases hq; exact vk_R.of (hts0 _ (List.mem_of_getElem? (i := 820) (by decide +kernel))) ht1
    | 2, hq => cases hq; exact vk_R.of (hts0 _ (List.mem_of_getElem? (i := 858) (by decide +kernel))) ht2
    | 3, hq => cases hq; exact vk_R.of (hts0 _ (List.mem_of_getElem? (i := 910) (by decide +kernel))) ht3
    | 4, hq => cases hq; exact vk_R.of (hts0 _ (List.mem_of_getElem? (i := 966) (by decide +kernel))) ht4
    | 5, hq => cases hq; exact vk_R.of (hts0 _ (List.mem_of_getElem? (i := 1100) (by decide +kernel))) ht5
    | 6, hq => cases hq; exact vk_R.of (hts0 _ (List.mem_of_getElem? (i := 1130) (by decide +kernel))) ht6
    | 7, hq => cases hq; exact vk_R.of (hts0 _ (List.mem_of_getElem? (i := 1146) (by decide +kernel))) ht7
    | 8, hq => cases hq; exact vk_R.of (hts0 _ (List.mem_of_getElem? (i := 1162) (by decide +kernel))) ht8
    | 9, hq => cases hq; exact vk_R.of (hts0 _ (List.mem_of_getElem? (i := 1166) (by decide +kernel))) ht9
    | 10, hq => cases hq; exact vk_R.of (hts0 _ (List.mem_of_getElem? (i := 1187) (by decide +kernel))) ht10
    | 11, hq => cases hq; exact vk_R.of (hts0 _ (List.mem_of_getElem? (i := 1227) (by decide +kernel))) ht11
    | 12, hq => cases hq; exact vk_R.of (hts0 _ (List.mem_of_getElem? (i := 1260) (by decide +kernel))) ht12
    | 13, hq => cases hq; exact vk_R.of (hts0 _ (List.mem_of_getElem? (i := 1268) (by decide +kernel))) ht13
    | 14, hq => cases hq; exact vk_R.of (hts0 _ (List.mem_of_getElem? (i := 1280) (by decide +kernel))) ht14
    | 15, hq => cases hq; exact vk_R.of (hts0 _ (List.mem_of_getElem? (i := 752) (by decide +kernel))) ht15
    | 16, hq => cases hq; exact vk_R.of (hts0 _ (List.mem_of_getElem? (i := 688) (by decide +kernel))) ht16
    | k + 17, hq => simp [pxStr] at hq
  · simp only [pxNc, List.mem_cons, List.not_mem_nil, or_false] at hq
    rcases hq with rfl | rfl
    · exact va_Nc.of (hs (.not (.castable "java/lang/IllegalArgumentException" "java/lang/IndexOutOfBoundsException")) (by decide +kernel))
    · exact va_Nc.of (hs (.not (.castable "java/lang/IllegalStateException" "java/lang/IndexOutOfBoundsException")) (by decide +kernel))
  · obtain ⟨e1, -, e3, e4⟩ := hvS.1 0 (by decide)
    exact ⟨e1, e3, _, e4⟩
  · exact ⟨vx_Zqof (hts0 _ (List.mem_of_getElem? (i := 366) (by decide +kernel))) (hts0 _ (List.mem_of_getElem? (i := 93) (by decide +kernel))) (hs (.isRef (.static Bundle.tN "UNASSIGNED_STACK" Bundle.steD)) (by decide +kernel)) hA9, vx_Zqof (hts0 _ (List.mem_of_getElem? (i := 368) (by decide +kernel))) (hts0 _ (List.mem_of_getElem? (i := 93) (by decide +kernel))) (hs (.isRef (.static Bundle.tN "SUPPRESSED_SENTINEL" Bundle.listD)) (by decide +kernel)) hA9⟩
