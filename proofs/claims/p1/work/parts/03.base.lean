/-! WHAT ALL METHODS SHARE: the classes, the kinds of rows, what the tables say, the words -/
abbrev pxCl : List vw_C := [(RX1, TX1, 4), (RX2, TX2, 3), (RX3, TX3, 10), (RX4, TX4, 4), (RX5, TX5, 6), (RX6, TX6, 8), (RX7, TX7, 22)]
/-- class numbers and slots; the rows' classes; where the texts lie -/
abbrev pxG : Type := va_G × (Nat → ClassId) × (Nat → Nat)
abbrev pxTys (G : pxG) : List (ClassId × FieldType) := [(G.2.1 0, .int), (G.2.1 1, .long), (G.2.1 2, .char), (G.2.1 3, .double), (G.2.1 4, .object "MortgageRegister$Row"), (G.2.1 5, .object "MortgageRegister$Ledger"), (G.2.1 6, .object "MortgageRegister$Drawer")]
abbrev pxIS (y : String) : MethodName := ⟨y, "<init>", "(Ljava/lang/String;)V"⟩
def pxBadM : List (String × Nat × MethodName × String) := [("MortgageRegister", 28, yX5_init, "MortgageRegister"), ("MortgageRegister", 43, yX1_init, "MortgageRegister"), ("MortgageRegister$Ledger", 40, yX4_init, "MortgageRegister")]
def pxBadC : List String := ["java/lang/UnsupportedOperationException", "java/lang/IllegalArgumentException", "java/lang/IllegalStateException", "java/lang/IndexOutOfBoundsException", "java/lang/ArithmeticException", "java/util/NoSuchElementException"]
def pxBadD : List String := ["java/lang/RuntimeException", "java/lang/Exception", "java/lang/Throwable"]
def pxStr : List (String × Nat × String) := [("MortgageRegister", 93, "refused"), ("MortgageRegister", 128, "the text has a fault"), ("MortgageRegister", 152, "nothing was refused"), ("MortgageRegister", 278, "no such parcel"), ("MortgageRegister", 292, "no such mortgage"), ("MortgageRegister", 286, "no parcels"), ("MortgageRegister", 262, "no such creditor"), ("MortgageRegister", 267, "no such account"), ("MortgageRegister", 344, "no such drawer"), ("MortgageRegister", 302, "sort or places out of range"), ("MortgageRegister", 346, "no such place"), ("MortgageRegister", 339, "the drawer is empty"), ("MortgageRegister", 366, "no such count"), ("MortgageRegister", 368, "no change is kept"), ("MortgageRegister", 377, "no snapshot"), ("MortgageRegister$Text", 58, ""), ("MortgageRegister", 107, "not one to four characters")]
def pxNc : List (String × String) := [("java/lang/IllegalArgumentException", "java/lang/IndexOutOfBoundsException"), ("java/lang/IllegalStateException", "java/lang/IndexOutOfBoundsException")]
def pxOk (G : pxG) (U : State) : Prop := va_K G.1 pxCl (pxTys G) U ∧ (∀ q ∈ pxBadM, va_Nw (.methodLinkNest q.1 q.2.1 q.2.2.1 q.2.2.2) U) ∧ (∀ q ∈ pxBadC, va_Nw (.castable q q) U) ∧ (∀ q ∈ pxBadD, va_Nw (.declares (pxIS q)) U) ∧ (∀ (k : Nat) (q : String × Nat × String), pxStr[k]? = some q → vk_R q.1 q.2.1 q.2.2 (G.2.2 k) U) ∧ (∀ q ∈ pxNc, va_Nc q.1 q.2 U) ∧ va_AO "MortgageRegister$Row" U ∧ va_AO "MortgageRegister$Ledger" U ∧ va_AO "MortgageRegister$Drawer" U
theorem pxOk.warm {G : pxG} {s U : State} (hW : s.WarmedH U.vm) (h : pxOk G s) : pxOk G U := by
  obtain ⟨h1, h2, h3, h4, h5, h6, h7, h8, h9⟩ := h
  exact ⟨h1.moved hW.alike, fun q hq => (h2 q hq).warmM hW, fun q hq => (h3 q hq).warmC hW, fun q hq => (h4 q hq).warmD hW, fun k q hq => (h5 k q hq).warm hW, fun q hq => (h6 q hq).moved hW.alike, h7.moved hW.alike, h8.moved hW.alike, h9.moved hW.alike⟩
theorem pxOk.same {G : pxG} {s U : State} (hv : s.vm = U.vm) (h : pxOk G s) : pxOk G U := by
  obtain ⟨h1, h2, h3, h4, h5, h6, h7, h8, h9⟩ := h
  have ha : s.vm.Alike U.vm := by rw [← hv]; exact Vm.Alike.refl s.vm
  exact ⟨h1.moved ha, fun q hq => (h2 q hq).same rfl hv, fun q hq => (h3 q hq).same rfl hv, fun q hq => (h4 q hq).same rfl hv, fun k q hq => (h5 k q hq).same hv.symm, fun q hq => (h6 q hq).moved ha, h7.moved ha, h8.moved ha, h9.moved ha⟩
/-- Throwable's two statics, apart from A -/
def pxZ (A : Nat → Prop) (U : State) (H : Heap) : Prop := vx_Zq Bundle.tN "UNASSIGNED_STACK" Bundle.steD A U H ∧ vx_Zq Bundle.tN "SUPPRESSED_SENTINEL" Bundle.listD A U H
theorem pxZ.moved {A : Nat → Prop} {u U : State} {H : Heap} (hvm : u.vm.Alike U.vm) (h : pxZ A u H) : pxZ A U H := ⟨h.1.moved hvm, h.2.moved hvm⟩
theorem pxZ.kept {A : Nat → Prop} {U : State} {H H1 : Heap} (h : pxZ A U H) (hq : ∀ a : Nat, a < H.size → ¬ A a → H1[a]? = H[a]?) : pxZ A U H1 := ⟨h.1.kept hq, h.2.kept hq⟩
theorem pxZ.narrow {A B : Nat → Prop} {U : State} {H : Heap} (h : pxZ A U H) (hAB : ∀ q, B q → A q) : pxZ B U H := ⟨h.1.narrow hAB, h.2.narrow hAB⟩
/-- a method's start: its cells, apart, in a heap of sz cells -/
def pxPre (G : pxG) (ws : va_W) (sz : Nat) (U : State) : Prop := U.heap.size = sz ∧ pxOk G U ∧ pxZ (va_A ws sz) U U.heap ∧ va_P G.1 pxCl ws U.heap ∧ va_D (fun _ => True) ws
theorem pxBlind {G : pxG} {ws : va_W} {sz : Nat} {av : List Value} : FrameBlind (va_Pc av (pxPre G ws sz)) := by
  intro a U g mk h
  obtain ⟨h0, h1, h2, h3, h4, h5⟩ := h
  exact ⟨h0, h1, h2.same (U := U.calling g mk a) rfl, h3.moved (u := U) (U := U.calling g mk a) (Vm.Alike.refl U.vm), h4, h5⟩
/-- its end: its cells, and new ones -/
abbrev pxB (G : pxG) (A : Nat → Prop) (ws : va_W) (t : State) : Prop := va_P G.1 pxCl ws t.heap ∧ va_D A ws
abbrev pxQi (G : pxG) (post : Int32 → Prop) (wo : (Nat → Nat) → va_W) (A : Nat → Prop) : Array Value → State → Outcome → State → Prop := va_Qi (fun (r : Int32) (_ : Nat → Nat) => post r) (fun q t => pxB G A (wo q) t) A
abbrev pxQl (G : pxG) (post : Int64 → Prop) (wo : (Nat → Nat) → va_W) (A : Nat → Prop) : Array Value → State → Outcome → State → Prop := va_Ql (fun (r : Int64) (_ : Nat → Nat) => post r) (fun q t => pxB G A (wo q) t) A
abbrev pxQf (G : pxG) (post : UInt32 → Prop) (wo : (Nat → Nat) → va_W) (A : Nat → Prop) : Array Value → State → Outcome → State → Prop := va_Qf (fun (r : UInt32) (_ : Nat → Nat) => post r) (fun q t => pxB G A (wo q) t) A
abbrev pxQd (G : pxG) (post : UInt64 → Prop) (wo : (Nat → Nat) → va_W) (A : Nat → Prop) : Array Value → State → Outcome → State → Prop := va_Qd (fun (r : UInt64) (_ : Nat → Nat) => post r) (fun q t => pxB G A (wo q) t) A
abbrev pxQv (G : pxG) (wo : (Nat → Nat) → va_W) (A : Nat → Prop) : Array Value → State → Outcome → State → Prop := va_Qv (fun (_ : Nat → Nat) => True) (fun q t => pxB G A (wo q) t) A
/-- .. that throws: the class, and what may have changed -/
def pxXC (E : String) (A : Nat → Prop) : String → State → State → Prop := fun E9 s t => E9 = E ∧ va_F A s t
abbrev pxF : Array Value → State → Outcome → State → Prop := fun _ _ _ _ => False
abbrev pxAll : List Cond := lw_tbl.filter goodWord
theorem pxM {w : Cond} (k : Nat) (h : lw_tbl[k]? = some w) (hg : goodWord w = true) : w ∈ pxAll := List.mem_filter.mpr ⟨List.mem_of_getElem? h, hg⟩
theorem pxGood {ws : List Cond} (h : ∀ w ∈ ws, w ∈ pxAll) : GoodIn pxAll ws := fun w hw => ⟨h w hw, good_of_word (List.mem_filter.mp (h w hw)).2⟩
theorem pxAllIn : ∀ w ∈ pxAll, w ∈ pxAll := fun _ h => h
theorem pxC {w : Cond} (h : w ∈ pxAll) : ∀ v ∈ w :: pxAll, v ∈ pxAll := List.forall_mem_cons.mpr ⟨h, pxAllIn⟩
theorem pxGI {w : Cond} (h : w ∈ pxAll) : GoodIn pxAll (w :: pxAll) := pxGood (pxC h)
theorem pxGV {own C : String} {idx : Nat} {y : MethodName} {w : Cond} (h1 : Cond.methodLink own idx y ∈ pxAll) (h2 : Cond.instanceMethod y ∈ pxAll) (h3 : Cond.selects C y y ∈ pxAll) (h4 : Cond.initialized C ∈ pxAll) (h : w ∈ pxAll) : GoodIn pxAll (wsV own idx C y (w :: pxAll)) :=
  pxGood (List.forall_mem_cons.mpr ⟨h1, List.forall_mem_cons.mpr ⟨h2, List.forall_mem_cons.mpr ⟨h3, List.forall_mem_cons.mpr ⟨h4, pxC h⟩⟩⟩⟩)
theorem pxGS {own : String} {idx : Nat} {y : MethodName} {w : Cond} (h1 : Cond.methodLink own idx y ∈ pxAll) (h2 : Cond.static y ∈ pxAll) (h4 : Cond.initialized y.cls ∈ pxAll) (h : w ∈ pxAll) : GoodIn pxAll (va_wsS own idx y (w :: pxAll)) :=
  pxGood (List.forall_mem_cons.mpr ⟨h1, List.forall_mem_cons.mpr ⟨h2, List.forall_mem_cons.mpr ⟨h4, pxC h⟩⟩⟩)
/-- the words of a throw -/
theorem pxThr {args : Array Value} {s : State} {G : pxG} {own E : String} {ic : Nat} (hE : E ∈ pxBadC) (hts : ∀ w ∈ pxAll, w.before args s = true) (hG : pxOk G s)
    (hx : ∀ w ∈ (vx_atS own ic E ["java/lang/RuntimeException", "java/lang/Exception"]).filter goodWord, w ∈ lw_tbl)
    (hb : ∀ w ∈ (vx_atS own ic E ["java/lang/RuntimeException", "java/lang/Exception"]).filter (fun w => !goodWord w), w ∈ ([.castable E E, .declares (pxIS "java/lang/RuntimeException"), .declares (pxIS "java/lang/Exception"), .declares (pxIS "java/lang/Throwable")] : List Cond)) :
    ∀ w ∈ vx_atS own ic E ["java/lang/RuntimeException", "java/lang/Exception"], w.before args s = true :=
  vx_hat (fun w hw => hts w (List.mem_filter.mpr ⟨hx w hw, (List.mem_filter.mp hw).2⟩)) hb
    (vx_c (va_Nw.use rfl (hG.2.2.1 E hE)) (vx_c (va_Nw.use rfl (hG.2.2.2.1 "java/lang/RuntimeException" (by decide))) (vx_c (va_Nw.use rfl (hG.2.2.2.1 "java/lang/Exception" (by decide))) (vx_c (va_Nw.use rfl (hG.2.2.2.1 "java/lang/Throwable" (by decide))) vx_n))))
abbrev pxR (ws : va_W) (is : List Nat) : va_W := is.filterMap (fun i => ws[i]?)
theorem pxMap {ws : va_W} : ∀ {is : List Nat}, is.all (fun i => decide (i < ws.length)) = true → is.map (fun i => ws[i]?) = (pxR ws is).map some
  | [], _ => rfl
  | i :: is, h => by
    rw [List.all_cons, Bool.and_eq_true, decide_eq_true_eq] at h
    have ih := pxMap h.2
    have hi : ws[i]? = some ws[i] := List.getElem?_eq_getElem h.1
    show ws[i]? :: is.map (fun i => ws[i]?) = _
    rw [ih]
    show _ = ((i :: is).filterMap (fun i => ws[i]?)).map some
    rw [List.filterMap_cons, hi]
    rfl
section PXW
variable {p : Program} {l : Launch} {e : Env} {R : Room} {s : State} {m : MethodId} {args : Array Value} {below : List Frame} {meth : Method} {c : Code} {H : Heap} {locs : List Loc} {cells slots : Nat} {Q : State → Prop}
variable {cc : ByteArray} {pc : Nat} {ls : Array Slot} {rest st0 : List Value} {G : pxG} {A : Nat → Prop} {ws wc wr : va_W} {mc ms : Nat}
theorem pxTop {v w : Value} (h : v = w) (k : W p l e R s m args below meth c H locs cells slots Q (F0 m pc ls (w :: rest))) : W p l e R s m args below meth c H locs cells slots Q (F0 m pc ls (v :: rest)) := by
  subst h; exact k
/-- a new row of numbers -/
theorem pxNewa (hexec : p.tables.exec = Jvm.exec) (hb : c.code = cc) {atype : ArrayType} (harr : (Cond.arrayClass (newarray.typeOf atype)).before args s = true) {ty : FieldType} (hty : newarray.typeOf atype = ty) (hG : pxOk G s) (hP : va_P G.1 pxCl ws H) (hD : va_D A ws) (hS : va_S A s.heap H locs) (hA : ∀ q, s.heap.size ≤ q → A q)
    (k0 : Nat) {cy : ClassId} (hk0 : (pxTys G)[k0]? = some (cy, ty)) {n : Int32} {N' : Nat} {a0 : vp_A} (ha : ∀ cA : ClassId, vp_cell cA a0 = arrV cA N' (fun _ => defaultValue ty)) (hn : ¬ n < 0) (hN : n.toNatClampNeg = N') (hbytes : N' * componentBytes ty ≤ 536870912) (hcells : cells + 1 ≤ R.cells) (hslots : slots + N' ≤ R.slots) (hdg : decode cc pc = .ok (.newarray atype, 2))
    (kk : ∀ (q : Nat) (H1 : Heap), va_P G.1 pxCl (ws ++ [(q, .inl (cy, a0))]) H1 → va_D A (ws ++ [(q, .inl (cy, a0))]) → va_S A s.heap H1 locs →
      W p l e R s m args below meth c H1 locs (cells + 1) (slots + N') Q (F0 m (pc + 2) ls (.ref q :: rest))) : W p l e R s m args below meth c H locs cells slots Q (F0 m pc ls (.int n :: rest)) := by
  subst hty
  refine va_newa hexec hb harr rfl hG.1 hP hD hS hA ha hn hN hbytes hcells hslots hdg fun q cA H1 hK1 hP1 hD1 hS1 => ?_
  have e1 := (hG.1.2 k0 _ hk0).2
  have e2 := (hK1.2 (pxTys G).length (cA, newarray.typeOf atype) (by rw [List.getElem?_append_right (Nat.le_refl _), Nat.sub_self]; rfl)).2
  have e3 : cA = cy := by
    cases atype <;> exact Option.some.inj (Eq.trans (Eq.symm e2) e1)
  subst e3
  exact kk q H1 hP1 hD1 hS1
/-- a new row of references -/
theorem pxNewq (hexec : p.tables.exec = Jvm.exec) (hb : c.code = cc) {own C : String} {index : Nat} (hown : s.vm.findClass own = some m.cls) (hclink : (Cond.classLink own index C).before args s = true) (hover : va_AO C s) (hG : pxOk G s) (hP : va_P G.1 pxCl ws H) (hD : va_D A ws) (hS : va_S A s.heap H locs) (hA : ∀ q, s.heap.size ≤ q → A q)
    (k0 : Nat) {cy : ClassId} (hk0 : (pxTys G)[k0]? = some (cy, .object C)) {n : Int32} {N' : Nat} (hn : ¬ n < 0) (hN : n.toNatClampNeg = N') (hbytes : N' * 4 ≤ 536870912) (hcells : cells + 1 ≤ R.cells) (hslots : slots + N' ≤ R.slots) (hdg : decode cc pc = .ok (.anewarray index, 3))
    (kk : ∀ (q : Nat) (H1 : Heap), va_P G.1 pxCl (ws ++ [(q, .inl (cy, N', .inr (.inr (.inr (.inr (fun _ => none))))))]) H1 → va_D A (ws ++ [(q, .inl (cy, N', .inr (.inr (.inr (.inr (fun _ => none))))))]) → va_S A s.heap H1 locs →
      W p l e R s m args below meth c H1 locs (cells + 1) (slots + N') Q (F0 m (pc + 3) ls (.ref q :: rest))) : W p l e R s m args below meth c H locs cells slots Q (F0 m pc ls (.int n :: rest)) := by
  refine va_newq hexec hb hown hclink hover hG.1 hP hD hS hA hn hN hbytes hcells hslots hdg fun q cA H1 hK1 hP1 hD1 hS1 => ?_
  have e1 := (hG.1.2 k0 _ hk0).2
  have e2 := (hK1.2 (pxTys G).length (cA, .object C) (by rw [List.getElem?_append_right (Nat.le_refl _), Nat.sub_self]; rfl)).2
  have e3 : cA = cy := by
    obtain ⟨-, -, -, -, -, e4⟩ := e1
    obtain ⟨-, -, -, -, -, e5⟩ := e2
    exact Option.some.inj (e5.symm.trans e4)
  subst e3
  exact kk q H1 hP1 hD1 hS1
/-- what a callee's start asks -/
theorem pxS (hG : pxOk G s) (hZ : pxZ A s s.heap) (hP : va_P G.1 pxCl ws H) (hD : va_D A ws) (hS : va_S A s.heap H locs) (hA : ∀ q, s.heap.size ≤ q → A q) {As : List Value} (isC : List Nat) (hC : isC.map (fun i => ws[i]?) = wc.map some) (hn : va_nd isC = true) : PreS s H (va_Pc As (pxPre G wc H.size)) As := by
  have hF := va_free (wc := wc) hD hS hA isC hC
  have hPc : va_P G.1 pxCl wc H := hP.sub isC (by
    have h : (isC.map (fun i => ws[i]?)).filterMap id = (wc.map some).filterMap id := by rw [hC]
    rw [List.filterMap_map, List.filterMap_map] at h
    have h2 : wc.filterMap (id ∘ some) = wc := by
      have h3 : (id ∘ some : (Nat × va_E) → Option (Nat × va_E)) = some := rfl
      rw [h3, List.filterMap_some]
    rw [h2] at h
    exact h)
  refine ⟨pxBlind, fun U hU hW => ⟨rfl, by rw [hU], hG.warm hW, ?_, by rw [hU]; exact hPc, ((hD.sub isC hn hC).weaken (fun _ _ _ _ => trivial))⟩⟩
  rw [hU]
  exact ((hZ.kept hS.2.1).narrow hF).moved hW.alike
theorem pxV (hG : pxOk G s) (hZ : pxZ A s s.heap) (hP : va_P G.1 pxCl ws H) (hD : va_D A ws) (hS : va_S A s.heap H locs) (hA : ∀ q, s.heap.size ≤ q → A q) {As : List Value} (isC : List Nat) (hC : isC.map (fun i => ws[i]?) = wc.map some) (hn : va_nd isC = true) {b ci q0 : Nat} {q : vw_C} {fs : List Value} (hc : pxCl[ci]? = some q) (he : ws[q0]? = some (b, .inr (ci, fs))) : PreV s H q.1 b (va_Pc (.ref b :: As) (pxPre G wc H.size)) As := by
  have h := pxS hG hZ hP hD hS hA (As := .ref b :: As) isC hC hn
  exact ⟨h.1, va_recv hG.1 hP hc he, h.2⟩
/-- behind a call: the other cells as they were, the callee's, and its new ones -/
theorem pxJ (hP : va_P G.1 pxCl ws H) (hD : va_D A ws) (hS : va_S A s.heap H locs) (hA : ∀ q, s.heap.size ≤ q → A q) (isC isR : List Nat) (hC : isC.map (fun i => ws[i]?) = wc.map some) (hR : isR.map (fun i => ws[i]?) = wr.map some) (hn : va_nd isR = true) (hdis : ∀ i ∈ isR, i ∉ isC) {w1 : va_W} {t : State} {H1 : Heap} (ht : t.heap = H1)
    (hk : ∀ q : Nat, q < H.size → ¬ va_A wc H.size q → H1[q]? = H[q]?) (hB : pxB G (va_A wc H.size) w1 t) : va_P G.1 pxCl (wr ++ w1) H1 ∧ va_D A (wr ++ w1) := by
  subst ht
  exact va_join hP hD isC isR hC hR hn hdis hk (va_free (wc := wc) hD hS hA isC hC) hB.1 hB.2
theorem pxCi {post : Int32 → Prop} {wo : (Nat → Nat) → va_W} {a : Array Value} (hr : va_Run p l e R s m args below meth c H locs cells slots mc ms (F0 m pc ls st0) rest (pxQi G post wo (va_A wc H.size) a) (va_A wc H.size)) (hP : va_P G.1 pxCl ws H) (hD : va_D A ws) (hS : va_S A s.heap H locs) (hA : ∀ q, s.heap.size ≤ q → A q) (isC isR : List Nat) (hC : isC.map (fun i => ws[i]?) = wc.map some) (hR : isR.all (fun i => decide (i < ws.length)) = true) (hn : va_nd isR = true) (hdis : ∀ i ∈ isR, i ∉ isC)
    (kk : ∀ (r : Int32) (q : Nat → Nat) (H1 : Heap) (locs1 : List Loc), post r → va_P G.1 pxCl (pxR ws isR ++ wo q) H1 → va_D A (pxR ws isR ++ wo q) → va_S A s.heap H1 locs1 → W p l e R s m args below meth c H1 locs1 (cells + mc) (slots + ms) Q (F0 m (pc + 3) ls (.int r :: rest))) : W p l e R s m args below meth c H locs cells slots Q (F0 m pc ls st0) := by
  have hF := va_free (wc := wc) hD hS hA isC hC
  refine va_calli hr hS (fun q _ h => hF q h) hF fun r q t H1 locs1 ht hvm hw hB hz1 hk1 hS1 => ?_
  obtain ⟨h1, h2⟩ := pxJ hP hD hS hA isC isR hC (pxMap hR) hn hdis ht hk1 hB
  exact kk r q H1 locs1 hw h1 h2 hS1
theorem pxCl' {post : Int64 → Prop} {wo : (Nat → Nat) → va_W} {a : Array Value} (hr : va_Run p l e R s m args below meth c H locs cells slots mc ms (F0 m pc ls st0) rest (pxQl G post wo (va_A wc H.size) a) (va_A wc H.size)) (hP : va_P G.1 pxCl ws H) (hD : va_D A ws) (hS : va_S A s.heap H locs) (hA : ∀ q, s.heap.size ≤ q → A q) (isC isR : List Nat) (hC : isC.map (fun i => ws[i]?) = wc.map some) (hR : isR.all (fun i => decide (i < ws.length)) = true) (hn : va_nd isR = true) (hdis : ∀ i ∈ isR, i ∉ isC)
    (kk : ∀ (r : Int64) (q : Nat → Nat) (H1 : Heap) (locs1 : List Loc), post r → va_P G.1 pxCl (pxR ws isR ++ wo q) H1 → va_D A (pxR ws isR ++ wo q) → va_S A s.heap H1 locs1 → W p l e R s m args below meth c H1 locs1 (cells + mc) (slots + ms) Q (F0 m (pc + 3) ls (.long r :: rest))) : W p l e R s m args below meth c H locs cells slots Q (F0 m pc ls st0) := by
  have hF := va_free (wc := wc) hD hS hA isC hC
  refine va_calll hr hS (fun q _ h => hF q h) hF fun r q t H1 locs1 ht hvm hw hB hz1 hk1 hS1 => ?_
  obtain ⟨h1, h2⟩ := pxJ hP hD hS hA isC isR hC (pxMap hR) hn hdis ht hk1 hB
  exact kk r q H1 locs1 hw h1 h2 hS1
theorem pxCf {post : UInt32 → Prop} {wo : (Nat → Nat) → va_W} {a : Array Value} (hr : va_Run p l e R s m args below meth c H locs cells slots mc ms (F0 m pc ls st0) rest (pxQf G post wo (va_A wc H.size) a) (va_A wc H.size)) (hP : va_P G.1 pxCl ws H) (hD : va_D A ws) (hS : va_S A s.heap H locs) (hA : ∀ q, s.heap.size ≤ q → A q) (isC isR : List Nat) (hC : isC.map (fun i => ws[i]?) = wc.map some) (hR : isR.all (fun i => decide (i < ws.length)) = true) (hn : va_nd isR = true) (hdis : ∀ i ∈ isR, i ∉ isC)
    (kk : ∀ (r : UInt32) (q : Nat → Nat) (H1 : Heap) (locs1 : List Loc), post r → va_P G.1 pxCl (pxR ws isR ++ wo q) H1 → va_D A (pxR ws isR ++ wo q) → va_S A s.heap H1 locs1 → W p l e R s m args below meth c H1 locs1 (cells + mc) (slots + ms) Q (F0 m (pc + 3) ls (.float r :: rest))) : W p l e R s m args below meth c H locs cells slots Q (F0 m pc ls st0) := by
  have hF := va_free (wc := wc) hD hS hA isC hC
  refine va_callf hr hS (fun q _ h => hF q h) hF fun r q t H1 locs1 ht hvm hw hB hz1 hk1 hS1 => ?_
  obtain ⟨h1, h2⟩ := pxJ hP hD hS hA isC isR hC (pxMap hR) hn hdis ht hk1 hB
  exact kk r q H1 locs1 hw h1 h2 hS1
theorem pxCd {post : UInt64 → Prop} {wo : (Nat → Nat) → va_W} {a : Array Value} (hr : va_Run p l e R s m args below meth c H locs cells slots mc ms (F0 m pc ls st0) rest (pxQd G post wo (va_A wc H.size) a) (va_A wc H.size)) (hP : va_P G.1 pxCl ws H) (hD : va_D A ws) (hS : va_S A s.heap H locs) (hA : ∀ q, s.heap.size ≤ q → A q) (isC isR : List Nat) (hC : isC.map (fun i => ws[i]?) = wc.map some) (hR : isR.all (fun i => decide (i < ws.length)) = true) (hn : va_nd isR = true) (hdis : ∀ i ∈ isR, i ∉ isC)
    (kk : ∀ (r : UInt64) (q : Nat → Nat) (H1 : Heap) (locs1 : List Loc), post r → va_P G.1 pxCl (pxR ws isR ++ wo q) H1 → va_D A (pxR ws isR ++ wo q) → va_S A s.heap H1 locs1 → W p l e R s m args below meth c H1 locs1 (cells + mc) (slots + ms) Q (F0 m (pc + 3) ls (.double r :: rest))) : W p l e R s m args below meth c H locs cells slots Q (F0 m pc ls st0) := by
  have hF := va_free (wc := wc) hD hS hA isC hC
  refine va_calld hr hS (fun q _ h => hF q h) hF fun r q t H1 locs1 ht hvm hw hB hz1 hk1 hS1 => ?_
  obtain ⟨h1, h2⟩ := pxJ hP hD hS hA isC isR hC (pxMap hR) hn hdis ht hk1 hB
  exact kk r q H1 locs1 hw h1 h2 hS1
theorem pxCv {wo : (Nat → Nat) → va_W} {a : Array Value} (hr : va_Run p l e R s m args below meth c H locs cells slots mc ms (F0 m pc ls st0) rest (pxQv G wo (va_A wc H.size) a) (va_A wc H.size)) (hP : va_P G.1 pxCl ws H) (hD : va_D A ws) (hS : va_S A s.heap H locs) (hA : ∀ q, s.heap.size ≤ q → A q) (isC isR : List Nat) (hC : isC.map (fun i => ws[i]?) = wc.map some) (hR : isR.all (fun i => decide (i < ws.length)) = true) (hn : va_nd isR = true) (hdis : ∀ i ∈ isR, i ∉ isC)
    (kk : ∀ (q : Nat → Nat) (H1 : Heap) (locs1 : List Loc), va_P G.1 pxCl (pxR ws isR ++ wo q) H1 → va_D A (pxR ws isR ++ wo q) → va_S A s.heap H1 locs1 → W p l e R s m args below meth c H1 locs1 (cells + mc) (slots + ms) Q (F0 m (pc + 3) ls rest)) : W p l e R s m args below meth c H locs cells slots Q (F0 m pc ls st0) := by
  have hF := va_free (wc := wc) hD hS hA isC hC
  refine va_callv hr hS (fun q _ h => hF q h) hF fun q t H1 locs1 ht hvm hw hB hz1 hk1 hS1 => ?_
  obtain ⟨h1, h2⟩ := pxJ hP hD hS hA isC isR hC (pxMap hR) hn hdis ht hk1 hB
  exact kk q H1 locs1 h1 h2 hS1
/-- a call that throws E -/
theorem pxCx {E : String} (hr : vx_Run p l e R s m args below meth c H locs cells slots mc ms (F0 m pc ls st0) rest (fun _ _ _ => False) (pxXC E (va_A wc H.size)) (va_A wc H.size)) (hD : va_D A ws) (hS : va_S A s.heap H locs) (hA : ∀ q, s.heap.size ≤ q → A q) (isC : List Nat) (hC : isC.map (fun i => ws[i]?) = wc.map some)
    (kx : ∀ (ce : Cell) (q9 : Addr) (H1 : Heap) (locs1 : List Loc), va_S A s.heap H1 locs1 → H1[q9]? = some ce → ce.vm = .none → s.vm.findClass E = some ce.cls → vx_W p l e R s m args below meth c H1 locs1 (cells + mc) (slots + ms) Q (F0 m pc ls rest) q9) : W p l e R s m args below meth c H locs cells slots Q (F0 m pc ls st0) := by
  have hF := va_free (wc := wc) hD hS hA isC hC
  intro T hT X
  rcases hr T hT X with ⟨v, st₀, t, T', L, h0, X', hL, e1, e2, hbad, st⟩ | ⟨q, st₀, t, T', L, E9, ce, h0, X', hL, e1, e2, ⟨rfl, hFr⟩, hce, hcv, hcl, st⟩
  · exact hbad.elim
  · obtain ⟨k1, k2, k3⟩ := vx_keep h0 e1 hS (fun q _ h => hF q h) hF hL hFr
    obtain ⟨t2, a1, b1⟩ := kx ce q T'.heap (locs ++ L) k3 (by rw [e1]; exact hce) hcv hcl T' rfl X'
    exact ⟨t2, st.trans a1, b1⟩
/-- what a throw leaves -/
theorem pxXe {E : String} (hS : va_S A s.heap H locs) : ∀ t : State, s.vm.Alike t.vm → H.size ≤ t.heap.size → (∀ q : Nat, q < H.size → t.heap[q]? = H[q]?) → pxXC E A E s t := fun t _ hsz hk => ⟨rfl, Nat.le_trans hS.1 hsz, fun q h1 h2 => (hk q (Nat.lt_of_lt_of_le h1 hS.1)).trans (hS.2.1 q h1 h2)⟩
end PXW
theorem pxLt {x y : Int32} (n : Int) (hy : y.toInt = n) (h : x.toInt < n) : x < y := Int32.lt_iff_toInt_lt.mpr (by rw [hy]; exact h)
theorem pxLt2 {x y : Int32} (n : Int) (hy : y.toInt = n) (h : n < x.toInt) : y < x := Int32.lt_iff_toInt_lt.mpr (by rw [hy]; exact h)
theorem pxNlt {x y : Int32} (n : Int) (hy : y.toInt = n) (h : n ≤ x.toInt) : ¬ x < y := fun q => by
  have := Int32.lt_iff_toInt_lt.mp q
  omega
theorem pxNlt2 {x y : Int32} (n : Int) (hy : y.toInt = n) (h : x.toInt ≤ n) : ¬ y < x := fun q => by
  have := Int32.lt_iff_toInt_lt.mp q
  omega
theorem pxLe {x y : Int32} (n : Int) (hy : y.toInt = n) (h : x.toInt ≤ n) : x ≤ y := Int32.le_iff_toInt_le.mpr (by rw [hy]; exact h)
theorem pxLe2 {x y : Int32} (n : Int) (hy : y.toInt = n) (h : n ≤ x.toInt) : y ≤ x := Int32.le_iff_toInt_le.mpr (by rw [hy]; exact h)
theorem pxNle {x y : Int32} (n : Int) (hy : y.toInt = n) (h : n < x.toInt) : ¬ x ≤ y := fun q => by
  have := Int32.le_iff_toInt_le.mp q
  omega
theorem pxNle2 {x y : Int32} (n : Int) (hy : y.toInt = n) (h : x.toInt < n) : ¬ y ≤ x := fun q => by
  have := Int32.le_iff_toInt_le.mp q
  omega
theorem pxNe {x y : Int32} (n : Int) (hy : y.toInt = n) (h : x.toInt < n ∨ n < x.toInt) : ¬ x = y := fun q => by
  subst q
  omega
theorem pxEq {x : Int32} (y : Int32) (h : y.toInt ≤ x.toInt ∧ x.toInt ≤ y.toInt) : x = y := Int32.toInt_inj.mp (by omega)
theorem pxAndM (x : Int32) : x &&& (-1) = x := by
  apply Int32.toBitVec_inj.mp
  show x.toBitVec &&& (-1 : Int32).toBitVec = x.toBitVec
  rw [show (-1 : Int32).toBitVec = BitVec.allOnes 32 from by decide]
  exact BitVec.and_allOnes
theorem pxCpy0 {α : Type} (v : α) (sp dp n : Nat) : va_cpy (fun _ => v) (fun _ => v) sp dp n = fun _ => v := by
  funext k
  unfold va_cpy
  split <;> rfl
theorem pxFit {ty : FieldType} {f : Nat → Int32} {sp : Nat} (n : Nat) (h : fits ty (.int 0) = true) (hf : f = fun _ => 0) : ∀ i, i < n → fits ty (.int (f (sp + i))) = true := by
  subst hf
  exact fun _ _ => h
