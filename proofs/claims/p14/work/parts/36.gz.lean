set_option maxRecDepth 100000 in
set_option maxHeartbeats 4000000 in
theorem lw_gZ {p : Program} {s : State} {m : MethodId} {meth : Method} {c : Code} {b L : Nat} {xs : Nat → Int32} (C0 : lw_At p s m meth c b L xs) {c0 : ClassId} (hc0 : s.vm.findClass RX0 = some c0) : ∃ t : Nat → Nat, gZ t (fun q : Nat => s.heap.size ≤ q) s s.heap := by
  obtain ⟨hx, hb, hr, hml, hown, hts, hX, hbl, hlocks, hgv⟩ := C0
  have hA : ∀ a : Nat, a < s.heap.size → ¬ (fun q : Nat => s.heap.size ≤ q) a := fun a h => Nat.not_le.mpr h
  have hs := flat_of_before _ hgv
  obtain ⟨a0, e0, z0⟩ := va_Tof (s := s) (args := #[Value.ref b]) (tm := (Term.static "ReaperWages" "LEAST_RATE" "[I")) (ty := .int) (N := 5) (f := fun j => .int (rt_RX0_LEAST_RATE j)) (A := (fun q : Nat => s.heap.size ≤ q)) (by decide) (hs (Cond.arrayOf (Term.static "ReaperWages" "LEAST_RATE" "[I") .int) (by decide +kernel)) (Cond.eq_int (hs (Cond.eq (.length (Term.static "ReaperWages" "LEAST_RATE" "[I")) (.int 5)) (by decide +kernel)) rfl) (fun j hj => by
    rcases (show j = 0 ∨ j = 1 ∨ j = 2 ∨ j = 3 ∨ j = 4 by omega) with rfl | rfl | rfl | rfl | rfl
    · exact Cond.eq_int (hs (Cond.eq (.elem (Term.static "ReaperWages" "LEAST_RATE" "[I") (.int 0)) (.int 1)) (by decide +kernel)) rfl
    · exact Cond.eq_int (hs (Cond.eq (.elem (Term.static "ReaperWages" "LEAST_RATE" "[I") (.int 1)) (.int 1)) (by decide +kernel)) rfl
    · exact Cond.eq_int (hs (Cond.eq (.elem (Term.static "ReaperWages" "LEAST_RATE" "[I") (.int 2)) (.int 100)) (by decide +kernel)) rfl
    · exact Cond.eq_int (hs (Cond.eq (.elem (Term.static "ReaperWages" "LEAST_RATE" "[I") (.int 3)) (.int 0)) (by decide +kernel)) rfl
    · exact Cond.eq_int (hs (Cond.eq (.elem (Term.static "ReaperWages" "LEAST_RATE" "[I") (.int 4)) (.int 1)) (by decide +kernel)) rfl) hA
  obtain ⟨a1, e1, z1⟩ := va_Tof (s := s) (args := #[Value.ref b]) (tm := (Term.static "ReaperWages" "MOST_RATE" "[I")) (ty := .int) (N := 5) (f := fun j => .int (rt_RX0_MOST_RATE j)) (A := (fun q : Nat => s.heap.size ≤ q)) (by decide) (hs (Cond.arrayOf (Term.static "ReaperWages" "MOST_RATE" "[I") .int) (by decide +kernel)) (Cond.eq_int (hs (Cond.eq (.length (Term.static "ReaperWages" "MOST_RATE" "[I")) (.int 5)) (by decide +kernel)) rfl) (fun j hj => by
    rcases (show j = 0 ∨ j = 1 ∨ j = 2 ∨ j = 3 ∨ j = 4 by omega) with rfl | rfl | rfl | rfl | rfl
    · exact Cond.eq_int (hs (Cond.eq (.elem (Term.static "ReaperWages" "MOST_RATE" "[I") (.int 0)) (.int 40)) (by decide +kernel)) rfl
    · exact Cond.eq_int (hs (Cond.eq (.elem (Term.static "ReaperWages" "MOST_RATE" "[I") (.int 1)) (.int 99)) (by decide +kernel)) rfl
    · exact Cond.eq_int (hs (Cond.eq (.elem (Term.static "ReaperWages" "MOST_RATE" "[I") (.int 2)) (.int 900)) (by decide +kernel)) rfl
    · exact Cond.eq_int (hs (Cond.eq (.elem (Term.static "ReaperWages" "MOST_RATE" "[I") (.int 3)) (.int 100)) (by decide +kernel)) rfl
    · exact Cond.eq_int (hs (Cond.eq (.elem (Term.static "ReaperWages" "MOST_RATE" "[I") (.int 4)) (.int 9)) (by decide +kernel)) rfl) hA
  obtain ⟨a2, e2, z2⟩ := va_Tof (s := s) (args := #[Value.ref b]) (tm := (Term.static "ReaperWages" "COIN_WORTH" "[I")) (ty := .int) (N := 3) (f := fun j => .int (rt_RX0_COIN_WORTH j)) (A := (fun q : Nat => s.heap.size ≤ q)) (by decide) (hs (Cond.arrayOf (Term.static "ReaperWages" "COIN_WORTH" "[I") .int) (by decide +kernel)) (Cond.eq_int (hs (Cond.eq (.length (Term.static "ReaperWages" "COIN_WORTH" "[I")) (.int 3)) (by decide +kernel)) rfl) (fun j hj => by
    rcases (show j = 0 ∨ j = 1 ∨ j = 2 by omega) with rfl | rfl | rfl
    · exact Cond.eq_int (hs (Cond.eq (.elem (Term.static "ReaperWages" "COIN_WORTH" "[I") (.int 0)) (.int 120)) (by decide +kernel)) rfl
    · exact Cond.eq_int (hs (Cond.eq (.elem (Term.static "ReaperWages" "COIN_WORTH" "[I") (.int 1)) (.int 48)) (by decide +kernel)) rfl
    · exact Cond.eq_int (hs (Cond.eq (.elem (Term.static "ReaperWages" "COIN_WORTH" "[I") (.int 2)) (.int 4)) (by decide +kernel)) rfl) hA
  obtain ⟨a3, e3, z3⟩ := va_Tof (s := s) (args := #[Value.ref b]) (tm := (Term.static "ReaperWagesModel" "LOW" "[I")) (ty := .int) (N := 5) (f := fun j => .int (rt_RX1_LOW j)) (A := (fun q : Nat => s.heap.size ≤ q)) (by decide) (hs (Cond.arrayOf (Term.static "ReaperWagesModel" "LOW" "[I") .int) (by decide +kernel)) (Cond.eq_int (hs (Cond.eq (.length (Term.static "ReaperWagesModel" "LOW" "[I")) (.int 5)) (by decide +kernel)) rfl) (fun j hj => by
    rcases (show j = 0 ∨ j = 1 ∨ j = 2 ∨ j = 3 ∨ j = 4 by omega) with rfl | rfl | rfl | rfl | rfl
    · exact Cond.eq_int (hs (Cond.eq (.elem (Term.static "ReaperWagesModel" "LOW" "[I") (.int 0)) (.int 1)) (by decide +kernel)) rfl
    · exact Cond.eq_int (hs (Cond.eq (.elem (Term.static "ReaperWagesModel" "LOW" "[I") (.int 1)) (.int 1)) (by decide +kernel)) rfl
    · exact Cond.eq_int (hs (Cond.eq (.elem (Term.static "ReaperWagesModel" "LOW" "[I") (.int 2)) (.int 100)) (by decide +kernel)) rfl
    · exact Cond.eq_int (hs (Cond.eq (.elem (Term.static "ReaperWagesModel" "LOW" "[I") (.int 3)) (.int 0)) (by decide +kernel)) rfl
    · exact Cond.eq_int (hs (Cond.eq (.elem (Term.static "ReaperWagesModel" "LOW" "[I") (.int 4)) (.int 1)) (by decide +kernel)) rfl) hA
  obtain ⟨a4, e4, z4⟩ := va_Tof (s := s) (args := #[Value.ref b]) (tm := (Term.static "ReaperWagesModel" "HIGH" "[I")) (ty := .int) (N := 5) (f := fun j => .int (rt_RX1_HIGH j)) (A := (fun q : Nat => s.heap.size ≤ q)) (by decide) (hs (Cond.arrayOf (Term.static "ReaperWagesModel" "HIGH" "[I") .int) (by decide +kernel)) (Cond.eq_int (hs (Cond.eq (.length (Term.static "ReaperWagesModel" "HIGH" "[I")) (.int 5)) (by decide +kernel)) rfl) (fun j hj => by
    rcases (show j = 0 ∨ j = 1 ∨ j = 2 ∨ j = 3 ∨ j = 4 by omega) with rfl | rfl | rfl | rfl | rfl
    · exact Cond.eq_int (hs (Cond.eq (.elem (Term.static "ReaperWagesModel" "HIGH" "[I") (.int 0)) (.int 40)) (by decide +kernel)) rfl
    · exact Cond.eq_int (hs (Cond.eq (.elem (Term.static "ReaperWagesModel" "HIGH" "[I") (.int 1)) (.int 99)) (by decide +kernel)) rfl
    · exact Cond.eq_int (hs (Cond.eq (.elem (Term.static "ReaperWagesModel" "HIGH" "[I") (.int 2)) (.int 900)) (by decide +kernel)) rfl
    · exact Cond.eq_int (hs (Cond.eq (.elem (Term.static "ReaperWagesModel" "HIGH" "[I") (.int 3)) (.int 100)) (by decide +kernel)) rfl
    · exact Cond.eq_int (hs (Cond.eq (.elem (Term.static "ReaperWagesModel" "HIGH" "[I") (.int 4)) (.int 9)) (by decide +kernel)) rfl) hA
  obtain ⟨a5, e5, z5⟩ := va_Tof (s := s) (args := #[Value.ref b]) (tm := (Term.static "ReaperWagesModel" "WORTH" "[I")) (ty := .int) (N := 3) (f := fun j => .int (rt_RX1_WORTH j)) (A := (fun q : Nat => s.heap.size ≤ q)) (by decide) (hs (Cond.arrayOf (Term.static "ReaperWagesModel" "WORTH" "[I") .int) (by decide +kernel)) (Cond.eq_int (hs (Cond.eq (.length (Term.static "ReaperWagesModel" "WORTH" "[I")) (.int 3)) (by decide +kernel)) rfl) (fun j hj => by
    rcases (show j = 0 ∨ j = 1 ∨ j = 2 by omega) with rfl | rfl | rfl
    · exact Cond.eq_int (hs (Cond.eq (.elem (Term.static "ReaperWagesModel" "WORTH" "[I") (.int 0)) (.int 120)) (by decide +kernel)) rfl
    · exact Cond.eq_int (hs (Cond.eq (.elem (Term.static "ReaperWagesModel" "WORTH" "[I") (.int 1)) (.int 48)) (by decide +kernel)) rfl
    · exact Cond.eq_int (hs (Cond.eq (.elem (Term.static "ReaperWagesModel" "WORTH" "[I") (.int 2)) (.int 4)) (by decide +kernel)) rfl) hA
  have r0 := hts (Cond.stringRef RX0 158 "no such number") (List.mem_of_getElem? (i := 225) rfl)
  obtain ⟨_, _, _, a6, _, _, _, _, _, e6⟩ := Cond.stringRef_spec hc0 r0
  have r1 := hts (Cond.stringRef RX0 165 "none that it can be") (List.mem_of_getElem? (i := 293) rfl)
  obtain ⟨_, _, _, a7, _, _, _, _, _, e7⟩ := Cond.stringRef_spec hc0 r1
  have r2 := hts (Cond.stringRef RX0 170 "more than the book takes") (List.mem_of_getElem? (i := 312) rfl)
  obtain ⟨_, _, _, a8, _, _, _, _, _, e8⟩ := Cond.stringRef_spec hc0 r2
  refine ⟨fun k => if k = 0 then a0 else if k = 1 then a1 else if k = 2 then a2 else if k = 3 then a3 else if k = 4 then a4 else if k = 5 then a5 else if k = 6 then a6 else if k = 7 then a7 else a8, ?_, ?_, ?_, ?_, ?_, ?_, ?_, ?_, ?_, ?_, ?_, ?_, ?_, ?_, ?_, ?_, ?_, ?_, ?_, ?_, ?_, ?_, ?_, ?_, ?_, ?_⟩
  · exact va_Zref (hts (Cond.laysStatic RX0 "LEAST_RATE" "[I") (List.mem_of_getElem? (i := 157) rfl)) (hts (Cond.initialized RX0) (List.mem_of_getElem? (i := 31) rfl)) e0 hA
  · exact z0
  · exact va_Zref (hts (Cond.laysStatic RX0 "MOST_RATE" "[I") (List.mem_of_getElem? (i := 159) rfl)) (hts (Cond.initialized RX0) (List.mem_of_getElem? (i := 31) rfl)) e1 hA
  · exact z1
  · exact va_Zref (hts (Cond.laysStatic RX0 "COIN_WORTH" "[I") (List.mem_of_getElem? (i := 140) rfl)) (hts (Cond.initialized RX0) (List.mem_of_getElem? (i := 31) rfl)) e2 hA
  · exact z2
  · exact va_Zref (hts (Cond.laysStatic RX1 "LOW" "[I") (List.mem_of_getElem? (i := 457) rfl)) (hts (Cond.initialized RX1) (List.mem_of_getElem? (i := 32) rfl)) e3 hA
  · exact z3
  · exact va_Zref (hts (Cond.laysStatic RX1 "HIGH" "[I") (List.mem_of_getElem? (i := 459) rfl)) (hts (Cond.initialized RX1) (List.mem_of_getElem? (i := 32) rfl)) e4 hA
  · exact z4
  · exact va_Zref (hts (Cond.laysStatic RX1 "WORTH" "[I") (List.mem_of_getElem? (i := 522) rfl)) (hts (Cond.initialized RX1) (List.mem_of_getElem? (i := 32) rfl)) e5 hA
  · exact z5
  · exact vx_Zqof (hts (Cond.laysStatic "java/lang/Throwable" "UNASSIGNED_STACK" "[Ljava/lang/StackTraceElement;") (List.mem_of_getElem? (i := 211) rfl)) (hts (Cond.initialized "java/lang/Throwable") (List.mem_of_getElem? (i := 33) rfl)) (hs (Cond.isRef (.static "java/lang/Throwable" "UNASSIGNED_STACK" "[Ljava/lang/StackTraceElement;")) (by decide +kernel)) hA
  · exact vx_Zqof (hts (Cond.laysStatic "java/lang/Throwable" "SUPPRESSED_SENTINEL" "Ljava/util/List;") (List.mem_of_getElem? (i := 213) rfl)) (hts (Cond.initialized "java/lang/Throwable") (List.mem_of_getElem? (i := 33) rfl)) (hs (Cond.isRef (.static "java/lang/Throwable" "SUPPRESSED_SENTINEL" "Ljava/util/List;")) (by decide +kernel)) hA
  · exact vk_R.of r0 e6
  · exact vk_R.of r1 e7
  · exact vk_R.of r2 e8
  · exact va_Nw.of rfl (hts (Cond.castable "java/lang/IndexOutOfBoundsException" "java/lang/IndexOutOfBoundsException") (List.mem_of_getElem? (i := 186) rfl))
  · exact va_Nw.of rfl (hts (Cond.castable "java/lang/IllegalArgumentException" "java/lang/IllegalArgumentException") (List.mem_of_getElem? (i := 286) rfl))
  · exact va_Nw.of rfl (hts (Cond.castable "java/lang/IllegalStateException" "java/lang/IllegalStateException") (List.mem_of_getElem? (i := 305) rfl))
  · exact va_Nw.of rfl (hts (Cond.declares (Bundle.initS "java/lang/RuntimeException")) (by decide +kernel))
  · exact va_Nw.of rfl (hts (Cond.declares (Bundle.initS "java/lang/Exception")) (by decide +kernel))
  · exact va_Nw.of rfl (hts (Cond.declares (Bundle.initS "java/lang/Throwable")) (by decide +kernel))
  · exact va_Nc.of (hs (Cond.not (Cond.castable "java/lang/IllegalStateException" "java/lang/IllegalArgumentException")) (by decide +kernel))
  · exact va_Nc.of (hs (Cond.not (Cond.castable "java/lang/IllegalArgumentException" "java/lang/IndexOutOfBoundsException")) (by decide +kernel))
  · exact va_Nc.of (hs (Cond.not (Cond.castable "java/lang/IllegalStateException" "java/lang/IndexOutOfBoundsException")) (by decide +kernel))
section GRI
variable {p : Program} {l : Launch} {e : Env} {R : Room} {s : State} {m : MethodId} {args : Array Value} {below : List Frame} {meth : Method} {c : Code} {H : Heap} {locs : List Loc} {cells slots : Nat} {Q : State → Prop}
variable {cc : ByteArray} {nL pc : Nat} {ls : Array Slot} {own : String} {D : va_G} {ty ty2 : List (ClassId × FieldType)} {t : Nat → Nat} {A : Nat → Prop} {wr wc : va_W}
variable {y : MethodName} {bytes : ByteArray} {maxL n idx : Nat} {rm : Room} {b : Nat} {As rest st0 : List Value} {Qa : Array Value → State → Outcome → State → Prop}
theorem g_runI (C : gC p s m args meth c cc nL own D ty t A) (hM : Met l y (rw_ y bytes maxL none) rm (va_Pc (.ref b :: As) (gP D ty2 t wc H.size)) Qa rm.cells rm.slots (va_A wc H.size)) (h5 : Cond.code y bytes maxL none ∈ wsL_law) (h4 : Cond.initialized y.cls ∈ wsL_law) (h1 : Cond.methodLink own idx y ∈ wsL_law) (h2 : Cond.instanceMethod y ∈ wsL_law) (hy : y.name = "<init>")
    (hd : y.cls = y.cls ∧ y.cls ≠ "java/lang/invoke/MethodHandle" ∧ y.cls ≠ "java/lang/invoke/VarHandle" ∧ (parseMethodDescriptor y.desc).map (fun d => d.parameters.length) = some n) (hR : rm.frames + 1 ≤ R.frames ∧ 8 + (maxL + 11) + rm.locals ≤ R.locals)
    (hK2 : va_K D vwCl ty2 s) (hPc : va_P D vwCl wc H) (hD : va_D A (wr ++ wc)) (hS : va_S A s.heap H locs) (hl : ls.size = nL) (hn : As.length = n) (hst : st0 = As.reverse ++ .ref b :: rest) (hrest : (rest.map fun v => v.category).sum ≤ 8) (hdg : decode cc pc = .ok (.invokespecial idx, 3)) (hf : cells + rm.cells ≤ R.cells ∧ slots + rm.slots ≤ R.slots) :
    va_Run p l e R s m args below meth c H locs cells slots rm.cells rm.slots (F0 m pc ls st0) rest (Qa (Value.ref b :: As).toArray) (va_A wc H.size) :=
  va_runI ⟨C.1, C.2.1, C.2.2.1, C.2.2.2.1, C.2.2.2.2.1⟩ hM (cwI n C.2.2.2.2.1 (rw_in (rw_c h5)) rfl rfl rfl (C.2.2.2.2.1 _ h4) (C.2.2.2.2.1 _ h1) (C.2.2.2.2.1 _ h2) hy hd.2 hR) ⟨gP_blind, g_pre C hK2 hPc hD hS⟩ rfl hn hl hst (lv_room hrest) hdg hf
/-- the long row, new -/
theorem g_newL {cI cL : ClassId} {ws : va_W} {rest : List Value} (C : gC p s m args meth c cc nL own D (lT cI cL) t A) (hP : va_P D vwCl ws H) (hD : va_D A ws) (hS : va_S A s.heap H locs) (hq : Cond.arrayClass .long ∈ wsL_law) {cells' slots' : Nat} (hc : cells + 1 = cells') (hs : slots + 1 = slots') (hRc : cells' ≤ R.cells) (hRs : slots' ≤ R.slots) (hdg : decode cc pc = .ok (.newarray .long, 2))
    (kk : ∀ (q : Nat) (H1 : Heap), va_P D vwCl (ws ++ lo_w cL q (fun _ => 0)) H1 → va_D A (ws ++ lo_w cL q (fun _ => 0)) → va_S A s.heap H1 locs → W p l e R s m args below meth c H1 locs cells' slots' Q (F0 m (pc + 2) ls (.ref q :: rest))) : W p l e R s m args below meth c H locs cells slots Q (F0 m pc ls (.int 1 :: rest)) := by
  subst hc
  subst hs
  refine va_newa (D := D) (atype := .long) (ty := .long) (a0 := (1, .inr (.inl (fun _ => 0)))) C.1 C.2.1 (C.2.2.2.2.1 _ hq) rfl C.2.2.2.2.2.1 hP hD hS C.2.2.2.2.2.2.1 (fun _ => rfl) (nI_pos (n := 1) (by decide)) (nI_clamp (n := 1) (by decide)) (by decide) hRc hRs hdg (fun q cA H1 hK1 hP1 hD1 hS1 => ?_)
  have e1 := (hK1.2 1 (cL, .long) rfl).2
  have e2 := (hK1.2 2 (cA, .long) rfl).2
  have e3 : cL = cA := Option.some.inj (e1.symm.trans e2)
  subst e3
  exact kk q H1 hP1 hD1 hS1
end GRI
theorem lw_KA {s : State} {args : Array Value} {ty : FieldType} (h : (Cond.arrayClass ty).before args s = true) : ∃ cA : ClassId, ArrOfT s cA ty ∧ s.vm.findClass ("[" ++ ty.toString) = some cA := by
  obtain ⟨cA, k, comp, h1, h2, h3⟩ := Cond.arrayClass_spec h
  exact ⟨cA, fun n z => ⟨fun k h => (by cases h), k, h2, comp, h3⟩, h1⟩
