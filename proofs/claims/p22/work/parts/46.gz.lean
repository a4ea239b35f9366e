theorem sc_i (x : Int32) : Int32.ofNat x.toUInt32.toNat = x := by
  apply Int32.toBitVec_inj.mp
  rw [Int32.toBitVec_ofNat']
  show BitVec.ofNat 32 x.toBitVec.toNat = x.toBitVec
  simp
theorem sc_T {s : State} {A : Nat → Prop} {b L a0 a1 a2 : Nat} {xs : Nat → Int32} {H : Heap} (hX : va_X b L xs s H) (hb : ¬ A b) : va_T .int b L (fun j => .int (gxs (fun k => if k = 0 then a0 else if k = 1 then a1 else if k = 2 then a2 else if k = 9 then b else if k = 10 then L else (xs (k - 11)).toUInt32.toNat) j)) A s H := by
  obtain ⟨scr, h1, h2, h3, h4, h5⟩ := hX
  refine ⟨scr, h1, h2, h3, Nat.le_of_eq h4.symm, by rw [h4], fun j hj => ?_, hb⟩
  rw [h5 j hj]
  refine congrArg (fun x => some (Value.int x)) ?_
  unfold gxs
  show xs j = Int32.ofNat (if j + 11 = 0 then a0 else if j + 11 = 1 then a1 else if j + 11 = 2 then a2 else if j + 11 = 9 then b else if j + 11 = 10 then L else (xs (j + 11 - 11)).toUInt32.toNat)
  rw [if_neg (by omega), if_neg (by omega), if_neg (by omega), if_neg (by omega), if_neg (by omega), Nat.add_sub_cancel, sc_i]
set_option maxRecDepth 100000 in
set_option maxHeartbeats 4000000 in
theorem lw_gZ {p : Program} {s : State} {m : MethodId} {meth : Method} {c : Code} {b L : Nat} {xs : Nat → Int32} (C0 : lw_At p s m meth c b L xs) : ∃ t : Nat → Nat, t 9 = b ∧ t 10 = L ∧ gZ t (fun q : Nat => s.heap.size ≤ q) s s.heap := by
  obtain ⟨hx, hb, hr, hml, hown, hts, hX, hbl, hlocks, hgv⟩ := C0
  have hA : ∀ a : Nat, a < s.heap.size → ¬ (fun q : Nat => s.heap.size ≤ q) a := fun a h => Nat.not_le.mpr h
  have hs := flat_of_before _ hgv
  obtain ⟨a0, e0, z0⟩ := va_Tof (s := s) (args := #[Value.ref b]) (tm := (Term.static "ReaperWages" "LEAST_RATE" "[I")) (ty := .int) (N := 5) (f := fun j => .int (rt_RX0_LEAST_RATE j)) (A := (fun q : Nat => s.heap.size ≤ q)) (by decide) (hs (Cond.arrayOf (Term.static "ReaperWages" "LEAST_RATE" "[I") .int) (by decide +kernel)) (Cond.eq_int (hs (Cond.eq (.length (Term.static "ReaperWages" "LEAST_RATE" "[I")) (.int 5)) (by decide +kernel)) rfl) (fun j hj => by
    rcases (show j = 0 ∨ j = 1 ∨ j = 2 ∨ j = 3 ∨ j = 4 by omega) with rfl | rfl | rfl | rfl | rfl
    · exact Cond.eq_int (hs (Cond.eq (.elem (Term.static "ReaperWages" "LEAST_RATE" "[I") (.int 0)) (.int 1)) (by decide +kernel)) rfl
    · exact Cond.eq_int (hs (Cond.eq (.elem (Term.static "ReaperWages" "LEAST_RATE" "[I") (.int 1)) (.int 1)) (by decide +kernel)) rfl
    · exact Cond.eq_int (hs (Cond.eq (.elem (Term.static "ReaperWages" "LEAST_RATE" "[I") (.int 2)) (.int 100)) (by decide +kernel)) rfl
    · exact Cond.eq_int (hs (Cond.eq (.elem (Term.static "ReaperWages" "LEAST_RATE" "[I") (.int 3)) (.int 0)) (by decide +kernel)) rfl
    · exact Cond.eq_int (hs (Cond.eq (.elem (Term.static "ReaperWages" "LEAST_RATE" "[I") (.int 4)) (.int 1)) (by decide +kernel)) rfl) hA
  obtain ⟨a1, e1, z1⟩ := va_Tof (s := s) (args := #[Value.ref b]) (tm := (Term.static "ReaperWages" "MOST_RATE" "[I")) (ty := .int) (N := 5) (f := fun j => .int (rt_RX0_MOST_RATE j)) (A := (fun q : Nat => s.heap.size ≤ q)) (by decide) (hs (Cond.arrayOf (Term.static "ReaperWages" "MOST_RATE" "[I") .int) (by decide +kernel)) (Cond.eq_int (hs (Cond.eq (.length (Term.static "ReaperWages" "MOST_RATE" "[I")) (.int 5)) (by decide +kernel)) rfl) (fun j hj => by
    rcases (show j = 0 ∨ j = 1 ∨ j = 2 ∨ j = 3 ∨ j = 4 by omega) with rfl | rfl | rfl | rfl | rfl
    · exact Cond.eq_int (hs (Cond.eq (.elem (Term.static "ReaperWages" "MOST_RATE" "[I") (.int 0)) (.int 40)) (by decide +kernel)) rfl
    · exact Cond.eq_int (hs (Cond.eq (.elem (Term.static "ReaperWages" "MOST_RATE" "[I") (.int 1)) (.int 99)) (by decide +kernel)) rfl
    · exact Cond.eq_int (hs (Cond.eq (.elem (Term.static "ReaperWages" "MOST_RATE" "[I") (.int 2)) (.int 900)) (by decide +kernel)) rfl
    · exact Cond.eq_int (hs (Cond.eq (.elem (Term.static "ReaperWages" "MOST_RATE" "[I") (.int 3)) (.int 100)) (by decide +kernel)) rfl
    · exact Cond.eq_int (hs (Cond.eq (.elem (Term.static "ReaperWages" "MOST_RATE" "[I") (.int 4)) (.int 9)) (by decide +kernel)) rfl) hA
  obtain ⟨a2, e2, z2⟩ := va_Tof (s := s) (args := #[Value.ref b]) (tm := (Term.static "ReaperWages" "COIN_WORTH" "[I")) (ty := .int) (N := 3) (f := fun j => .int (rt_RX0_COIN_WORTH j)) (A := (fun q : Nat => s.heap.size ≤ q)) (by decide) (hs (Cond.arrayOf (Term.static "ReaperWages" "COIN_WORTH" "[I") .int) (by decide +kernel)) (Cond.eq_int (hs (Cond.eq (.length (Term.static "ReaperWages" "COIN_WORTH" "[I")) (.int 3)) (by decide +kernel)) rfl) (fun j hj => by
    rcases (show j = 0 ∨ j = 1 ∨ j = 2 by omega) with rfl | rfl | rfl
    · exact Cond.eq_int (hs (Cond.eq (.elem (Term.static "ReaperWages" "COIN_WORTH" "[I") (.int 0)) (.int 120)) (by decide +kernel)) rfl
    · exact Cond.eq_int (hs (Cond.eq (.elem (Term.static "ReaperWages" "COIN_WORTH" "[I") (.int 1)) (.int 48)) (by decide +kernel)) rfl
    · exact Cond.eq_int (hs (Cond.eq (.elem (Term.static "ReaperWages" "COIN_WORTH" "[I") (.int 2)) (.int 4)) (by decide +kernel)) rfl) hA
  refine ⟨fun k => if k = 0 then a0 else if k = 1 then a1 else if k = 2 then a2 else if k = 9 then b else if k = 10 then L else (xs (k - 11)).toUInt32.toNat, rfl, rfl, ?_, ?_, ?_, ?_, ?_, ?_, ?_, ?_, ?_, ?_, ?_, ?_⟩
  · exact va_Zref (hts (Cond.laysStatic RX0 "LEAST_RATE" "[I") (List.mem_of_getElem? (i := 433) rfl)) (hts (Cond.initialized RX0) (List.mem_of_getElem? (i := 14) rfl)) e0 hA
  · exact z0
  · exact va_Zref (hts (Cond.laysStatic RX0 "MOST_RATE" "[I") (List.mem_of_getElem? (i := 435) rfl)) (hts (Cond.initialized RX0) (List.mem_of_getElem? (i := 14) rfl)) e1 hA
  · exact z1
  · exact va_Zref (hts (Cond.laysStatic RX0 "COIN_WORTH" "[I") (List.mem_of_getElem? (i := 123) rfl)) (hts (Cond.initialized RX0) (List.mem_of_getElem? (i := 14) rfl)) e2 hA
  · exact z2
  · exact va_Nw.of rfl (hts (Cond.castable "[I" "java/lang/Cloneable") (List.mem_of_getElem? (i := 304) rfl))
  · exact va_Nw.of rfl (hts (Cond.methodLinkNest RL 23 yX1_init RL) (List.mem_of_getElem? (i := 379) rfl))
  · exact va_Nw.of rfl (hts (Cond.methodLinkNest RL 77 yX2_init RL) (List.mem_of_getElem? (i := 456) rfl))
  · exact va_AO.of (hts (Cond.arrayOver (.object RX1)) (List.mem_of_getElem? (i := 279) rfl))
  · obtain ⟨comp, cA, kA, h1, -, h3, h4, h5⟩ := arrayOverA_spec (hts (Cond.arrayOver (.array .int)) (List.mem_of_getElem? (i := 247) rfl))
    exact ⟨cA, comp, kA, h5, h3, h4, h1⟩
  · exact sc_T hX (Nat.not_le.mpr hbl)
