theorem kd_X1_copy : yX1_copy.cls ≠ "java/lang/invoke/MethodHandle" ∧ yX1_copy.cls ≠ "java/lang/invoke/VarHandle" ∧ (parseMethodDescriptor yX1_copy.desc).map (fun d => d.parameters.length) = some 1 := by decide +kernel
set_option maxHeartbeats 4000000 in
set_option maxRecDepth 100000 in
/-- copy(row): a new row with the same numbers -/
theorem mX1_copy (l : Launch) (D : va_G) (t : Nat → Nat) (cI : ClassId) (w : va_W) (sz a n : Nat) (f : Nat → Int32) (pl : Nat) (hw : w[pl]? = some (a, .inl (cI, n, .inl f))) (hn : n ≤ 56) : gMr l yX1_copy (rw_ yX1_copy cX1_copy 2 (some (.array .int))) (rm_ 1 1 n 60) [.ref a] D [(cI, .int)] t w sz (fun u => ∃ g, u.2 = w ++ [(u.1, .inl (cI, n, .inl g))] ∧ ∀ j, j < n → g j = f j) := by
  refine g_of (cc := cX1_copy) (nL := 2) (rt := some (.array .int)) (Q := fun A => va_Qr (S := Nat × va_W) _ (fun u a U => u.1 = a ∧ gQ D A u.2 U) A) (by decide) (Nat.le_of_ble_eq_true rfl) (fun p e s m args below meth c A ls H C hrt hnm hS hP hD hl => ?_)
  have hx := C.1
  have hb := C.2.1
  have hl : lv_has ls 2 [(0, .ref a)] := hl
  refine lv_aload_n hx hb dX1_copy_0 rfl (lv_at hl 0 rfl) ?_
  refine va_alen (D := D) hx hb C.2.2.2.2.2.1 hP pl 0 hw rfl (v := nI n) rfl dX1_copy_1 ?_
  refine g_newa C hP hD hS (N := n) rfl (by omega) q13 (cells' := 1) (slots' := n) rfl (Nat.zero_add n) (Nat.le_of_ble_eq_true rfl) (Nat.le_refl n) dX1_copy_2 (fun q H hP hD hS => ?_)
  have hw1 : (w ++ [(q, .inl (cI, n, .inl (fun _ => 0)))])[pl]? = some (a, .inl (cI, n, .inl f)) := by rw [List.getElem?_append_left (List.getElem?_eq_some_iff.mp hw).1]; exact hw
  have hw2 : (w ++ [(q, .inl (cI, n, .inl (fun _ => 0)))])[w.length]? = some (q, .inl (cI, n, .inl (fun _ => 0))) := by rw [List.getElem?_append_right (Nat.le_refl _), Nat.sub_self]; rfl
  refine lv_astore_n (lv' := [(1, .ref q), (0, .ref a)]) hx hb dX1_copy_4 rfl hl (by decide) rfl (fun ls hl => ?_)
  refine lv_aload_n hx hb dX1_copy_5 rfl (lv_at hl 1 rfl) ?_
  refine lv_iconst (v := 0) hx hb dX1_copy_6 (by decide) ?_
  refine lv_aload_n hx hb dX1_copy_7 rfl (lv_at hl 0 rfl) ?_
  refine lv_iconst (v := 0) hx hb dX1_copy_8 (by decide) ?_
  refine lv_aload_n hx hb dX1_copy_9 rfl (lv_at hl 1 rfl) ?_
  refine va_alen (D := D) hx hb C.2.2.2.2.2.1 hP pl 0 hw1 rfl (v := nI n) rfl dX1_copy_10 ?_
  refine g_copy C hP hD hS pl w.length (n := n) (d := 0) (f := f) (g := fun _ => 0) hw1 hw2 rfl rfl rfl (Nat.le_refl n) (by omega) (by omega) q213 q214 q215 q216 hl.1 (Nat.le_of_ble_eq_true rfl) (Nat.le_of_ble_eq_true rfl) dX1_copy_11 (fun H locs hP hD hS => ?_)
  have es : (w ++ [(q, (.inl (cI, n, .inl (fun _ => 0)) : va_E))]).set w.length (q, (.inl (cI, n, .inl (va_cpy f (fun _ => 0) 0 0 n)) : va_E)) = w ++ [(q, .inl (cI, n, .inl (va_cpy f (fun _ => 0) 0 0 n)))] := by rw [List.set_append_right _ _ (Nat.le_refl _), Nat.sub_self]; rfl
  rw [es] at hP hD
  refine lv_aload_n hx hb dX1_copy_14 rfl (lv_at hl 0 rfl) ?_
  exact g_aret C hrt hP hD hS dX1_copy_15 ⟨_, rfl, fun j hj => (pk_cpy_in (Nat.zero_le j) (by omega)).trans (by rw [Nat.zero_add, Nat.sub_zero])⟩
theorem kd_X1_look : yX1_look.cls = yX1_look.cls ∧ yX1_look.cls ≠ "java/lang/invoke/MethodHandle" ∧ yX1_look.cls ≠ "java/lang/invoke/VarHandle" ∧ (parseMethodDescriptor yX1_look.desc).map (fun d => d.parameters.length) = some 0 := by decide +kernel
set_option maxHeartbeats 4000000 in
set_option maxRecDepth 100000 in
/-- look(): a week is paid on copies that are put back -/
theorem mX1_look (l : Launch) (D : va_G) (t : Nat → Nat) (cI : ClassId) (o : Nat) (sz : Nat) (v : S1) (hn : v.2.1 ≤ 8) (hp : ¬ v.1 0 4 = 0) : gMv l yX1_look (rw_ yX1_look cX1_look 3 none) (rm_ 7 10 115 155) [.ref o] D [(cI, .int)] t (rb_w cI o v) sz (fun w' => ∃ v', rb_L v v' ∧ w' = rb_w cI o v') := by
  refine g_of (cc := cX1_look) (nL := 3) (rt := none) (Q := fun A => va_Qv _ (fun w' U => gQ D A w' U) A) (by decide) (Nat.le_of_ble_eq_true rfl) (fun p e s m args below meth c A ls H C hrt hnm hS hP hD hl => ?_)
  have hx := C.1
  have hb := C.2.1
  have hown := C.2.2.2.1
  have hts := C.2.2.2.2.1
  have hl : lv_has ls 3 [(0, .ref o)] := hl
  refine lv_aload_n hx hb dX1_look_0 rfl (lv_at hl 0 rfl) ?_
  refine x1_gf C hP 5 (by decide) (x := .ref (v.2.2.2.2 2)) rfl rfl q32 dX1_look_1 ?_
  refine g_cr (wr := []) (cells' := 1) (slots' := 56) rfl rfl C rd_nil hD hS (g_runS (wr := []) (n := 1) (As := [.ref (v.2.2.2.2 2)]) C (mX1_copy l D t cI (rb_w cI o v) H.size (v.2.2.2.2 2) 56 (v.1 2) 3 rfl (by decide)) (rw_S q306 q307 q5 q308) kd_X1_copy ⟨Nat.le_of_ble_eq_true rfl, Nat.le_of_ble_eq_true rfl⟩ C.2.2.2.2.2.1 hP hD hS hl.1 rfl rfl (Nat.le_of_ble_eq_true rfl) dX1_look_4 ⟨Nat.le_of_ble_eq_true rfl, Nat.le_of_ble_eq_true rfl⟩) (fun q1 w' H locs hv _ _ hP hD hS => ?_)
  obtain ⟨f1, hw1, hf1⟩ := hv
  dsimp only at hw1
  subst hw1
  have hD : va_D A (rb_w cI o v ++ [(q1, .inl (cI, 56, .inl f1))]) := hD
  refine lv_astore_n (lv' := [(1, .ref q1), (0, .ref o)]) hx hb dX1_look_7 rfl hl (by decide) rfl (fun ls hl => ?_)
  refine lv_aload_n hx hb dX1_look_8 rfl (lv_at hl 1 rfl) ?_
  refine x1_gf C (hP.sub (ws' := rb_w cI o v) [0, 1, 2, 3, 4] rfl) 4 (by decide) (x := .ref (v.2.2.2.2 1)) rfl rfl q31 dX1_look_9 ?_
  refine g_cr (wr := []) (cells' := 2) (slots' := 59) rfl rfl C rd_nil hD hS (g_runS (wr := []) (n := 1) (As := [.ref (v.2.2.2.2 1)]) C (mX1_copy l D t cI (rb_w cI o v ++ ([(q1, .inl (cI, 56, .inl f1))] : va_W)) H.size (v.2.2.2.2 1) 3 (v.1 1) 2 rfl (by decide)) (rw_S q306 q307 q5 q308) kd_X1_copy ⟨Nat.le_of_ble_eq_true rfl, Nat.le_of_ble_eq_true rfl⟩ C.2.2.2.2.2.1 hP hD hS hl.1 rfl rfl (Nat.le_of_ble_eq_true rfl) dX1_look_12 ⟨Nat.le_of_ble_eq_true rfl, Nat.le_of_ble_eq_true rfl⟩) (fun q2 w' H locs hv _ _ hP hD hS => ?_)
  obtain ⟨f2, hw2, hf2⟩ := hv
  dsimp only at hw2
  subst hw2
  have hP1 := hP.sub (ws' := [(q1, .inl (cI, 56, .inl f1)), (q2, .inl (cI, 3, .inl f2))]) [5, 6] rfl
  have hP0 := hP.sub (ws' := rb_w cI o v) [0, 1, 2, 3, 4] rfl
  have hD1 : va_D A ([(q1, .inl (cI, 56, .inl f1)), (q2, .inl (cI, 3, .inl f2))] ++ rb_w cI o v) := rd_swap (w1 := rb_w cI o v) (w2 := [(q1, .inl (cI, 56, .inl f1)), (q2, .inl (cI, 3, .inl f2))]) hD
  refine lv_astore_n (lv' := [(2, .ref q2), (1, .ref q1), (0, .ref o)]) hx hb dX1_look_15 rfl hl (by decide) rfl (fun ls hl => ?_)
  refine lv_aload_n hx hb dX1_look_16 rfl (lv_at hl 2 rfl) ?_
  refine g_ci (wr := [(q1, .inl (cI, 56, .inl f1)), (q2, .inl (cI, 3, .inl f2))]) (cells' := 10) (slots' := 115) rfl rfl C hP1 hD1 hS (g_runV (wr := [(q1, .inl (cI, 56, .inl f1)), (q2, .inl (cI, 3, .inl f2))]) (n := 0) C (mX1_paid l D t cI o H.size v hn hp) (rw_V q207 q208 q209 q5 q210) kd_X1_paid ⟨Nat.le_of_ble_eq_true rfl, Nat.le_of_ble_eq_true rfl⟩ (ci := 1) rfl rfl rfl C.2.2.2.2.2.1 hP0 hD1 hS hl.1 rfl rfl (Nat.le_of_ble_eq_true rfl) dX1_look_17 ⟨Nat.le_of_ble_eq_true rfl, Nat.le_of_ble_eq_true rfl⟩) (fun r9 w' H locs hv _ hP1 hP0 hD1 hS => ?_)
  obtain ⟨v3, hR, rfl⟩ := hv
  have hP : va_P D vwCl (rb_w cI o v3 ++ [(q1, .inl (cI, 56, .inl f1)), (q2, .inl (cI, 3, .inl f2))]) H := va_P.app hP0 hP1
  have hD : va_D A (rb_w cI o v3 ++ [(q1, .inl (cI, 56, .inl f1)), (q2, .inl (cI, 3, .inl f2))]) := rd_swap (w1 := [(q1, .inl (cI, 56, .inl f1)), (q2, .inl (cI, 3, .inl f2))]) (w2 := rb_w cI o v3) hD1
  refine lv_pop hx hb dX1_look_20 rfl ?_
  refine lv_aload_n hx hb dX1_look_21 rfl (lv_at hl 2 rfl) ?_
  refine lv_dup hx hb dX1_look_22 rfl ?_
  refine x1_gf C (hP.sub (ws' := rb_w cI o v3) [0, 1, 2, 3, 4] rfl) 2 (by decide) (x := .int v3.2.2.1) rfl rfl q217 dX1_look_23 ?_
  refine lv_iconst (v := 1) hx hb dX1_look_26 (by decide) ?_
  refine lv_isub hx hb dX1_look_27 ?_
  refine va_put (D := D) (ci := 1) (v := .int (v3.2.2.1 - 1)) (ty := .int) (C := RX1) (T := TX1) (N := 7) hx hb hts inlX1 tyX1 tyX1_ok nmX1 hown C.2.2.2.2.2.1 hP hD hS 0 rfl rfl 2 (by decide) (hts _ q217) (fun x h => h) rfl (by decide +kernel) rfl rfl (Nat.le_of_ble_eq_true rfl) dX1_look_28 (fun H locs hP hD hS => ?_)
  have hP : va_P D vwCl (rb_w cI o (v3.1, v3.2.1, v3.2.2.1 - 1, v3.2.2.2) ++ [(q1, .inl (cI, 56, .inl f1)), (q2, .inl (cI, 3, .inl f2))]) H := hP
  have hD : va_D A (rb_w cI o (v3.1, v3.2.1, v3.2.2.1 - 1, v3.2.2.2) ++ [(q1, .inl (cI, 56, .inl f1)), (q2, .inl (cI, 3, .inl f2))]) := hD
  refine lv_aload_n hx hb dX1_look_31 rfl (lv_at hl 2 rfl) ?_
  refine lv_aload_n hx hb dX1_look_32 rfl (lv_at hl 1 rfl) ?_
  refine va_put (D := D) (ci := 1) (v := .ref q1) (ty := .array .int) (C := RX1) (T := TX1) (N := 7) hx hb hts inlX1 tyX1 tyX1_ok nmX1 hown C.2.2.2.2.2.1 hP hD hS 0 rfl rfl 5 (by decide) (hts _ q32) (fun x h => h) rfl (by decide +kernel) rfl rfl (Nat.le_of_ble_eq_true rfl) dX1_look_33 (fun H locs hP hD hS => ?_)
  refine lv_aload_n hx hb dX1_look_36 rfl (lv_at hl 2 rfl) ?_
  refine lv_aload_n hx hb dX1_look_37 rfl (lv_at hl 0 rfl) ?_
  refine va_put (D := D) (ci := 1) (v := .ref q2) (ty := .array .int) (C := RX1) (T := TX1) (N := 7) hx hb hts inlX1 tyX1 tyX1_ok nmX1 hown C.2.2.2.2.2.1 hP hD hS 0 rfl rfl 4 (by decide) (hts _ q31) (fun x h => h) rfl (by decide +kernel) rfl rfl (Nat.le_of_ble_eq_true rfl) dX1_look_38 (fun H locs hP hD hS => ?_)
  obtain ⟨v5, e5⟩ : ∃ z : S1, z = (fun k => if k = 1 then f2 else if k = 2 then f1 else v3.1 k, v3.2.1, v3.2.2.1 - 1, v3.2.2.2.1, fun k => if k = 1 then q2 else if k = 2 then q1 else v3.2.2.2.2 k) := ⟨_, rfl⟩
  have hP : va_P D vwCl (rb_w cI o v5) H := by
    rw [e5]
    exact hP.sub [0, 1, 6, 5, 4] rfl
  have hD : va_D A (rb_w cI o v5) := by
    rw [e5]
    exact hD.sub [0, 1, 6, 5, 4] (by decide) rfl
  refine g_vret C hrt hP hD hS dX1_look_41 ⟨v5, ?_, rfl⟩
  subst e5
  exact ⟨hR.1, hR.2.1, hR.2.2.1, fun j hj => hf1 j hj, fun j hj => hf2 j hj⟩
