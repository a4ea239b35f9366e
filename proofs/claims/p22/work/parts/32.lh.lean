theorem kd_L_below : yL_below.cls ≠ "java/lang/invoke/MethodHandle" ∧ yL_below.cls ≠ "java/lang/invoke/VarHandle" ∧ (parseMethodDescriptor yL_below.desc).map (fun d => d.parameters.length) = some 2 := by decide +kernel
theorem kd_L_cell : yL_cell.cls ≠ "java/lang/invoke/MethodHandle" ∧ yL_cell.cls ≠ "java/lang/invoke/VarHandle" ∧ (parseMethodDescriptor yL_cell.desc).map (fun d => d.parameters.length) = some 2 := by decide +kernel
theorem kd_L_rate : yL_rate.cls ≠ "java/lang/invoke/MethodHandle" ∧ yL_rate.cls ≠ "java/lang/invoke/VarHandle" ∧ (parseMethodDescriptor yL_rate.desc).map (fun d => d.parameters.length) = some 2 := by decide +kernel
set_option maxHeartbeats 4000000 in
set_option maxRecDepth 100000 in
theorem mL_below (l : Launch) (D : va_G) (t : Nat → Nat) (cI cR cB : ClassId) (sz : Nat) (v : Int32) (n : Nat) (h0 : 0 < n) (h1 : n < 2147483648) : gMi l yL_below (rw_ yL_below cL_below 2 (some .int)) (rm_ 0 0 0 0) [.int v, .int (nI n)] D (ty3 cI cR cB) t ([] : va_W) sz (fun r w' => (∃ j : Nat, j < n ∧ r = nI j) ∧ w' = []) := by
  refine g_of (cc := cL_below) (nL := 2) (rt := (some .int)) (Q := fun A => va_Qi _ (fun w' U => gQ D A w' U) A) (by decide) (Nat.le_of_ble_eq_true rfl) (fun p e s m args below meth c A ls H C hrt hnm hS hP hD hl => ?_)
  have hx := C.1
  have hb := C.2.1
  have hown := C.2.2.2.1
  have hts := C.2.2.2.2.1
  have hl : lv_has ls 2 [(0, .int v), (1, .int (nI n))] := hl
  refine lv_iload_n hx hb dL_below_0 rfl (lv_at hl 0 rfl) ?_
  refine lv_ldc (v := 2147483647) hx hb hown (hts _ q44) dL_below_1 ?_
  refine lv_iand hx hb dL_below_3 ?_
  refine lv_iload_n hx hb dL_below_4 rfl (lv_at hl 1 rfl) ?_
  refine lv_irem hx hb dL_below_5 (nI_ne0 h0 h1) ?_
  exact g_iret C hrt hP hD hS dL_below_6 ⟨bl_r v h0 h1, rfl⟩
set_option maxHeartbeats 4000000 in
set_option maxRecDepth 100000 in
theorem mL_cell (l : Launch) (D : va_G) (t : Nat → Nat) (cI cR cB : ClassId) (sz : Nat) (hL : t 10 ≤ 260) (k : Nat) (hk : k < 1000) : gMi l yL_cell (rw_ yL_cell cL_cell 2 (some .int)) (rm_ 0 0 0 0) [.ref (t 9), .int (nI k)] D (ty3 cI cR cB) t ([] : va_W) sz (fun _ w' => w' = []) := by
  refine g_of (cc := cL_cell) (nL := 2) (rt := (some .int)) (Q := fun A => va_Qi _ (fun w' U => gQ D A w' U) A) (by decide) (Nat.le_of_ble_eq_true rfl) (fun p e s m args below meth c A ls H C hrt hnm hS hP hD hl => ?_)
  have hx := C.1
  have hb := C.2.1
  have hown := C.2.2.2.1
  have hts := C.2.2.2.2.1
  have hl : lv_has ls 2 [(0, .ref (t 9)), (1, .int (nI k))] := hl
  refine lv_iload_n hx hb dL_cell_0 rfl (lv_at hl 1 rfl) ?_
  refine lv_aload_n hx hb dL_cell_1 rfl (lv_at hl 0 rfl) ?_
  refine g_sl C hS (C.2.2.2.2.2.2.2.1.2.2.2.2.2.2.2.2.2.2.2) dL_cell_2 ?_
  refine lv_icmp_ge (tgt := 12) hx hb dL_cell_3 (by decide) (fun c1 => ?_) (fun c1 => ?_)
  · refine lv_ldc (v := 790386105) hx hb hown (hts _ q40) dL_cell_12 ?_
    refine lv_iload_n hx hb dL_cell_14 rfl (lv_at hl 1 rfl) ?_
    refine lv_iconst (v := 3) hx hb dL_cell_15 (by decide) ?_
    refine lv_iadd hx hb dL_cell_16 ?_
    refine lv_imul hx hb dL_cell_17 ?_
    exact g_iret C hrt hP hD hS dL_cell_18 rfl
  · refine lv_aload_n hx hb dL_cell_6 rfl (lv_at hl 0 rfl) ?_
    refine lv_iload_n hx hb dL_cell_7 rfl (lv_at hl 1 rfl) ?_
    refine g_sx C hS (C.2.2.2.2.2.2.2.1.2.2.2.2.2.2.2.2.2.2.2) hL (i := k) ((nI_ltI (by omega) (by omega)).mp (Int32.not_le.mp c1)) rfl dL_cell_8 ?_
    refine lv_goto (tgt := 18) hx hb dL_cell_9 (by decide) ?_
    exact g_iret C hrt hP hD hS dL_cell_18 rfl
set_option maxHeartbeats 4000000 in
set_option maxRecDepth 100000 in
theorem mL_rate (l : Launch) (D : va_G) (t : Nat → Nat) (cI cR cB : ClassId) (sz : Nat) (k : Nat) (hk5 : k < 5) (x : Int32) : gMi l yL_rate (rw_ yL_rate cL_rate 4 (some .int)) (rm_ 1 2 10 21) [.int (nI k), .int x] D (ty3 cI cR cB) t ([] : va_W) sz (fun r w' => ¬ (r < rt_RX0_LEAST_RATE k) ∧ r ≤ rt_RX0_MOST_RATE k ∧ w' = []) := by
  refine g_of (cc := cL_rate) (nL := 4) (rt := (some .int)) (Q := fun A => va_Qi _ (fun w' U => gQ D A w' U) A) (by decide) (Nat.le_of_ble_eq_true rfl) (fun p e s m args below meth c A ls H C hrt hnm hS hP hD hl => ?_)
  have hx := C.1
  have hb := C.2.1
  have hown := C.2.2.2.1
  have hts := C.2.2.2.2.1
  have hl : lv_has ls 4 [(0, .int (nI k)), (1, .int x)] := hl
  refine lv_iconst (v := 5) hx hb dL_rate_0 (by decide) ?_
  refine n_new rfl C hP hD hS (N := 5) rfl (by decide) q4 (cells' := 1) (slots' := 5) rfl rfl (Nat.le_of_ble_eq_true rfl) (Nat.le_of_ble_eq_true rfl) dL_rate_1 (fun q0 H hP hD hS => ?_)
  have hP : va_P D vwCl ([(q0, .inl (cI, 5, .inl (fun _ => 0)))] : va_W) H := hP
  have hD : va_D A ([(q0, .inl (cI, 5, .inl (fun _ => 0)))] : va_W) := hD
  refine lv_dup hx hb dL_rate_3 rfl ?_
  refine lv_iconst (v := 0) hx hb dL_rate_4 (by decide) ?_
  refine lv_iconst (v := 1) hx hb dL_rate_5 (by decide) ?_
  refine n_st rfl C hP hD hS 0 (i := 0) rfl (by decide) (by decide) rfl dL_rate_6 (fun H locs hP hD hS => ?_)
  have hP : va_P D vwCl ([(q0, .inl (cI, 5, .inl (upd (fun _ => 0) 0 1)))] : va_W) H := hP
  have hD : va_D A ([(q0, .inl (cI, 5, .inl (upd (fun _ => 0) 0 1)))] : va_W) := hD
  refine lv_dup hx hb dL_rate_7 rfl ?_
  refine lv_iconst (v := 1) hx hb dL_rate_8 (by decide) ?_
  refine lv_iconst (v := 1) hx hb dL_rate_9 (by decide) ?_
  refine n_st rfl C hP hD hS 0 (i := 1) rfl (by decide) (by decide) rfl dL_rate_10 (fun H locs hP hD hS => ?_)
  have hP : va_P D vwCl ([(q0, .inl (cI, 5, .inl (upd (upd (fun _ => 0) 0 1) 1 1)))] : va_W) H := hP
  have hD : va_D A ([(q0, .inl (cI, 5, .inl (upd (upd (fun _ => 0) 0 1) 1 1)))] : va_W) := hD
  refine lv_dup hx hb dL_rate_11 rfl ?_
  refine lv_iconst (v := 2) hx hb dL_rate_12 (by decide) ?_
  refine lv_bipush (v := 100) hx hb dL_rate_13 (by decide) ?_
  refine n_st rfl C hP hD hS 0 (i := 2) rfl (by decide) (by decide) rfl dL_rate_15 (fun H locs hP hD hS => ?_)
  have hP : va_P D vwCl ([(q0, .inl (cI, 5, .inl (upd (upd (upd (fun _ => 0) 0 1) 1 1) 2 100)))] : va_W) H := hP
  have hD : va_D A ([(q0, .inl (cI, 5, .inl (upd (upd (upd (fun _ => 0) 0 1) 1 1) 2 100)))] : va_W) := hD
  refine lv_dup hx hb dL_rate_16 rfl ?_
  refine lv_iconst (v := 3) hx hb dL_rate_17 (by decide) ?_
  refine lv_iconst (v := 0) hx hb dL_rate_18 (by decide) ?_
  refine n_st rfl C hP hD hS 0 (i := 3) rfl (by decide) (by decide) rfl dL_rate_19 (fun H locs hP hD hS => ?_)
  have hP : va_P D vwCl ([(q0, .inl (cI, 5, .inl (upd (upd (upd (upd (fun _ => 0) 0 1) 1 1) 2 100) 3 0)))] : va_W) H := hP
  have hD : va_D A ([(q0, .inl (cI, 5, .inl (upd (upd (upd (upd (fun _ => 0) 0 1) 1 1) 2 100) 3 0)))] : va_W) := hD
  refine lv_dup hx hb dL_rate_20 rfl ?_
  refine lv_iconst (v := 4) hx hb dL_rate_21 (by decide) ?_
  refine lv_iconst (v := 1) hx hb dL_rate_22 (by decide) ?_
  refine n_st rfl C hP hD hS 0 (i := 4) rfl (by decide) (by decide) rfl dL_rate_23 (fun H locs hP hD hS => ?_)
  have hP : va_P D vwCl ([(q0, .inl (cI, 5, .inl (upd (upd (upd (upd (upd (fun _ => 0) 0 1) 1 1) 2 100) 3 0) 4 1)))] : va_W) H := hP
  have hD : va_D A ([(q0, .inl (cI, 5, .inl (upd (upd (upd (upd (upd (fun _ => 0) 0 1) 1 1) 2 100) 3 0) 4 1)))] : va_W) := hD
  refine lv_astore_n (lv' := [(2, .ref q0), (0, .int (nI k)), (1, .int x)]) hx hb dL_rate_24 rfl hl (by decide) rfl (fun ls hl => ?_)
  refine lv_iconst (v := 5) hx hb dL_rate_25 (by decide) ?_
  refine n_new rfl C hP hD hS (N := 5) rfl (by decide) q4 (cells' := 2) (slots' := 10) rfl rfl (Nat.le_of_ble_eq_true rfl) (Nat.le_of_ble_eq_true rfl) dL_rate_26 (fun q1 H hP hD hS => ?_)
  have hP : va_P D vwCl ([(q0, .inl (cI, 5, .inl (upd (upd (upd (upd (upd (fun _ => 0) 0 1) 1 1) 2 100) 3 0) 4 1))), (q1, .inl (cI, 5, .inl (fun _ => 0)))] : va_W) H := hP
  have hD : va_D A ([(q0, .inl (cI, 5, .inl (upd (upd (upd (upd (upd (fun _ => 0) 0 1) 1 1) 2 100) 3 0) 4 1))), (q1, .inl (cI, 5, .inl (fun _ => 0)))] : va_W) := hD
  refine lv_dup hx hb dL_rate_28 rfl ?_
  refine lv_iconst (v := 0) hx hb dL_rate_29 (by decide) ?_
  refine lv_bipush (v := 40) hx hb dL_rate_30 (by decide) ?_
  refine n_st rfl C hP hD hS 1 (i := 0) rfl (by decide) (by decide) rfl dL_rate_32 (fun H locs hP hD hS => ?_)
  have hP : va_P D vwCl ([(q0, .inl (cI, 5, .inl (upd (upd (upd (upd (upd (fun _ => 0) 0 1) 1 1) 2 100) 3 0) 4 1))), (q1, .inl (cI, 5, .inl (upd (fun _ => 0) 0 40)))] : va_W) H := hP
  have hD : va_D A ([(q0, .inl (cI, 5, .inl (upd (upd (upd (upd (upd (fun _ => 0) 0 1) 1 1) 2 100) 3 0) 4 1))), (q1, .inl (cI, 5, .inl (upd (fun _ => 0) 0 40)))] : va_W) := hD
  refine lv_dup hx hb dL_rate_33 rfl ?_
  refine lv_iconst (v := 1) hx hb dL_rate_34 (by decide) ?_
  refine lv_bipush (v := 99) hx hb dL_rate_35 (by decide) ?_
  refine n_st rfl C hP hD hS 1 (i := 1) rfl (by decide) (by decide) rfl dL_rate_37 (fun H locs hP hD hS => ?_)
  have hP : va_P D vwCl ([(q0, .inl (cI, 5, .inl (upd (upd (upd (upd (upd (fun _ => 0) 0 1) 1 1) 2 100) 3 0) 4 1))), (q1, .inl (cI, 5, .inl (upd (upd (fun _ => 0) 0 40) 1 99)))] : va_W) H := hP
  have hD : va_D A ([(q0, .inl (cI, 5, .inl (upd (upd (upd (upd (upd (fun _ => 0) 0 1) 1 1) 2 100) 3 0) 4 1))), (q1, .inl (cI, 5, .inl (upd (upd (fun _ => 0) 0 40) 1 99)))] : va_W) := hD
  refine lv_dup hx hb dL_rate_38 rfl ?_
  refine lv_iconst (v := 2) hx hb dL_rate_39 (by decide) ?_
  refine lv_sipush (v := 801) hx hb dL_rate_40 (by decide) ?_
  refine n_st rfl C hP hD hS 1 (i := 2) rfl (by decide) (by decide) rfl dL_rate_43 (fun H locs hP hD hS => ?_)
  have hP : va_P D vwCl ([(q0, .inl (cI, 5, .inl (upd (upd (upd (upd (upd (fun _ => 0) 0 1) 1 1) 2 100) 3 0) 4 1))), (q1, .inl (cI, 5, .inl (upd (upd (upd (fun _ => 0) 0 40) 1 99) 2 801)))] : va_W) H := hP
  have hD : va_D A ([(q0, .inl (cI, 5, .inl (upd (upd (upd (upd (upd (fun _ => 0) 0 1) 1 1) 2 100) 3 0) 4 1))), (q1, .inl (cI, 5, .inl (upd (upd (upd (fun _ => 0) 0 40) 1 99) 2 801)))] : va_W) := hD
  refine lv_dup hx hb dL_rate_44 rfl ?_
  refine lv_iconst (v := 3) hx hb dL_rate_45 (by decide) ?_
  refine lv_bipush (v := 101) hx hb dL_rate_46 (by decide) ?_
  refine n_st rfl C hP hD hS 1 (i := 3) rfl (by decide) (by decide) rfl dL_rate_48 (fun H locs hP hD hS => ?_)
  have hP : va_P D vwCl ([(q0, .inl (cI, 5, .inl (upd (upd (upd (upd (upd (fun _ => 0) 0 1) 1 1) 2 100) 3 0) 4 1))), (q1, .inl (cI, 5, .inl (upd (upd (upd (upd (fun _ => 0) 0 40) 1 99) 2 801) 3 101)))] : va_W) H := hP
  have hD : va_D A ([(q0, .inl (cI, 5, .inl (upd (upd (upd (upd (upd (fun _ => 0) 0 1) 1 1) 2 100) 3 0) 4 1))), (q1, .inl (cI, 5, .inl (upd (upd (upd (upd (fun _ => 0) 0 40) 1 99) 2 801) 3 101)))] : va_W) := hD
  refine lv_dup hx hb dL_rate_49 rfl ?_
  refine lv_iconst (v := 4) hx hb dL_rate_50 (by decide) ?_
  refine lv_bipush (v := 9) hx hb dL_rate_51 (by decide) ?_
  refine n_st rfl C hP hD hS 1 (i := 4) rfl (by decide) (by decide) rfl dL_rate_53 (fun H locs hP hD hS => ?_)
  have hP : va_P D vwCl ([(q0, .inl (cI, 5, .inl (upd (upd (upd (upd (upd (fun _ => 0) 0 1) 1 1) 2 100) 3 0) 4 1))), (q1, .inl (cI, 5, .inl (upd (upd (upd (upd (upd (fun _ => 0) 0 40) 1 99) 2 801) 3 101) 4 9)))] : va_W) H := hP
  have hD : va_D A ([(q0, .inl (cI, 5, .inl (upd (upd (upd (upd (upd (fun _ => 0) 0 1) 1 1) 2 100) 3 0) 4 1))), (q1, .inl (cI, 5, .inl (upd (upd (upd (upd (upd (fun _ => 0) 0 40) 1 99) 2 801) 3 101) 4 9)))] : va_W) := hD
  refine lv_astore_n (lv' := [(3, .ref q1), (2, .ref q0), (0, .int (nI k)), (1, .int x)]) hx hb dL_rate_54 rfl hl (by decide) rfl (fun ls hl => ?_)
  refine lv_aload_n hx hb dL_rate_55 rfl (lv_at hl 1 rfl) ?_
  refine lv_iload_n hx hb dL_rate_56 rfl (lv_at hl 2 rfl) ?_
  refine n_ld rfl C hP 0 (i := k) rfl hk5 (by decide) rfl dL_rate_57 ?_
  refine g_top (y := rl_low k) rfl ?_
  refine lv_iload_n hx hb dL_rate_58 rfl (lv_at hl 3 rfl) ?_
  refine lv_aload_n hx hb dL_rate_59 rfl (lv_at hl 0 rfl) ?_
  refine lv_iload_n hx hb dL_rate_60 rfl (lv_at hl 2 rfl) ?_
  refine n_ld rfl C hP 1 (i := k) rfl hk5 (by decide) rfl dL_rate_61 ?_
  refine g_top (y := rl_many k) rfl ?_
  refine g_top (rl_mn hk5).1 ?_
  refine m_ci (wa := []) (wb := []) (wd := ([(q0, .inl (cI, 5, .inl (upd (upd (upd (upd (upd (fun _ => 0) 0 1) 1 1) 2 100) 3 0) 4 1))), (q1, .inl (cI, 5, .inl (upd (upd (upd (upd (upd (fun _ => 0) 0 40) 1 99) 2 801) 3 101) 4 9)))] : va_W)) (cells' := 2) (slots' := 10) rfl rfl C hP hD hS (fun hPb hDb => g_runS (wr := ([(q0, .inl (cI, 5, .inl (upd (upd (upd (upd (upd (fun _ => 0) 0 1) 1 1) 2 100) 3 0) 4 1))), (q1, .inl (cI, 5, .inl (upd (upd (upd (upd (upd (fun _ => 0) 0 40) 1 99) 2 801) 3 101) 4 9)))] : va_W) ++ []) (n := 2) (As := [.int x, .int (nI (rl_mN k))]) C (mL_below l D t cI cR cB H.size x (rl_mN k) (rl_mn hk5).2.1 (rl_mn hk5).2.2) (rw_S q41 q42 q25 q43) kd_L_below ⟨Nat.le_of_ble_eq_true rfl, Nat.le_of_ble_eq_true rfl⟩ C.2.2.2.2.2.1 hPb hDb hS hl.1 rfl rfl (Nat.le_of_ble_eq_true rfl) dL_rate_62 ⟨Nat.le_of_ble_eq_true rfl, Nat.le_of_ble_eq_true rfl⟩) (fun v w' H locs hv _ hP hD hS => ?_)
  obtain ⟨⟨j1, hj1, rfl⟩, rfl⟩ := hv
  refine lv_iadd hx hb dL_rate_65 ?_
  refine W.widen (k := 2) (n := 10) (Nat.le_of_ble_eq_true rfl) (Nat.le_of_ble_eq_true rfl) ?_
  exact g_iret (w' := []) C hrt rd_nil ⟨fun i j p q h => by simp at h, fun k q h => by simp at h⟩ hS dL_rate_66 ⟨(rl_rt hk5 hj1).1, (rl_rt hk5 hj1).2, rfl⟩
