theorem kd_X1_counting : yX1_counting.cls = yX1_counting.cls ∧ yX1_counting.cls ≠ "java/lang/invoke/MethodHandle" ∧ yX1_counting.cls ≠ "java/lang/invoke/VarHandle" ∧ (parseMethodDescriptor yX1_counting.desc).map (fun d => d.parameters.length) = some 0 := by decide +kernel
theorem kd_X1_pieces : yX1_pieces.cls = yX1_pieces.cls ∧ yX1_pieces.cls ≠ "java/lang/invoke/MethodHandle" ∧ yX1_pieces.cls ≠ "java/lang/invoke/VarHandle" ∧ (parseMethodDescriptor yX1_pieces.desc).map (fun d => d.parameters.length) = some 1 := by decide +kernel
theorem kd_X1_wage : yX1_wage.cls = yX1_wage.cls ∧ yX1_wage.cls ≠ "java/lang/invoke/MethodHandle" ∧ yX1_wage.cls ≠ "java/lang/invoke/VarHandle" ∧ (parseMethodDescriptor yX1_wage.desc).map (fun d => d.parameters.length) = some 1 := by decide +kernel
set_option maxHeartbeats 4000000 in
set_option maxRecDepth 100000 in
theorem mX1_counting (l : Launch) (D : va_G) (t : Nat → Nat) (cI cR cB : ClassId) (o : Nat) (z : SA) (sz : Nat) (u : S0) (T : Nat) (B : rB T u) (k : Nat) (hk : k < u.2.1) : gMi l yX1_counting (rw_ yX1_counting cX1_counting 2 (some .int)) (rm_ 0 0 0 0) [.ref (z.2.1 k)] D (ty3 cI cR cB) t (rs_w cI cR o z u) sz (fun r w' => r = rf_hc u k ∧ w' = rs_w cI cR o z u) := by
  refine g_of (cc := cX1_counting) (nL := 2) (rt := (some .int)) (Q := fun A => va_Qi _ (fun w' U => gQ D A w' U) A) (by decide) (Nat.le_of_ble_eq_true rfl) (fun p e s m args below meth c A ls H C hrt hnm hS hP hD hl => ?_)
  have hx := C.1
  have hb := C.2.1
  have hown := C.2.2.2.1
  have hts := C.2.2.2.2.1
  have hl : lv_has ls 2 [(0, .ref (z.2.1 k))] := hl
  have S : sS D A s cI cR o z u [] H [] := ⟨by rw [List.append_nil]; exact hP, by rw [List.append_nil]; exact hD, hS⟩
  obtain ⟨locs, elocs⟩ : ∃ z : List Loc, z = [] := ⟨_, rfl⟩
  rw [← elocs] at S ⊢
  have hT := B.2.1
  have V := B.2.2.1
  have Bk := B.2.2.2.2.1 k (Nat.lt_of_lt_of_le hk B.1)
  refine lv_aload_n hx hb dX1_counting_0 rfl (lv_at hl 0 rfl) ?_
  refine r_gf C S 2 k (by decide) hk (v := .int (u.1 2 k)) rfl rfl q186 dX1_counting_1 ?_
  refine lv_aload_n hx hb dX1_counting_4 rfl (lv_at hl 0 rfl) ?_
  refine r_gf C S 3 k (by decide) hk (v := .int (u.1 3 k)) rfl rfl q187 dX1_counting_5 ?_
  refine lv_iconst (v := 2) hx hb dX1_counting_8 (by decide) ?_
  refine lv_idiv hx hb dX1_counting_9 (by decide) ?_
  refine lv_isub hx hb dX1_counting_10 ?_
  refine lv_aload_n hx hb dX1_counting_11 rfl (lv_at hl 0 rfl) ?_
  refine r_gf C S 3 k (by decide) hk (v := .int (u.1 3 k)) rfl rfl q187 dX1_counting_12 ?_
  refine lv_iconst (v := 2) hx hb dX1_counting_15 (by decide) ?_
  refine lv_irem hx hb dX1_counting_16 (by decide) ?_
  refine lv_isub hx hb dX1_counting_17 ?_
  refine lv_topi (fun v1 ev1 => ?_)
  refine lv_istore_n (lv' := [(1, .int v1), (0, .ref (z.2.1 k))]) hx hb dX1_counting_18 rfl hl (by decide) rfl (fun ls hl => ?_)
  refine lv_iload_n hx hb dX1_counting_19 rfl (lv_at hl 0 rfl) ?_
  refine lv_if_ge (tgt := 25) hx hb dX1_counting_20 (by decide) (fun c2 => ?_) (fun c2 => ?_)
  · refine lv_iload_n hx hb dX1_counting_25 rfl (lv_at hl 0 rfl) ?_
    refine lv_bipush (v := 60) hx hb dX1_counting_26 (by decide) ?_
    refine lv_icmp_gt (tgt := 35) hx hb dX1_counting_28 (by decide) (fun c3 => ?_) (fun c3 => ?_)
    · refine lv_bipush (v := 120) hx hb dX1_counting_35 (by decide) ?_
      refine lv_iconst (v := 3) hx hb dX1_counting_37 (by decide) ?_
      refine lv_iload_n hx hb dX1_counting_38 rfl (lv_at hl 0 rfl) ?_
      refine lv_bipush (v := 60) hx hb dX1_counting_39 (by decide) ?_
      refine lv_isub hx hb dX1_counting_41 ?_
      refine lv_imul hx hb dX1_counting_42 ?_
      refine lv_iadd hx hb dX1_counting_43 ?_
      refine lv_iconst (v := 2) hx hb dX1_counting_44 (by decide) ?_
      refine lv_idiv hx hb dX1_counting_45 (by decide) ?_
      exact g_iret C hrt (rp_left S.1) (rd_left S.2.1) S.2.2 dX1_counting_46 ⟨(by subst ev1; exact rl_c3 Bk hT c3), rfl⟩
    · refine lv_iload_n hx hb dX1_counting_31 rfl (lv_at hl 0 rfl) ?_
      refine lv_goto (tgt := 46) hx hb dX1_counting_32 (by decide) ?_
      exact g_iret C hrt (rp_left S.1) (rd_left S.2.1) S.2.2 dX1_counting_46 ⟨(by subst ev1; exact rl_c2 Bk hT c2 c3), rfl⟩
  · refine lv_iconst (v := 0) hx hb dX1_counting_23 (by decide) ?_
    refine lv_istore_n (lv' := [(1, .int 0), (0, .ref (z.2.1 k))]) hx hb dX1_counting_24 rfl hl (by decide) rfl (fun ls hl => ?_)
    refine lv_iload_n hx hb dX1_counting_25 rfl (lv_at hl 0 rfl) ?_
    refine lv_bipush (v := 60) hx hb dX1_counting_26 (by decide) ?_
    refine lv_icmp_gt (tgt := 35) hx hb dX1_counting_28 (by decide) (fun c4 => ?_) (fun c4 => ?_)
    · refine lv_bipush (v := 120) hx hb dX1_counting_35 (by decide) ?_
      refine lv_iconst (v := 3) hx hb dX1_counting_37 (by decide) ?_
      refine lv_iload_n hx hb dX1_counting_38 rfl (lv_at hl 0 rfl) ?_
      refine lv_bipush (v := 60) hx hb dX1_counting_39 (by decide) ?_
      refine lv_isub hx hb dX1_counting_41 ?_
      refine lv_imul hx hb dX1_counting_42 ?_
      refine lv_iadd hx hb dX1_counting_43 ?_
      refine lv_iconst (v := 2) hx hb dX1_counting_44 (by decide) ?_
      refine lv_idiv hx hb dX1_counting_45 (by decide) ?_
      exact absurd c4 (by decide)
    · refine lv_iload_n hx hb dX1_counting_31 rfl (lv_at hl 0 rfl) ?_
      refine lv_goto (tgt := 46) hx hb dX1_counting_32 (by decide) ?_
      exact g_iret C hrt (rp_left S.1) (rd_left S.2.1) S.2.2 dX1_counting_46 ⟨(by subst ev1; exact rl_c1 Bk hT c2), rfl⟩
set_option maxHeartbeats 4000000 in
set_option maxRecDepth 100000 in
theorem mX1_pieces (l : Launch) (D : va_G) (t : Nat → Nat) (cI cR cB : ClassId) (o : Nat) (z : SA) (sz : Nat) (u : S0) (T : Nat) (B : rB T u) (k : Nat) (hk : k < u.2.1) : gMi l yX1_pieces (rw_ yX1_pieces cX1_pieces 3 (some .int)) (rm_ 0 0 0 0) [.ref (z.2.1 k), .ref (z.1 0)] D (ty3 cI cR cB) t (rs_w cI cR o z u) sz (fun r w' => r = rf_pc u 7 k ∧ w' = rs_w cI cR o z u) := by
  refine g_of (cc := cX1_pieces) (nL := 3) (rt := (some .int)) (Q := fun A => va_Qi _ (fun w' U => gQ D A w' U) A) (by decide) (Nat.le_of_ble_eq_true rfl) (fun p e s m args below meth c A ls H C hrt hnm hS hP hD hl => ?_)
  have hx := C.1
  have hb := C.2.1
  have hown := C.2.2.2.1
  have hts := C.2.2.2.2.1
  have hl : lv_has ls 3 [(0, .ref (z.2.1 k)), (1, .ref (z.1 0))] := hl
  have S : sS D A s cI cR o z u [] H [] := ⟨by rw [List.append_nil]; exact hP, by rw [List.append_nil]; exact hD, hS⟩
  obtain ⟨locs, elocs⟩ : ∃ z : List Loc, z = [] := ⟨_, rfl⟩
  rw [← elocs] at S ⊢
  have hT := B.2.1
  have V := B.2.2.1
  have Bk := B.2.2.2.2.1 k (Nat.lt_of_lt_of_le hk B.1)
  refine lv_aload_n hx hb dX1_pieces_0 rfl (lv_at hl 0 rfl) ?_
  refine r_gf C S 1 k (by decide) hk (v := .int (u.1 1 k)) rfl rfl q181 dX1_pieces_1 ?_
  refine lv_aload_n hx hb dX1_pieces_4 rfl (lv_at hl 1 rfl) ?_
  refine lv_iconst (v := 2) hx hb dX1_pieces_5 (by decide) ?_
  refine s_l7 C S (i := 2) (by decide) rfl dX1_pieces_6 ?_
  refine lv_icmp_ge (tgt := 17) hx hb dX1_pieces_7 (by decide) (fun c1 => ?_) (fun c1 => ?_)
  · refine lv_aload_n hx hb dX1_pieces_17 rfl (lv_at hl 1 rfl) ?_
    refine lv_iconst (v := 2) hx hb dX1_pieces_18 (by decide) ?_
    refine s_l7 C S (i := 2) (by decide) rfl dX1_pieces_19 ?_
    refine lv_topi (fun v2 ev2 => ?_)
    refine lv_istore_n (lv' := [(2, .int v2), (0, .ref (z.2.1 k)), (1, .ref (z.1 0))]) hx hb dX1_pieces_20 rfl hl (by decide) rfl (fun ls hl => ?_)
    refine lv_aload_n hx hb dX1_pieces_21 rfl (lv_at hl 2 rfl) ?_
    refine lv_iconst (v := 0) hx hb dX1_pieces_22 (by decide) ?_
    refine s_l7 C S (i := 0) (by decide) rfl dX1_pieces_23 ?_
    refine lv_iload_n hx hb dX1_pieces_24 rfl (lv_at hl 0 rfl) ?_
    refine lv_imul hx hb dX1_pieces_25 ?_
    refine lv_bipush (v := 10) hx hb dX1_pieces_26 (by decide) ?_
    refine lv_idiv hx hb dX1_pieces_28 (by decide) ?_
    refine lv_aload_n hx hb dX1_pieces_29 rfl (lv_at hl 2 rfl) ?_
    refine lv_iconst (v := 0) hx hb dX1_pieces_30 (by decide) ?_
    refine s_l7 C S (i := 0) (by decide) rfl dX1_pieces_31 ?_
    refine lv_aload_n hx hb dX1_pieces_32 rfl (lv_at hl 1 rfl) ?_
    refine r_gf C S 1 k (by decide) hk (v := .int (u.1 1 k)) rfl rfl q181 dX1_pieces_33 ?_
    refine lv_iload_n hx hb dX1_pieces_36 rfl (lv_at hl 0 rfl) ?_
    refine lv_isub hx hb dX1_pieces_37 ?_
    refine lv_imul hx hb dX1_pieces_38 ?_
    refine lv_bipush (v := 100) hx hb dX1_pieces_39 (by decide) ?_
    refine lv_aload_n hx hb dX1_pieces_41 rfl (lv_at hl 2 rfl) ?_
    refine lv_iconst (v := 3) hx hb dX1_pieces_42 (by decide) ?_
    refine s_l7 C S (i := 3) (by decide) rfl dX1_pieces_43 ?_
    refine lv_iadd hx hb dX1_pieces_44 ?_
    refine lv_imul hx hb dX1_pieces_45 ?_
    refine lv_sipush (v := 1000) hx hb dX1_pieces_46 (by decide) ?_
    refine lv_idiv hx hb dX1_pieces_49 (by decide) ?_
    refine lv_iadd hx hb dX1_pieces_50 ?_
    exact g_iret C hrt (rp_left S.1) (rd_left S.2.1) S.2.2 dX1_pieces_51 ⟨(by subst ev2; exact rl_pc V Bk (rl_m2 (Int32.not_lt.mpr c1))), rfl⟩
  · refine lv_aload_n hx hb dX1_pieces_10 rfl (lv_at hl 0 rfl) ?_
    refine r_gf C S 1 k (by decide) hk (v := .int (u.1 1 k)) rfl rfl q181 dX1_pieces_11 ?_
    refine lv_goto (tgt := 20) hx hb dX1_pieces_14 (by decide) ?_
    refine lv_topi (fun v3 ev3 => ?_)
    refine lv_istore_n (lv' := [(2, .int v3), (0, .ref (z.2.1 k)), (1, .ref (z.1 0))]) hx hb dX1_pieces_20 rfl hl (by decide) rfl (fun ls hl => ?_)
    refine lv_aload_n hx hb dX1_pieces_21 rfl (lv_at hl 2 rfl) ?_
    refine lv_iconst (v := 0) hx hb dX1_pieces_22 (by decide) ?_
    refine s_l7 C S (i := 0) (by decide) rfl dX1_pieces_23 ?_
    refine lv_iload_n hx hb dX1_pieces_24 rfl (lv_at hl 0 rfl) ?_
    refine lv_imul hx hb dX1_pieces_25 ?_
    refine lv_bipush (v := 10) hx hb dX1_pieces_26 (by decide) ?_
    refine lv_idiv hx hb dX1_pieces_28 (by decide) ?_
    refine lv_aload_n hx hb dX1_pieces_29 rfl (lv_at hl 2 rfl) ?_
    refine lv_iconst (v := 0) hx hb dX1_pieces_30 (by decide) ?_
    refine s_l7 C S (i := 0) (by decide) rfl dX1_pieces_31 ?_
    refine lv_aload_n hx hb dX1_pieces_32 rfl (lv_at hl 1 rfl) ?_
    refine r_gf C S 1 k (by decide) hk (v := .int (u.1 1 k)) rfl rfl q181 dX1_pieces_33 ?_
    refine lv_iload_n hx hb dX1_pieces_36 rfl (lv_at hl 0 rfl) ?_
    refine lv_isub hx hb dX1_pieces_37 ?_
    refine lv_imul hx hb dX1_pieces_38 ?_
    refine lv_bipush (v := 100) hx hb dX1_pieces_39 (by decide) ?_
    refine lv_aload_n hx hb dX1_pieces_41 rfl (lv_at hl 2 rfl) ?_
    refine lv_iconst (v := 3) hx hb dX1_pieces_42 (by decide) ?_
    refine s_l7 C S (i := 3) (by decide) rfl dX1_pieces_43 ?_
    refine lv_iadd hx hb dX1_pieces_44 ?_
    refine lv_imul hx hb dX1_pieces_45 ?_
    refine lv_sipush (v := 1000) hx hb dX1_pieces_46 (by decide) ?_
    refine lv_idiv hx hb dX1_pieces_49 (by decide) ?_
    refine lv_iadd hx hb dX1_pieces_50 ?_
    exact g_iret C hrt (rp_left S.1) (rd_left S.2.1) S.2.2 dX1_pieces_51 ⟨(by subst ev3; exact rl_pc V Bk (rl_m1 (Int32.not_le.mp c1))), rfl⟩
set_option maxHeartbeats 4000000 in
set_option maxRecDepth 100000 in
theorem mX1_wage (l : Launch) (D : va_G) (t : Nat → Nat) (cI cR cB : ClassId) (o : Nat) (z : SA) (sz : Nat) (u : S0) (T : Nat) (B : rB T u) (k : Nat) (hk : k < u.2.1) : gMi l yX1_wage (rw_ yX1_wage cX1_wage 4 (some .int)) (rm_ 1 0 0 22) [.ref (z.2.1 k), .ref (z.1 0)] D (ty3 cI cR cB) t (rs_w cI cR o z u) sz (fun r w' => r = rf_ww u 7 k ∧ w' = rs_w cI cR o z u) := by
  refine g_of (cc := cX1_wage) (nL := 4) (rt := (some .int)) (Q := fun A => va_Qi _ (fun w' U => gQ D A w' U) A) (by decide) (Nat.le_of_ble_eq_true rfl) (fun p e s m args below meth c A ls H C hrt hnm hS hP hD hl => ?_)
  have hx := C.1
  have hb := C.2.1
  have hown := C.2.2.2.1
  have hts := C.2.2.2.2.1
  have hl : lv_has ls 4 [(0, .ref (z.2.1 k)), (1, .ref (z.1 0))] := hl
  have S : sS D A s cI cR o z u [] H [] := ⟨by rw [List.append_nil]; exact hP, by rw [List.append_nil]; exact hD, hS⟩
  obtain ⟨locs, elocs⟩ : ∃ z : List Loc, z = [] := ⟨_, rfl⟩
  rw [← elocs] at S ⊢
  have hT := B.2.1
  have V := B.2.2.1
  have Bk := B.2.2.2.2.1 k (Nat.lt_of_lt_of_le hk B.1)
  refine lv_aload_n hx hb dX1_wage_0 rfl (lv_at hl 0 rfl) ?_
  refine lv_aload_n hx hb dX1_wage_1 rfl (lv_at hl 1 rfl) ?_
  refine m_ci (wa := []) (wb := rs_w cI cR o z u) (wd := ([] : va_W)) (cells' := 0) (slots' := 0) rfl rfl C S.1 S.2.1 S.2.2 (fun hPb hDb => g_runVj (n := 1) (As := [.ref (z.1 0)]) C (mX1_pieces l D t cI cR cB o z H.size u T B k hk) (rw_V q177 q178 q179 q51 q180) kd_X1_pieces ⟨Nat.le_of_ble_eq_true rfl, Nat.le_of_ble_eq_true rfl⟩ (ci := 1) rfl rfl (4 + k) (rs_rp hk) C.2.2.2.2.2.1 hPb hDb S.2.2 hl.1 rfl rfl (Nat.le_of_ble_eq_true rfl) dX1_wage_2 ⟨Nat.le_of_ble_eq_true rfl, Nat.le_of_ble_eq_true rfl⟩) (fun v w' H locs hv _ hP9 hD9 hS9 => ?_)
  obtain ⟨rfl, rfl⟩ := hv
  have S : sS D A s cI cR o z u ([] : va_W) H locs := ⟨hP9, hD9, hS9⟩
  refine lv_topi (fun v1 ev1 => ?_)
  refine lv_istore_n (lv' := [(2, .int v1), (0, .ref (z.2.1 k)), (1, .ref (z.1 0))]) hx hb dX1_wage_5 rfl hl (by decide) rfl (fun ls hl => ?_)
  refine lv_aload_n hx hb dX1_wage_6 rfl (lv_at hl 2 rfl) ?_
  refine lv_iconst (v := 1) hx hb dX1_wage_7 (by decide) ?_
  refine s_l7 C S (i := 1) (by decide) rfl dX1_wage_8 ?_
  refine lv_aload_n hx hb dX1_wage_9 rfl (lv_at hl 1 rfl) ?_
  refine m_ci (wa := []) (wb := rs_w cI cR o z u) (wd := ([] : va_W)) (cells' := 0) (slots' := 0) rfl rfl C S.1 S.2.1 S.2.2 (fun hPb hDb => g_runVj (n := 0) (As := []) C (mX1_counting l D t cI cR cB o z H.size u T B k hk) (rw_V q182 q183 q184 q51 q185) kd_X1_counting ⟨Nat.le_of_ble_eq_true rfl, Nat.le_of_ble_eq_true rfl⟩ (ci := 1) rfl rfl (4 + k) (rs_rp hk) C.2.2.2.2.2.1 hPb hDb S.2.2 hl.1 rfl rfl (Nat.le_of_ble_eq_true rfl) dX1_wage_10 ⟨Nat.le_of_ble_eq_true rfl, Nat.le_of_ble_eq_true rfl⟩) (fun v w' H locs hv _ hP9 hD9 hS9 => ?_)
  obtain ⟨rfl, rfl⟩ := hv
  have S : sS D A s cI cR o z u ([] : va_W) H locs := ⟨hP9, hD9, hS9⟩
  refine lv_imul hx hb dX1_wage_13 ?_
  refine lv_topi (fun v2 ev2 => ?_)
  refine lv_istore_n (lv' := [(3, .int v2), (2, .int v1), (0, .ref (z.2.1 k)), (1, .ref (z.1 0))]) hx hb dX1_wage_14 rfl hl (by decide) rfl (fun ls hl => ?_)
  refine lv_aload_n hx hb dX1_wage_15 rfl (lv_at hl 2 rfl) ?_
  refine r_gf C S 0 k (by decide) hk (v := .int (u.1 0 k)) rfl rfl q176 dX1_wage_16 ?_
  refine lv_if_eq (tgt := 35) hx hb dX1_wage_19 (by decide) (fun c3 => ?_) (fun c3 => ?_)
  · refine lv_iload_n hx hb dX1_wage_35 rfl (lv_at hl 1 rfl) ?_
    refine lv_goto (tgt := 40) hx hb dX1_wage_36 (by decide) ?_
    exact g_iret C hrt (rp_left S.1) (rd_left S.2.1) S.2.2 dX1_wage_40 ⟨(by subst ev2; subst ev1; exact rl_w0 c3), rfl⟩
  · refine lv_aload_n hx hb dX1_wage_22 rfl (lv_at hl 2 rfl) ?_
    refine r_gf C S 0 k (by decide) hk (v := .int (u.1 0 k)) rfl rfl q176 dX1_wage_23 ?_
    refine lv_iconst (v := 2) hx hb dX1_wage_26 (by decide) ?_
    refine lv_icmp_ne (tgt := 39) hx hb dX1_wage_27 (by decide) (fun c4 => ?_) (fun c4 => ?_)
    · refine lv_iload_n hx hb dX1_wage_39 rfl (lv_at hl 0 rfl) ?_
      exact g_iret C hrt (rp_left S.1) (rd_left S.2.1) S.2.2 dX1_wage_40 ⟨(by subst ev2; subst ev1; exact rl_w1 Bk c3 c4), rfl⟩
    · refine lv_iload_n hx hb dX1_wage_30 rfl (lv_at hl 1 rfl) ?_
      refine lv_iload_n hx hb dX1_wage_31 rfl (lv_at hl 0 rfl) ?_
      refine lv_icmp_le (tgt := 39) hx hb dX1_wage_32 (by decide) (fun c5 => ?_) (fun c5 => ?_)
      · refine lv_iload_n hx hb dX1_wage_39 rfl (lv_at hl 0 rfl) ?_
        exact g_iret C hrt (rp_left S.1) (rd_left S.2.1) S.2.2 dX1_wage_40 ⟨(by subst ev2; subst ev1; exact rl_w2 c4 c5), rfl⟩
      · refine lv_iload_n hx hb dX1_wage_35 rfl (lv_at hl 1 rfl) ?_
        refine lv_goto (tgt := 40) hx hb dX1_wage_36 (by decide) ?_
        exact g_iret C hrt (rp_left S.1) (rd_left S.2.1) S.2.2 dX1_wage_40 ⟨(by subst ev2; subst ev1; exact rl_w3 c4 c5), rfl⟩
