theorem kd_X2_back : yX2_back.cls = yX2_back.cls ∧ yX2_back.cls ≠ "java/lang/invoke/MethodHandle" ∧ yX2_back.cls ≠ "java/lang/invoke/VarHandle" ∧ (parseMethodDescriptor yX2_back.desc).map (fun d => d.parameters.length) = some 1 := by decide +kernel
theorem kd_X2_wages : yX2_wages.cls = yX2_wages.cls ∧ yX2_wages.cls ≠ "java/lang/invoke/MethodHandle" ∧ yX2_wages.cls ≠ "java/lang/invoke/VarHandle" ∧ (parseMethodDescriptor yX2_wages.desc).map (fun d => d.parameters.length) = some 0 := by decide +kernel
set_option maxHeartbeats 4000000 in
set_option maxRecDepth 100000 in
theorem mX2_back (l : Launch) (D : va_G) (t : Nat → Nat) (cI cR cB : ClassId) (o : Nat) (z : SA) (sz : Nat) (u : S0) (T : Nat) (B : rB T u) (k : Nat) (hk : k < u.2.1) : gMi l yX2_back (rw_ yX2_back cX2_back 3 (some .int)) (rm_ 2 0 0 45) [.ref o, .ref (z.2.1 k)] D (ty3 cI cR cB) t (rs_w cI cR o z u) sz (fun r w' => r = rf_tk u k ∧ w' = rs_w cI cR o z u) := by
  refine g_of (cc := cX2_back) (nL := 3) (rt := (some .int)) (Q := fun A => va_Qi _ (fun w' U => gQ D A w' U) A) (by decide) (Nat.le_of_ble_eq_true rfl) (fun p e s m args below meth c A ls H C hrt hnm hS hP hD hl => ?_)
  have hx := C.1
  have hb := C.2.1
  have hown := C.2.2.2.1
  have hts := C.2.2.2.2.1
  have hl : lv_has ls 3 [(0, .ref o), (1, .ref (z.2.1 k))] := hl
  have S : sS D A s cI cR o z u [] H [] := ⟨by rw [List.append_nil]; exact hP, by rw [List.append_nil]; exact hD, hS⟩
  obtain ⟨locs, elocs⟩ : ∃ z : List Loc, z = [] := ⟨_, rfl⟩
  rw [← elocs] at S ⊢
  have hT := B.2.1
  have V := B.2.2.1
  have Bk := B.2.2.2.2.1 k (Nat.lt_of_lt_of_le hk B.1)
  refine lv_aload_n hx hb dX2_back_0 rfl (lv_at hl 1 rfl) ?_
  refine lv_aload_n hx hb dX2_back_1 rfl (lv_at hl 0 rfl) ?_
  refine s_gf C S 1 (by decide) (v := .ref (z.1 0)) rfl rfl q33 dX2_back_2 ?_
  refine m_ci (wa := []) (wb := rs_w cI cR o z u) (wd := ([] : va_W)) (cells' := 0) (slots' := 0) rfl rfl C S.1 S.2.1 S.2.2 (fun hPb hDb => g_runVj (n := 1) (As := [.ref (z.1 0)]) C (mX1_wage l D t cI cR cB o z H.size u T B k hk) (rw_V q172 q173 q174 q51 q175) kd_X1_wage ⟨Nat.le_of_ble_eq_true rfl, Nat.le_of_ble_eq_true rfl⟩ (ci := 1) rfl rfl (4 + k) (rs_rp hk) C.2.2.2.2.2.1 hPb hDb S.2.2 hl.1 rfl rfl (Nat.le_of_ble_eq_true rfl) dX2_back_5 ⟨Nat.le_of_ble_eq_true rfl, Nat.le_of_ble_eq_true rfl⟩) (fun v w' H locs hv _ hP9 hD9 hS9 => ?_)
  obtain ⟨rfl, rfl⟩ := hv
  have S : sS D A s cI cR o z u ([] : va_W) H locs := ⟨hP9, hD9, hS9⟩
  refine lv_aload_n hx hb dX2_back_8 rfl (lv_at hl 1 rfl) ?_
  refine r_gf C S 5 k (by decide) hk (v := .int (u.1 5 k)) rfl rfl q161 dX2_back_9 ?_
  refine lv_iadd hx hb dX2_back_12 ?_
  refine lv_aload_n hx hb dX2_back_13 rfl (lv_at hl 0 rfl) ?_
  refine s_gf C S 1 (by decide) (v := .ref (z.1 0)) rfl rfl q33 dX2_back_14 ?_
  refine lv_iconst (v := 4) hx hb dX2_back_17 (by decide) ?_
  refine s_l7 C S (i := 4) (by decide) rfl dX2_back_18 ?_
  refine lv_idiv hx hb dX2_back_19 (rl_nz V) ?_
  refine lv_topi (fun v1 ev1 => ?_)
  refine lv_istore_n (lv' := [(2, .int v1), (0, .ref o), (1, .ref (z.2.1 k))]) hx hb dX2_back_20 rfl hl (by decide) rfl (fun ls hl => ?_)
  refine lv_aload_n hx hb dX2_back_21 rfl (lv_at hl 2 rfl) ?_
  refine r_gf C S 4 k (by decide) hk (v := .int (u.1 4 k)) rfl rfl q162 dX2_back_22 ?_
  refine lv_iload_n hx hb dX2_back_25 rfl (lv_at hl 0 rfl) ?_
  refine lv_icmp_ge (tgt := 36) hx hb dX2_back_26 (by decide) (fun c2 => ?_) (fun c2 => ?_)
  · refine lv_iload_n hx hb dX2_back_36 rfl (lv_at hl 0 rfl) ?_
    exact g_iret C hrt (rp_left S.1) (rd_left S.2.1) S.2.2 dX2_back_37 ⟨(by subst ev1; exact rl_b2 V c2), rfl⟩
  · refine lv_aload_n hx hb dX2_back_29 rfl (lv_at hl 2 rfl) ?_
    refine r_gf C S 4 k (by decide) hk (v := .int (u.1 4 k)) rfl rfl q162 dX2_back_30 ?_
    refine lv_goto (tgt := 37) hx hb dX2_back_33 (by decide) ?_
    exact g_iret C hrt (rp_left S.1) (rd_left S.2.1) S.2.2 dX2_back_37 ⟨(by subst ev1; exact rl_b1 V c2), rfl⟩
set_option maxHeartbeats 4000000 in
set_option maxRecDepth 100000 in
theorem lpX2_wages {p : Program} {l : Launch} {e : Env} {s : State} {m : MethodId} {args : Array Value} {below : List Frame} {meth : Method} {c : Code} {Q : State → Prop} {D : va_G} {t : Nat → Nat} {A : Nat → Prop} {cI cR cB : ClassId} {o : Nat} {z : SA} {u : S0} (C : gC p s m args meth c cX2_wages 6 RX2 D (ty3 cI cR cB) t A) {T : Nat} (B : rB T u) (kk : ∀ (H : Heap) (locs : List Loc) (ls : Array Slot), sS D A s cI cR o z u ([]) H locs → lv_has ls 6 [(0, .ref o), (1, .int (rf_sm (rf_ww u 7) u.2.1)), (2, .ref (z.1 2)), (3, .int (nI u.2.1)), (4, .int (nI u.2.1))] → W p l e (rm_ 2 0 0 45) s m args below meth c H locs 0 0 Q (F0 m 43 ls [])) :
    ∀ (n i : Nat), i + n = u.2.1 → ∀ (H : Heap) (locs : List Loc) (ls : Array Slot), sS D A s cI cR o z u ([]) H locs → lv_has ls 6 [(0, .ref o), (1, .int (rf_sm (rf_ww u 7) i)), (2, .ref (z.1 2)), (3, .int (nI u.2.1)), (4, .int (nI i))] → W p l e (rm_ 2 0 0 45) s m args below meth c H locs 0 0 Q (F0 m 13 ls []) := by
  have hx := C.1
  have hb := C.2.1
  have hown := C.2.2.2.1
  have hts := C.2.2.2.2.1
  have hu8 : u.2.1 ≤ 8 := B.1
  intro n
  induction n with
  | zero =>
    intro i hi H locs ls S hl
    have hiN : i = u.2.1 := by omega
    refine lv_iload hx hb dX2_wages_13 (lv_at hl 4 rfl) ?_
    refine lv_iload_n hx hb dX2_wages_15 rfl (lv_at hl 3 rfl) ?_
    refine lv_icmp_ge (tgt := 43) hx hb dX2_wages_16 (by decide) (fun c1 => ?_) (fun c1 => absurd ((nI_leI (a := u.2.1) (b := i) (by omega) (by omega)).mpr (by omega)) c1)
    subst hiN
    exact kk _ _ _ S (lv_sub hl [0, 1, 2, 3, 4] rfl)
  | succ n ih =>
    intro i hi H locs ls S hl
    have hin : i < u.2.1 := by omega
    refine lv_iload hx hb dX2_wages_13 (lv_at hl 4 rfl) ?_
    refine lv_iload_n hx hb dX2_wages_15 rfl (lv_at hl 3 rfl) ?_
    refine lv_icmp_ge (tgt := 43) hx hb dX2_wages_16 (by decide) (fun c1 => absurd c1 (fun h9 => absurd ((nI_leI (a := u.2.1) (b := i) (by omega) (by omega)).mp h9) (by omega))) (fun c1 => ?_)
    refine lv_aload_n hx hb dX2_wages_19 rfl (lv_at hl 2 rfl) ?_
    refine lv_iload hx hb dX2_wages_20 (lv_at hl 4 rfl) ?_
    refine s_al C S hu8 hin rfl dX2_wages_22 ?_
    refine lv_astore (lv' := [(5, .ref (z.2.1 i)), (0, .ref o), (1, .int (rf_sm (rf_ww u 7) i)), (2, .ref (z.1 2)), (3, .int (nI u.2.1)), (4, .int (nI i))]) hx hb dX2_wages_23 hl (by decide) rfl (fun ls hl => ?_)
    refine lv_iload_n hx hb dX2_wages_25 rfl (lv_at hl 2 rfl) ?_
    refine lv_aload hx hb dX2_wages_26 (lv_at hl 0 rfl) ?_
    refine lv_aload_n hx hb dX2_wages_28 rfl (lv_at hl 1 rfl) ?_
    refine s_gf C S 1 (by decide) (v := .ref (z.1 0)) rfl rfl q33 dX2_wages_29 ?_
    refine m_ci (wa := []) (wb := rs_w cI cR o z u) (wd := []) (cells' := 0) (slots' := 0) rfl rfl C S.1 S.2.1 S.2.2 (fun hPb hDb => g_runVj (n := 1) (As := [.ref (z.1 0)]) C (mX1_wage l D t cI cR cB o z H.size u T B i hin) (rw_V q172 q173 q174 q51 q175) kd_X1_wage ⟨Nat.le_of_ble_eq_true rfl, Nat.le_of_ble_eq_true rfl⟩ (ci := 1) rfl rfl (4 + i) (rs_rp hin) C.2.2.2.2.2.1 hPb hDb S.2.2 hl.1 rfl rfl (Nat.le_of_ble_eq_true rfl) dX2_wages_32 ⟨Nat.le_of_ble_eq_true rfl, Nat.le_of_ble_eq_true rfl⟩) (fun v w' H locs hv _ hP9 hD9 hS9 => ?_)
    obtain ⟨rfl, rfl⟩ := hv
    have S : sS D A s cI cR o z u ([]) H locs := ⟨hP9, hD9, hS9⟩
    refine lv_iadd hx hb dX2_wages_35 ?_
    refine lv_topi (fun v2 ev2 => ?_)
    refine lv_istore_n (lv' := [(1, .int v2), (5, .ref (z.2.1 i)), (0, .ref o), (2, .ref (z.1 2)), (3, .int (nI u.2.1)), (4, .int (nI i))]) hx hb dX2_wages_36 rfl hl (by decide) rfl (fun ls hl => ?_)
    refine lv_iinc (v := nI (i + 1)) (lv' := [(4, .int (nI (i + 1))), (1, .int v2), (5, .ref (z.2.1 i)), (0, .ref o), (2, .ref (z.1 2)), (3, .int (nI u.2.1))]) hx hb dX2_wages_37 hl (k := 5) rfl (nI_1 _) (by decide) rfl (fun ls hl => ?_)
    refine lv_goto (tgt := 13) hx hb dX2_wages_40 (by decide) ?_
    subst ev2
    exact ih (i + 1) (by omega) _ _ _ S (lv_sub hl [3, 1, 4, 5, 0] rfl)
set_option maxHeartbeats 4000000 in
set_option maxRecDepth 100000 in
theorem mX2_wages (l : Launch) (D : va_G) (t : Nat → Nat) (cI cR cB : ClassId) (o : Nat) (z : SA) (sz : Nat) (u : S0) (T : Nat) (B : rB T u) : gMi l yX2_wages (rw_ yX2_wages cX2_wages 6 (some .int)) (rm_ 2 0 0 45) [.ref o] D (ty3 cI cR cB) t (rs_w cI cR o z u) sz (fun r w' => r = rf_sm (rf_ww u 7) u.2.1 ∧ w' = rs_w cI cR o z u) := by
  refine g_of (cc := cX2_wages) (nL := 6) (rt := (some .int)) (Q := fun A => va_Qi _ (fun w' U => gQ D A w' U) A) (by decide) (Nat.le_of_ble_eq_true rfl) (fun p e s m args below meth c A ls H C hrt hnm hS hP hD hl => ?_)
  have hx := C.1
  have hb := C.2.1
  have hown := C.2.2.2.1
  have hts := C.2.2.2.2.1
  have hl : lv_has ls 6 [(0, .ref o)] := hl
  have S : sS D A s cI cR o z u [] H [] := ⟨by rw [List.append_nil]; exact hP, by rw [List.append_nil]; exact hD, hS⟩
  obtain ⟨locs, elocs⟩ : ∃ z : List Loc, z = [] := ⟨_, rfl⟩
  rw [← elocs] at S ⊢
  have hu8 : u.2.1 ≤ 8 := B.1
  refine lv_iconst (v := 0) hx hb dX2_wages_0 (by decide) ?_
  refine lv_istore_n (lv' := [(1, .int 0), (0, .ref o)]) hx hb dX2_wages_1 rfl hl (by decide) rfl (fun ls hl => ?_)
  refine lv_aload_n hx hb dX2_wages_2 rfl (lv_at hl 1 rfl) ?_
  refine s_gf C S 3 (by decide) (v := .ref (z.1 2)) rfl rfl q36 dX2_wages_3 ?_
  refine lv_astore_n (lv' := [(2, .ref (z.1 2)), (1, .int 0), (0, .ref o)]) hx hb dX2_wages_6 rfl hl (by decide) rfl (fun ls hl => ?_)
  refine lv_aload_n hx hb dX2_wages_7 rfl (lv_at hl 0 rfl) ?_
  refine s_an C S dX2_wages_8 ?_
  refine lv_istore_n (lv' := [(3, .int (nI u.2.1)), (2, .ref (z.1 2)), (1, .int 0), (0, .ref o)]) hx hb dX2_wages_9 rfl hl (by decide) rfl (fun ls hl => ?_)
  refine lv_iconst (v := 0) hx hb dX2_wages_10 (by decide) ?_
  refine lv_istore (lv' := [(4, .int 0), (3, .int (nI u.2.1)), (2, .ref (z.1 2)), (1, .int 0), (0, .ref o)]) hx hb dX2_wages_11 hl (by decide) rfl (fun ls hl => ?_)
  refine lpX2_wages C B (fun H locs ls S hl => ?_) u.2.1 0 (by omega) _ _ _ S (lv_sub hl [4, 3, 2, 1, 0] rfl)
  refine lv_iload_n hx hb dX2_wages_43 rfl (lv_at hl 1 rfl) ?_
  exact g_iret C hrt (rp_left S.1) (rd_left S.2.1) S.2.2 dX2_wages_44 ⟨rfl, rfl⟩
