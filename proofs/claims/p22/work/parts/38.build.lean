theorem nI_mod {i m : Nat} (h : i < 2147483648) (h0 : 0 < m) (hm : m < 2147483648) : nI i - nI i / nI m * nI m = nI (i % m) := by
  have e := rem_toInt (nI i) (nI m)
  have hl : i % m < m := Nat.mod_lt _ h0
  rw [tI_eq, e, tI_nI h, tI_nI hm, tI_nI (by omega), Int.tmod_eq_emod_of_nonneg (by omega)]
  rfl
theorem rB_0 : rB 0 ra_u0 := by
  refine ⟨by decide, by decide, ?_, fun c hc => ?_, fun r hr => ?_, fun r k _ hr hk1 hk7 => ?_⟩
  · unfold rV
    decide +kernel
  · show 0 ≤ (0 : Int32).toInt ∧ (0 : Int32).toInt ≤ _
    decide
  · have z : ∀ k : Nat, k < 7 → ra_u0.1 k r = 0 := fun k hk => by
      rw [show ra_u0.1 k = fun _ => 0 from if_neg (by omega)]
    unfold rR
    rw [z 0 (by decide), z 1 (by decide), z 2 (by decide), z 3 (by decide), z 4 (by decide), z 5 (by decide), z 6 (by decide)]
    decide
  · rw [show ra_u0.1 k = fun _ => 0 from if_neg (by omega)]
theorem kd_L_build : yL_build.cls ≠ "java/lang/invoke/MethodHandle" ∧ yL_build.cls ≠ "java/lang/invoke/VarHandle" ∧ (parseMethodDescriptor yL_build.desc).map (fun d => d.parameters.length) = some 2 := by decide +kernel
set_option maxHeartbeats 4000000 in
set_option maxRecDepth 100000 in
theorem lpL_build {p : Program} {l : Launch} {e : Env} {s : State} {m : MethodId} {args : Array Value} {below : List Frame} {meth : Method} {c : Code} {Q : State → Prop} {D : va_G} {t : Nat → Nat} {A : Nat → Prop} {cI cR cB : ClassId} {o ob NN : Nat} {ad : Nat → Nat} (C : gC p s m args meth c cL_build 5 RL D (ty3 cI cR cB) t A) (hL : t 10 ≤ 260) (hN : NN ≤ 79) (kk : ∀ (z : SA) (u : S0) (H : Heap) (locs : List Loc) (ls : Array Slot), rB NN u → sS D A s cI cR o z u (ra_w cI ob ad u) H locs → lv_has ls 5 [(0, .ref ob), (1, .ref (t 9)), (2, .ref o), (3, .int (nI NN)), (4, .int (nI NN))] → W p l e (rm_ 8 1600 5600 190) s m args below meth c H locs (4 + 20 * NN) (13 + 70 * NN) Q (F0 m 85 ls [])) :
    ∀ (n i : Nat), i + n = NN → ∀ (z : SA) (u : S0) (H : Heap) (locs : List Loc) (ls : Array Slot), rB i u → sS D A s cI cR o z u (ra_w cI ob ad u) H locs → lv_has ls 5 [(0, .ref ob), (1, .ref (t 9)), (2, .ref o), (3, .int (nI NN)), (4, .int (nI i))] → W p l e (rm_ 8 1600 5600 190) s m args below meth c H locs (4 + 20 * i) (13 + 70 * i) Q (F0 m 25 ls []) := by
  have hx := C.1
  have hb := C.2.1
  have hown := C.2.2.2.1
  have hts := C.2.2.2.2.1
  intro n
  induction n with
  | zero =>
    intro i hi z u H locs ls B S hl
    have hiN : i = NN := by omega
    refine lv_iload hx hb dL_build_25 (lv_at hl 4 rfl) ?_
    refine lv_iload_n hx hb dL_build_27 rfl (lv_at hl 3 rfl) ?_
    refine lv_icmp_ge (tgt := 85) hx hb dL_build_28 (by decide) (fun c1 => ?_) (fun c1 => absurd ((nI_leI (a := NN) (b := i) (by omega) (by omega)).mpr (by omega)) c1)
    rw [hiN] at B hl ⊢
    exact kk _ _ _ _ _ B S (lv_sub hl [0, 1, 2, 3, 4] rfl)
  | succ n ih =>
    intro i hi z u H locs ls B S hl
    have hin : i < NN := by omega
    refine lv_iload hx hb dL_build_25 (lv_at hl 4 rfl) ?_
    refine lv_iload_n hx hb dL_build_27 rfl (lv_at hl 3 rfl) ?_
    refine lv_icmp_ge (tgt := 85) hx hb dL_build_28 (by decide) (fun c1 => absurd c1 (fun h9 => absurd ((nI_leI (a := NN) (b := i) (by omega) (by omega)).mp h9) (by omega))) (fun c1 => ?_)
    refine lv_aload_n hx hb dL_build_31 rfl (lv_at hl 0 rfl) ?_
    refine lv_aload_n hx hb dL_build_32 rfl (lv_at hl 2 rfl) ?_
    refine lv_aload_n hx hb dL_build_33 rfl (lv_at hl 1 rfl) ?_
    refine lv_iload hx hb dL_build_34 (lv_at hl 4 rfl) ?_
    refine lv_bipush (v := 16) hx hb dL_build_36 (by decide) ?_
    refine lv_irem hx hb dL_build_38 (by decide) ?_
    refine g_top (nI_mod (m := 16) (by omega) (by decide) (by decide)) ?_
    refine m_ci (wa := []) (wb := []) (wd := rs_w cI cR o z u ++ (ra_w cI ob ad u)) (cells' := 4 + 20 * i + 0) (slots' := 13 + 70 * i + 0) rfl rfl C S.1 S.2.1 S.2.2 (fun hPb hDb => g_runS (wr := (rs_w cI cR o z u ++ (ra_w cI ob ad u)) ++ []) (n := 2) (As := [.ref (t 9), .int (nI (i % 16))]) C (mL_cell l D t cI cR cB H.size hL (i % 16) (by omega)) (rw_S q37 q38 q25 q39) kd_L_cell ⟨Nat.le_of_ble_eq_true rfl, Nat.le_of_ble_eq_true rfl⟩ C.2.2.2.2.2.1 hPb hDb S.2.2 hl.1 rfl rfl (Nat.le_of_ble_eq_true rfl) dL_build_39 ⟨(show 4 + 20 * i + 0 ≤ 1600 by omega), (show 13 + 70 * i + 0 ≤ 5600 by omega)⟩) (fun v w' H locs hv _ hP9 hD9 hS9 => ?_)
    obtain rfl := hv
    have S : sS D A s cI cR o z u (ra_w cI ob ad u) H locs := ⟨hP9, hD9, hS9⟩
    refine lv_iload hx hb dL_build_42 (lv_at hl 4 rfl) ?_
    refine lv_bipush (v := 16) hx hb dL_build_44 (by decide) ?_
    refine lv_idiv hx hb dL_build_46 (by decide) ?_
    refine lv_iconst (v := 3) hx hb dL_build_47 (by decide) ?_
    refine lv_imul hx hb dL_build_48 ?_
    refine lv_ishr hx hb dL_build_49 ?_
    refine lv_sipush (v := 401) hx hb dL_build_50 (by decide) ?_
    refine lv_iload hx hb dL_build_53 (lv_at hl 4 rfl) ?_
    refine lv_imul hx hb dL_build_55 ?_
    refine lv_iadd hx hb dL_build_56 ?_
    refine lv_iload hx hb dL_build_57 (lv_at hl 4 rfl) ?_
    refine lv_iconst (v := 3) hx hb dL_build_59 (by decide) ?_
    refine lv_icmp_ge (tgt := 69) hx hb dL_build_60 (by decide) (fun c2 => ?_) (fun c2 => ?_)
    · refine lv_iconst (v := 0) hx hb dL_build_69 (by decide) ?_
      refine lv_iadd hx hb dL_build_70 ?_
      refine lv_topi (fun x3 _ => ?_)
      refine m_ci (wa := []) (wb := rs_w cI cR o z u ++ ra_w cI ob ad u) (wd := []) (cells' := 4 + 20 * i + 0 + 20) (slots' := 13 + 70 * i + 0 + 70) rfl rfl C (by rw [List.nil_append, List.append_assoc]; exact S.1) (by rw [List.nil_append, List.append_assoc]; exact S.2.1) S.2.2 (fun hPb hDb => g_runS (wr := ([]) ++ []) (n := 3) (As := [.ref ob, .ref o, .int x3]) C (mL_act l D t cI cR cB o ob ad z H.size u _ B (by omega) x3) (rw_S q45 q46 q25 q47) kd_L_act ⟨Nat.le_of_ble_eq_true rfl, Nat.le_of_ble_eq_true rfl⟩ C.2.2.2.2.2.1 hPb hDb S.2.2 hl.1 rfl rfl (Nat.le_of_ble_eq_true rfl) dL_build_71 ⟨(show 4 + 20 * i + 0 + 20 ≤ 1600 by omega), (show 13 + 70 * i + 0 + 70 ≤ 5600 by omega)⟩) (fun v w' H locs hv _ hP9 hD9 hS9 => ?_)
      obtain ⟨rfl, z, u, B, rfl⟩ := hv
      rw [List.nil_append, List.append_assoc] at hP9 hD9
      have S : sS D A s cI cR o z u (ra_w cI ob ad u) H locs := ⟨hP9, hD9, hS9⟩
      refine lv_if_ne (tgt := 79) hx hb dL_build_74 (by decide) (fun c4 => ?_) (fun c4 => absurd c4 (by decide))
      refine lv_iinc (v := nI (i + 1)) (lv' := [(4, .int (nI (i + 1))), (0, .ref ob), (1, .ref (t 9)), (2, .ref o), (3, .int (nI NN))]) hx hb dL_build_79 hl (k := 4) rfl (nI_1 _) (by decide) rfl (fun ls hl => ?_)
      refine lv_goto (tgt := 25) hx hb dL_build_82 (by decide) ?_
      refine W.widen (k := 4 + 20 * (i + 1)) (n := 13 + 70 * (i + 1)) (by omega) (by omega) ?_
      exact ih (i + 1) (by omega) _ _ _ _ _ B S (lv_sub hl [1, 2, 3, 4, 0] rfl)
    · refine lv_sipush (v := 512) hx hb dL_build_63 (by decide) ?_
      refine lv_goto (tgt := 70) hx hb dL_build_66 (by decide) ?_
      refine lv_iadd hx hb dL_build_70 ?_
      refine lv_topi (fun x5 _ => ?_)
      refine m_ci (wa := []) (wb := rs_w cI cR o z u ++ ra_w cI ob ad u) (wd := []) (cells' := 4 + 20 * i + 0 + 20) (slots' := 13 + 70 * i + 0 + 70) rfl rfl C (by rw [List.nil_append, List.append_assoc]; exact S.1) (by rw [List.nil_append, List.append_assoc]; exact S.2.1) S.2.2 (fun hPb hDb => g_runS (wr := ([]) ++ []) (n := 3) (As := [.ref ob, .ref o, .int x5]) C (mL_act l D t cI cR cB o ob ad z H.size u _ B (by omega) x5) (rw_S q45 q46 q25 q47) kd_L_act ⟨Nat.le_of_ble_eq_true rfl, Nat.le_of_ble_eq_true rfl⟩ C.2.2.2.2.2.1 hPb hDb S.2.2 hl.1 rfl rfl (Nat.le_of_ble_eq_true rfl) dL_build_71 ⟨(show 4 + 20 * i + 0 + 20 ≤ 1600 by omega), (show 13 + 70 * i + 0 + 70 ≤ 5600 by omega)⟩) (fun v w' H locs hv _ hP9 hD9 hS9 => ?_)
      obtain ⟨rfl, z, u, B, rfl⟩ := hv
      rw [List.nil_append, List.append_assoc] at hP9 hD9
      have S : sS D A s cI cR o z u (ra_w cI ob ad u) H locs := ⟨hP9, hD9, hS9⟩
      refine lv_if_ne (tgt := 79) hx hb dL_build_74 (by decide) (fun c6 => ?_) (fun c6 => absurd c6 (by decide))
      refine lv_iinc (v := nI (i + 1)) (lv' := [(4, .int (nI (i + 1))), (0, .ref ob), (1, .ref (t 9)), (2, .ref o), (3, .int (nI NN))]) hx hb dL_build_79 hl (k := 4) rfl (nI_1 _) (by decide) rfl (fun ls hl => ?_)
      refine lv_goto (tgt := 25) hx hb dL_build_82 (by decide) ?_
      refine W.widen (k := 4 + 20 * (i + 1)) (n := 13 + 70 * (i + 1)) (by omega) (by omega) ?_
      exact ih (i + 1) (by omega) _ _ _ _ _ B S (lv_sub hl [1, 2, 3, 4, 0] rfl)
set_option maxHeartbeats 4000000 in
set_option maxRecDepth 100000 in
theorem mL_build (l : Launch) (D : va_G) (t : Nat → Nat) (cI cR cB : ClassId) (ob : Nat) (ad : Nat → Nat) (sz : Nat) (hL : t 10 ≤ 260) : gMr l yL_build (rw_ yL_build cL_build 5 (some (.object "ReaperWagesLaw$Sim"))) (rm_ 8 1600 5600 190) [.ref ob, .ref (t 9)] D (ty3 cI cR cB) t (ra_w cI ob ad ra_u0) sz (fun x => ∃ (z : SA) (u : S0) (T : Nat), T ≤ 79 ∧ rB T u ∧ x.2 = rs_w cI cR x.1 z u ++ ra_w cI ob ad u) := by
  refine g_of (cc := cL_build) (nL := 5) (rt := (some (.object "ReaperWagesLaw$Sim"))) (Q := fun A => va_Qr (S := Nat × va_W) _ (fun u a U => u.1 = a ∧ gQ D A u.2 U) A) (by decide) (Nat.le_of_ble_eq_true rfl) (fun p e s m args below meth c A ls H C hrt hnm hS hP hD hl => ?_)
  have hx := C.1
  have hb := C.2.1
  have hown := C.2.2.2.1
  have hts := C.2.2.2.2.1
  have hl : lv_has ls 5 [(0, .ref ob), (1, .ref (t 9))] := hl
  refine va_new (ci := 2) (fs := [.int 0, .null, .null, .null, .null]) (C := RX2) (T := TX2) (N := 5) C.1 C.2.1 C.2.2.2.2.1 inlX2 tyX2 tyX2_ok C.2.2.2.1 (C.2.2.2.2.1 _ q27) (C.2.2.2.2.1 _ q28) (C.2.2.2.2.1 _ q29) C.2.2.2.2.2.1 hP hD hS C.2.2.2.2.2.2.1 rfl (fun j hj => by rcases (show j = 0 ∨ j = 1 ∨ j = 2 ∨ j = 3 ∨ j = 4 by omega) with rfl | rfl | rfl | rfl | rfl <;> rfl) (Nat.le_of_ble_eq_true rfl) (Nat.le_of_ble_eq_true rfl) dL_build_0 (fun o H hP hD hS => ?_)
  refine lv_dup hx hb dL_build_3 rfl ?_
  refine m_cv (wa := ra_w cI ob ad ra_u0) (wb := [(o, .inr (2, [.int 0, .null, .null, .null, .null]))]) (wd := []) (cells' := 4) (slots' := 13) rfl rfl C hP hD hS (fun hPb hDb => g_runIN (n := 0) (As := []) C (mX2_init l D t cI cR cB o H.size) q31 q29 (C.2.2.2.2.2.2.2.1.2.2.2.2.2.2.2.2.1) q30 rfl kd_X2_init ⟨Nat.le_of_ble_eq_true rfl, Nat.le_of_ble_eq_true rfl⟩ C.2.2.2.2.2.1 hPb hDb hS hl.1 rfl rfl (Nat.le_of_ble_eq_true rfl) dL_build_4 ⟨Nat.le_of_ble_eq_true rfl, Nat.le_of_ble_eq_true rfl⟩) (fun w' H locs hv _ hP9 hD9 hS9 => ?_)
  obtain ⟨z0, hz0, rfl⟩ := hv
  rw [List.append_nil] at hP9 hD9
  have S : sS D A s cI cR o z0 ra_u0 (ra_w cI ob ad ra_u0) H locs := ⟨va_P.app (rp_right hP9) (rp_left hP9), rd_swap hD9, hS9⟩
  refine lv_astore_n (lv' := [(2, .ref o), (0, .ref ob), (1, .ref (t 9))]) hx hb dL_build_7 rfl hl (by decide) rfl (fun ls hl => ?_)
  refine lv_bipush (v := 20) hx hb dL_build_8 (by decide) ?_
  refine lv_aload_n hx hb dL_build_10 rfl (lv_at hl 2 rfl) ?_
  refine lv_iconst (v := 0) hx hb dL_build_11 (by decide) ?_
  refine m_ci (wa := []) (wb := []) (wd := rs_w cI cR o z0 ra_u0 ++ (ra_w cI ob ad ra_u0)) (cells' := 4) (slots' := 13) rfl rfl C S.1 S.2.1 S.2.2 (fun hPb hDb => g_runS (wr := (rs_w cI cR o z0 ra_u0 ++ (ra_w cI ob ad ra_u0)) ++ []) (n := 2) (As := [.ref (t 9), .int 0]) C (mL_cell l D t cI cR cB H.size hL 0 (by omega)) (rw_S q37 q38 q25 q39) kd_L_cell ⟨Nat.le_of_ble_eq_true rfl, Nat.le_of_ble_eq_true rfl⟩ C.2.2.2.2.2.1 hPb hDb S.2.2 hl.1 rfl rfl (Nat.le_of_ble_eq_true rfl) dL_build_12 ⟨Nat.le_of_ble_eq_true rfl, Nat.le_of_ble_eq_true rfl⟩) (fun v w' H locs hv _ hP9 hD9 hS9 => ?_)
  obtain rfl := hv
  have S : sS D A s cI cR o z0 ra_u0 (ra_w cI ob ad ra_u0) H locs := ⟨hP9, hD9, hS9⟩
  refine lv_bipush (v := 60) hx hb dL_build_15 (by decide) ?_
  refine m_ci (wa := []) (wb := []) (wd := rs_w cI cR o z0 ra_u0 ++ (ra_w cI ob ad ra_u0)) (cells' := 4) (slots' := 13) rfl rfl C S.1 S.2.1 S.2.2 (fun hPb hDb => g_runS (wr := (rs_w cI cR o z0 ra_u0 ++ (ra_w cI ob ad ra_u0)) ++ []) (n := 2) (As := [.int v, .int 60]) C (mL_below l D t cI cR cB H.size v 60 (by decide) (by decide)) (rw_S q41 q42 q25 q43) kd_L_below ⟨Nat.le_of_ble_eq_true rfl, Nat.le_of_ble_eq_true rfl⟩ C.2.2.2.2.2.1 hPb hDb S.2.2 hl.1 rfl rfl (Nat.le_of_ble_eq_true rfl) dL_build_17 ⟨Nat.le_of_ble_eq_true rfl, Nat.le_of_ble_eq_true rfl⟩) (fun v w' H locs hv _ hP9 hD9 hS9 => ?_)
  obtain ⟨⟨j1, hj1, rfl⟩, rfl⟩ := hv
  have S : sS D A s cI cR o z0 ra_u0 (ra_w cI ob ad ra_u0) H locs := ⟨hP9, hD9, hS9⟩
  refine lv_iadd hx hb dL_build_20 ?_
  refine g_top (nI_add 20 j1) ?_
  refine lv_istore_n (lv' := [(3, .int (nI (20 + j1))), (2, .ref o), (0, .ref ob), (1, .ref (t 9))]) hx hb dL_build_21 rfl hl (by decide) rfl (fun ls hl => ?_)
  obtain ⟨NN, eN⟩ : ∃ N : Nat, N = 20 + j1 := ⟨_, rfl⟩
  rw [← eN] at hl
  refine lv_iconst (v := 0) hx hb dL_build_22 (by decide) ?_
  refine lv_istore (lv' := [(4, .int 0), (3, .int (nI NN)), (2, .ref o), (0, .ref ob), (1, .ref (t 9))]) hx hb dL_build_23 hl (by decide) rfl (fun ls hl => ?_)
  refine lpL_build C hL (by omega) (fun z u H locs ls B S hl => ?_) NN 0 (by omega) z0 ra_u0 _ _ _ rB_0 S (lv_sub hl [3, 4, 2, 1, 0] rfl)
  refine W.widen (k := 1600) (n := 5600) (by omega) (by omega) ?_
  refine lv_aload_n hx hb dL_build_85 rfl (lv_at hl 2 rfl) ?_
  exact g_areto C hrt S.1 S.2.1 S.2.2 dL_build_86 ⟨z, u, NN, by omega, B, rfl⟩
