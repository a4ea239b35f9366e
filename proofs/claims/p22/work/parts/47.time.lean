set_option maxHeartbeats 4000000 in
set_option maxRecDepth 100000 in
theorem lpL_law {p : Program} {l : Launch} {e : Env} {s : State} {m : MethodId} {args : Array Value} {below : List Frame} {meth : Method} {c : Code} {Q : State → Prop} {D : va_G} {t : Nat → Nat} {A : Nat → Prop} {cI cR cB : ClassId} {o ob : Nat} {ad : Nat → Nat} (C : gC p s m args meth c code 23 RL D (ty3 cI cR cB) t A) (hL : t 10 ≤ 260) (kk : ∀ (z : SA) (u : S0) (T : Nat) (H : Heap) (locs : List Loc) (ls : Array Slot), T ≤ 79 + 5 * 30 → rB T u → sS D A s cI cR o z u (ra_w cI ob ad u) H locs → lv_has ls 23 [(0, .ref (t 9)), (1, .ref ob), (2, .ref o), (3, .int (nI 30))] → W p l e room_1 s m args below meth c H locs (1700 + 120 * 30) (5800 + 420 * 30) Q (F0 m 953 ls [])) :
    ∀ (n i : Nat), i + n = 30 → ∀ (z : SA) (u : S0) (T : Nat) (H : Heap) (locs : List Loc) (ls : Array Slot), T ≤ 79 + 5 * i → rB T u → sS D A s cI cR o z u (ra_w cI ob ad u) H locs → lv_has ls 23 [(0, .ref (t 9)), (1, .ref ob), (2, .ref o), (3, .int (nI i))] → W p l e room_1 s m args below meth c H locs (1700 + 120 * i) (5800 + 420 * i) Q (F0 m 22 ls []) := by
  have hx := C.1
  have hb := C.2.1
  have hown := C.2.2.2.1
  have hts := C.2.2.2.2.1
  intro n
  induction n with
  | zero =>
    intro i hi z u T H locs ls hT B S hl
    have hiN : i = 30 := by omega
    refine lv_iload_n hx hb dL_law_22 rfl (lv_at hl 3 rfl) ?_
    refine lv_bipush (v := 30) hx hb dL_law_23 (by decide) ?_
    refine lv_icmp_ge (tgt := 953) hx hb dL_law_25 (by decide) (fun c1 => ?_) (fun c1 => absurd ((nI_leI (a := 30) (b := i) (by omega) (by omega)).mpr (by omega)) c1)
    rw [hiN] at hT hl ⊢
    exact kk _ _ _ _ _ _ hT B S (lv_sub hl [0, 1, 2, 3] rfl)
  | succ n ih =>
    intro i hi z u T H locs ls hT B S hl
    have hin : i < 30 := by omega
    have hu8 : u.2.1 ≤ 8 := B.1
    refine lv_iload_n hx hb dL_law_22 rfl (lv_at hl 3 rfl) ?_
    refine lv_bipush (v := 30) hx hb dL_law_23 (by decide) ?_
    refine lv_icmp_ge (tgt := 953) hx hb dL_law_25 (by decide) (fun c1 => absurd c1 (fun h9 => absurd ((nI_leI (a := 30) (b := i) (by omega) (by omega)).mp h9) (by omega))) (fun c1 => ?_)
    refine lv_aload_n hx hb dL_law_28 rfl (lv_at hl 0 rfl) ?_
    refine lv_iload_n hx hb dL_law_29 rfl (lv_at hl 3 rfl) ?_
    refine lv_bipush (v := 16) hx hb dL_law_30 (by decide) ?_
    refine lv_irem hx hb dL_law_32 (by decide) ?_
    refine g_top (nI_mod (m := 16) (by omega) (by decide) (by decide)) ?_
    refine m_ci (wa := []) (wb := []) (wd := rs_w cI cR o z u ++ (ra_w cI ob ad u)) (cells' := 1700 + 120 * i) (slots' := 5800 + 420 * i) rfl rfl C S.1 S.2.1 S.2.2 (fun hPb hDb => g_runS (wr := (rs_w cI cR o z u ++ (ra_w cI ob ad u)) ++ []) (n := 2) (As := [.ref (t 9), .int (nI (i % 16))]) C (mL_cell l D t cI cR cB H.size hL (i % 16) (by omega)) (rw_S q37 q38 q25 q39) kd_L_cell ⟨Nat.le_of_ble_eq_true rfl, Nat.le_of_ble_eq_true rfl⟩ C.2.2.2.2.2.1 hPb hDb S.2.2 hl.1 rfl rfl (Nat.le_of_ble_eq_true rfl) dL_law_33 ⟨(show 1700 + 120 * i + 0 ≤ 728402 by omega), (show 5800 + 420 * i + 0 ≤ 6916263 by omega)⟩) (fun v w' H locs hv _ hP9 hD9 hS9 => ?_)
    obtain rfl := hv
    have S : sS D A s cI cR o z u (ra_w cI ob ad u) H locs := ⟨hP9, hD9, hS9⟩
    refine lv_iload_n hx hb dL_law_36 rfl (lv_at hl 3 rfl) ?_
    refine lv_bipush (v := 16) hx hb dL_law_37 (by decide) ?_
    refine lv_idiv hx hb dL_law_39 (by decide) ?_
    refine lv_iconst (v := 3) hx hb dL_law_40 (by decide) ?_
    refine lv_imul hx hb dL_law_41 ?_
    refine lv_ishr hx hb dL_law_42 ?_
    refine lv_sipush (v := 401) hx hb dL_law_43 (by decide) ?_
    refine lv_iload_n hx hb dL_law_46 rfl (lv_at hl 3 rfl) ?_
    refine lv_imul hx hb dL_law_47 ?_
    refine lv_iadd hx hb dL_law_48 ?_
    refine lv_topi (fun x2 _ => ?_)
    refine lv_istore (lv' := [(4, .int x2), (0, .ref (t 9)), (1, .ref ob), (2, .ref o), (3, .int (nI i))]) hx hb dL_law_49 hl (by decide) rfl (fun ls hl => ?_)
    refine lv_iconst (v := 0) hx hb dL_law_51 (by decide) ?_
    refine lv_istore (lv' := [(5, .int 0), (4, .int x2), (0, .ref (t 9)), (1, .ref ob), (2, .ref o), (3, .int (nI i))]) hx hb dL_law_52 hl (by decide) rfl (fun ls hl => ?_)
    refine lv_iload hx hb dL_law_54 (lv_at hl 0 rfl) ?_
    refine lv_iconst (v := 4) hx hb dL_law_56 (by decide) ?_
    refine lv_icmp_ge (tgt := 90) hx hb dL_law_57 (by decide) (fun c3 => absurd c3 (by decide)) (fun c3 => ?_)
    refine lv_aload_n hx hb dL_law_60 rfl (lv_at hl 3 rfl) ?_
    refine lv_aload_n hx hb dL_law_61 rfl (lv_at hl 4 rfl) ?_
    refine lv_iload hx hb dL_law_62 (lv_at hl 1 rfl) ?_
    refine lv_iconst (v := 2) hx hb dL_law_64 (by decide) ?_
    refine lv_iload hx hb dL_law_65 (lv_at hl 0 rfl) ?_
    refine lv_imul hx hb dL_law_67 ?_
    refine lv_ishr hx hb dL_law_68 ?_
    refine lv_sipush (v := 283) hx hb dL_law_69 (by decide) ?_
    refine lv_iload hx hb dL_law_72 (lv_at hl 0 rfl) ?_
    refine lv_imul hx hb dL_law_74 ?_
    refine lv_iadd hx hb dL_law_75 ?_
    refine lv_topi (fun x4 _ => ?_)
    refine m_ci (wa := []) (wb := rs_w cI cR o z u ++ ra_w cI ob ad u) (wd := []) (cells' := 1700 + 120 * i + 20) (slots' := 5800 + 420 * i + 70) rfl rfl C (by rw [List.nil_append, List.append_assoc]; exact S.1) (by rw [List.nil_append, List.append_assoc]; exact S.2.1) S.2.2 (fun hPb hDb => g_runS (wr := ([]) ++ []) (n := 3) (As := [.ref ob, .ref o, .int x4]) C (mL_act l D t cI cR cB o ob ad z H.size u _ B (by omega) x4) (rw_S q45 q46 q25 q47) kd_L_act ⟨Nat.le_of_ble_eq_true rfl, Nat.le_of_ble_eq_true rfl⟩ C.2.2.2.2.2.1 hPb hDb S.2.2 hl.1 rfl rfl (Nat.le_of_ble_eq_true rfl) dL_law_76 ⟨(show 1700 + 120 * i + 20 ≤ 728402 by omega), (show 5800 + 420 * i + 70 ≤ 6916263 by omega)⟩) (fun v w' H locs hv _ hP9 hD9 hS9 => ?_)
    obtain ⟨rfl, z, u, B, rfl⟩ := hv
    rw [List.nil_append, List.append_assoc] at hP9 hD9
    have S : sS D A s cI cR o z u (ra_w cI ob ad u) H locs := ⟨hP9, hD9, hS9⟩
    refine lv_if_ne (tgt := 84) hx hb dL_law_79 (by decide) (fun c5 => ?_) (fun c5 => absurd c5 (by decide))
    refine lv_iinc (v := nI 1) (lv' := [(5, .int (nI 1)), (4, .int x2), (0, .ref (t 9)), (1, .ref ob), (2, .ref o), (3, .int (nI i))]) hx hb dL_law_84 hl (k := 0) rfl (nI_1 _) (by decide) rfl (fun ls hl => ?_)
    refine lv_goto (tgt := 54) hx hb dL_law_87 (by decide) ?_
    refine lv_iload hx hb dL_law_54 (lv_at hl 0 rfl) ?_
    refine lv_iconst (v := 4) hx hb dL_law_56 (by decide) ?_
    refine lv_icmp_ge (tgt := 90) hx hb dL_law_57 (by decide) (fun c6 => absurd c6 (by decide)) (fun c6 => ?_)
    refine lv_aload_n hx hb dL_law_60 rfl (lv_at hl 3 rfl) ?_
    refine lv_aload_n hx hb dL_law_61 rfl (lv_at hl 4 rfl) ?_
    refine lv_iload hx hb dL_law_62 (lv_at hl 1 rfl) ?_
    refine lv_iconst (v := 2) hx hb dL_law_64 (by decide) ?_
    refine lv_iload hx hb dL_law_65 (lv_at hl 0 rfl) ?_
    refine lv_imul hx hb dL_law_67 ?_
    refine lv_ishr hx hb dL_law_68 ?_
    refine lv_sipush (v := 283) hx hb dL_law_69 (by decide) ?_
    refine lv_iload hx hb dL_law_72 (lv_at hl 0 rfl) ?_
    refine lv_imul hx hb dL_law_74 ?_
    refine lv_iadd hx hb dL_law_75 ?_
    refine lv_topi (fun x7 _ => ?_)
    refine m_ci (wa := []) (wb := rs_w cI cR o z u ++ ra_w cI ob ad u) (wd := []) (cells' := 1700 + 120 * i + 20 + 20) (slots' := 5800 + 420 * i + 70 + 70) rfl rfl C (by rw [List.nil_append, List.append_assoc]; exact S.1) (by rw [List.nil_append, List.append_assoc]; exact S.2.1) S.2.2 (fun hPb hDb => g_runS (wr := ([]) ++ []) (n := 3) (As := [.ref ob, .ref o, .int x7]) C (mL_act l D t cI cR cB o ob ad z H.size u _ B (by omega) x7) (rw_S q45 q46 q25 q47) kd_L_act ⟨Nat.le_of_ble_eq_true rfl, Nat.le_of_ble_eq_true rfl⟩ C.2.2.2.2.2.1 hPb hDb S.2.2 hl.1 rfl rfl (Nat.le_of_ble_eq_true rfl) dL_law_76 ⟨(show 1700 + 120 * i + 20 + 20 ≤ 728402 by omega), (show 5800 + 420 * i + 70 + 70 ≤ 6916263 by omega)⟩) (fun v w' H locs hv _ hP9 hD9 hS9 => ?_)
    obtain ⟨rfl, z, u, B, rfl⟩ := hv
    rw [List.nil_append, List.append_assoc] at hP9 hD9
    have S : sS D A s cI cR o z u (ra_w cI ob ad u) H locs := ⟨hP9, hD9, hS9⟩
    refine lv_if_ne (tgt := 84) hx hb dL_law_79 (by decide) (fun c8 => ?_) (fun c8 => absurd c8 (by decide))
    refine lv_iinc (v := nI 2) (lv' := [(5, .int (nI 2)), (4, .int x2), (0, .ref (t 9)), (1, .ref ob), (2, .ref o), (3, .int (nI i))]) hx hb dL_law_84 hl (k := 0) rfl (nI_1 _) (by decide) rfl (fun ls hl => ?_)
    refine lv_goto (tgt := 54) hx hb dL_law_87 (by decide) ?_
    refine lv_iload hx hb dL_law_54 (lv_at hl 0 rfl) ?_
    refine lv_iconst (v := 4) hx hb dL_law_56 (by decide) ?_
    refine lv_icmp_ge (tgt := 90) hx hb dL_law_57 (by decide) (fun c9 => absurd c9 (by decide)) (fun c9 => ?_)
    refine lv_aload_n hx hb dL_law_60 rfl (lv_at hl 3 rfl) ?_
    refine lv_aload_n hx hb dL_law_61 rfl (lv_at hl 4 rfl) ?_
    refine lv_iload hx hb dL_law_62 (lv_at hl 1 rfl) ?_
    refine lv_iconst (v := 2) hx hb dL_law_64 (by decide) ?_
    refine lv_iload hx hb dL_law_65 (lv_at hl 0 rfl) ?_
    refine lv_imul hx hb dL_law_67 ?_
    refine lv_ishr hx hb dL_law_68 ?_
    refine lv_sipush (v := 283) hx hb dL_law_69 (by decide) ?_
    refine lv_iload hx hb dL_law_72 (lv_at hl 0 rfl) ?_
    refine lv_imul hx hb dL_law_74 ?_
    refine lv_iadd hx hb dL_law_75 ?_
    refine lv_topi (fun x10 _ => ?_)
    refine m_ci (wa := []) (wb := rs_w cI cR o z u ++ ra_w cI ob ad u) (wd := []) (cells' := 1700 + 120 * i + 20 + 20 + 20) (slots' := 5800 + 420 * i + 70 + 70 + 70) rfl rfl C (by rw [List.nil_append, List.append_assoc]; exact S.1) (by rw [List.nil_append, List.append_assoc]; exact S.2.1) S.2.2 (fun hPb hDb => g_runS (wr := ([]) ++ []) (n := 3) (As := [.ref ob, .ref o, .int x10]) C (mL_act l D t cI cR cB o ob ad z H.size u _ B (by omega) x10) (rw_S q45 q46 q25 q47) kd_L_act ⟨Nat.le_of_ble_eq_true rfl, Nat.le_of_ble_eq_true rfl⟩ C.2.2.2.2.2.1 hPb hDb S.2.2 hl.1 rfl rfl (Nat.le_of_ble_eq_true rfl) dL_law_76 ⟨(show 1700 + 120 * i + 20 + 20 + 20 ≤ 728402 by omega), (show 5800 + 420 * i + 70 + 70 + 70 ≤ 6916263 by omega)⟩) (fun v w' H locs hv _ hP9 hD9 hS9 => ?_)
    obtain ⟨rfl, z, u, B, rfl⟩ := hv
    rw [List.nil_append, List.append_assoc] at hP9 hD9
    have S : sS D A s cI cR o z u (ra_w cI ob ad u) H locs := ⟨hP9, hD9, hS9⟩
    refine lv_if_ne (tgt := 84) hx hb dL_law_79 (by decide) (fun c11 => ?_) (fun c11 => absurd c11 (by decide))
    refine lv_iinc (v := nI 3) (lv' := [(5, .int (nI 3)), (4, .int x2), (0, .ref (t 9)), (1, .ref ob), (2, .ref o), (3, .int (nI i))]) hx hb dL_law_84 hl (k := 0) rfl (nI_1 _) (by decide) rfl (fun ls hl => ?_)
    refine lv_goto (tgt := 54) hx hb dL_law_87 (by decide) ?_
    refine lv_iload hx hb dL_law_54 (lv_at hl 0 rfl) ?_
    refine lv_iconst (v := 4) hx hb dL_law_56 (by decide) ?_
    refine lv_icmp_ge (tgt := 90) hx hb dL_law_57 (by decide) (fun c12 => absurd c12 (by decide)) (fun c12 => ?_)
    refine lv_aload_n hx hb dL_law_60 rfl (lv_at hl 3 rfl) ?_
    refine lv_aload_n hx hb dL_law_61 rfl (lv_at hl 4 rfl) ?_
    refine lv_iload hx hb dL_law_62 (lv_at hl 1 rfl) ?_
    refine lv_iconst (v := 2) hx hb dL_law_64 (by decide) ?_
    refine lv_iload hx hb dL_law_65 (lv_at hl 0 rfl) ?_
    refine lv_imul hx hb dL_law_67 ?_
    refine lv_ishr hx hb dL_law_68 ?_
    refine lv_sipush (v := 283) hx hb dL_law_69 (by decide) ?_
    refine lv_iload hx hb dL_law_72 (lv_at hl 0 rfl) ?_
    refine lv_imul hx hb dL_law_74 ?_
    refine lv_iadd hx hb dL_law_75 ?_
    refine lv_topi (fun x13 _ => ?_)
    refine m_ci (wa := []) (wb := rs_w cI cR o z u ++ ra_w cI ob ad u) (wd := []) (cells' := 1700 + 120 * i + 20 + 20 + 20 + 20) (slots' := 5800 + 420 * i + 70 + 70 + 70 + 70) rfl rfl C (by rw [List.nil_append, List.append_assoc]; exact S.1) (by rw [List.nil_append, List.append_assoc]; exact S.2.1) S.2.2 (fun hPb hDb => g_runS (wr := ([]) ++ []) (n := 3) (As := [.ref ob, .ref o, .int x13]) C (mL_act l D t cI cR cB o ob ad z H.size u _ B (by omega) x13) (rw_S q45 q46 q25 q47) kd_L_act ⟨Nat.le_of_ble_eq_true rfl, Nat.le_of_ble_eq_true rfl⟩ C.2.2.2.2.2.1 hPb hDb S.2.2 hl.1 rfl rfl (Nat.le_of_ble_eq_true rfl) dL_law_76 ⟨(show 1700 + 120 * i + 20 + 20 + 20 + 20 ≤ 728402 by omega), (show 5800 + 420 * i + 70 + 70 + 70 + 70 ≤ 6916263 by omega)⟩) (fun v w' H locs hv _ hP9 hD9 hS9 => ?_)
    obtain ⟨rfl, z, u, B, rfl⟩ := hv
    rw [List.nil_append, List.append_assoc] at hP9 hD9
    have S : sS D A s cI cR o z u (ra_w cI ob ad u) H locs := ⟨hP9, hD9, hS9⟩
    refine lv_if_ne (tgt := 84) hx hb dL_law_79 (by decide) (fun c14 => ?_) (fun c14 => absurd c14 (by decide))
    refine lv_iinc (v := nI 4) (lv' := [(5, .int (nI 4)), (4, .int x2), (0, .ref (t 9)), (1, .ref ob), (2, .ref o), (3, .int (nI i))]) hx hb dL_law_84 hl (k := 0) rfl (nI_1 _) (by decide) rfl (fun ls hl => ?_)
    refine lv_goto (tgt := 54) hx hb dL_law_87 (by decide) ?_
    refine lv_iload hx hb dL_law_54 (lv_at hl 0 rfl) ?_
    refine lv_iconst (v := 4) hx hb dL_law_56 (by decide) ?_
    refine lv_icmp_ge (tgt := 90) hx hb dL_law_57 (by decide) (fun c15 => ?_) (fun c15 => absurd (by decide) c15)
    have hE : E9 u u := E9.rf
    have hu8 : u.2.1 ≤ 8 := B.1
    refine lv_aload_n hx hb dL_law_90 rfl (lv_at hl 3 rfl) ?_
    refine lv_iconst (v := 1) hx hb dL_law_91 (by decide) ?_
    refine m_ci (wa := rs_w cI cR o z u) (wb := ra_w cI ob ad u) (wd := []) (cells' := 1700 + 120 * i + 20 + 20 + 20 + 20) (slots' := 5800 + 420 * i + 70 + 70 + 70 + 70) rfl rfl C S.1 S.2.1 S.2.2 (fun hPb hDb => g_runV (wr := ([]) ++ rs_w cI cR o z u) (n := 1) (As := [.int 1]) C (mX0_count l D t cI ob ad H.size u (by rw [hE.n]; exact hu8) 1 (by decide)) (rw_V q192 q193 q194 q2 q195) kd_X0_count ⟨Nat.le_of_ble_eq_true rfl, Nat.le_of_ble_eq_true rfl⟩ (ci := 0) rfl rfl rfl (C.2.2.2.2.2.1.sub (tys' := [(cI, .int)]) [0] rfl) hPb hDb S.2.2 hl.1 rfl rfl (Nat.le_of_ble_eq_true rfl) dL_law_92 ⟨(show 1700 + 120 * i + 20 + 20 + 20 + 20 + 0 ≤ 728402 by omega), (show 5800 + 420 * i + 70 + 70 + 70 + 70 + 0 ≤ 6916263 by omega)⟩) (fun v w' H locs hv _ hP9 hD9 hS9 => ?_)
    obtain ⟨rfl, rfl⟩ := hv
    have S : sS D A s cI cR o z u (ra_w cI ob ad u) H locs := ⟨hP9, hD9, hS9⟩
    refine g_top (y := nI u.2.1) (e9_c1 hE) ?_
    refine lv_istore (lv' := [(5, .int (nI u.2.1)), (4, .int x2), (0, .ref (t 9)), (1, .ref ob), (2, .ref o), (3, .int (nI i))]) hx hb dL_law_95 hl (by decide) rfl (fun ls hl => ?_)
    refine lv_iload hx hb dL_law_97 (lv_at hl 0 rfl) ?_
    refine lv_iconst (v := 3) hx hb dL_law_99 (by decide) ?_
    refine x_mna C S (N := u.2.1) rfl (by omega) q3 (C.2.2.2.2.2.2.2.1.2.2.2.2.2.2.2.2.2.2.1) (cells' := 1700 + 120 * i + 20 + 20 + 20 + 20 + (1 + u.2.1)) (slots' := 5800 + 420 * i + 70 + 70 + 70 + 70 + (u.2.1 + u.2.1 * 3)) rfl rfl (show 1700 + 120 * i + 20 + 20 + 20 + 20 + (1 + u.2.1) ≤ 728402 by omega) (show 5800 + 420 * i + 70 + 70 + 70 + 70 + (u.2.1 + u.2.1 * 3) ≤ 6916263 by omega) dL_law_100 (fun h6 r6 H locs S => ?_)
    refine lv_astore (lv' := [(6, .ref h6), (5, .int (nI u.2.1)), (4, .int x2), (0, .ref (t 9)), (1, .ref ob), (2, .ref o), (3, .int (nI i))]) hx hb dL_law_104 hl (by decide) rfl (fun ls hl => ?_)
    refine lv_iload hx hb dL_law_106 (lv_at hl 1 rfl) ?_
    refine x_new C S (N := u.2.1) rfl (by omega) q4 (cells' := 1700 + 120 * i + 20 + 20 + 20 + 20 + (1 + u.2.1) + 1) (slots' := 5800 + 420 * i + 70 + 70 + 70 + 70 + (u.2.1 + u.2.1 * 3) + u.2.1) rfl rfl (show 1700 + 120 * i + 20 + 20 + 20 + 20 + (1 + u.2.1) + 1 ≤ 728402 by omega) (show 5800 + 420 * i + 70 + 70 + 70 + 70 + (u.2.1 + u.2.1 * 3) + u.2.1 ≤ 6916263 by omega) dL_law_108 (fun a16 H S => ?_)
    have S : sS D A s cI cR o z u (ra_w cI ob ad u ++ ((a16, .inl (cI, u.2.1, .inl (fun _ => 0))) :: hw_w cI cB h6 u.2.1 r6 (fun _ _ => 0))) H locs := S.re (fun q hq => by simp only [List.mem_append, List.mem_cons, List.not_mem_nil, or_false, false_or] at hq ⊢; first | exact hq | grind) (fun a => by simp only [List.map_append, List.map_cons, List.map_nil, List.count_append, List.count_cons, List.count_nil]; omega)
    refine lv_astore (lv' := [(7, .ref a16), (6, .ref h6), (5, .int (nI u.2.1)), (4, .int x2), (0, .ref (t 9)), (1, .ref ob), (2, .ref o), (3, .int (nI i))]) hx hb dL_law_110 hl (by decide) rfl (fun ls hl => ?_)
    refine lv_iload hx hb dL_law_112 (lv_at hl 2 rfl) ?_
    refine x_new C S (N := u.2.1) rfl (by omega) q4 (cells' := 1700 + 120 * i + 20 + 20 + 20 + 20 + (1 + u.2.1) + 1 + 1) (slots' := 5800 + 420 * i + 70 + 70 + 70 + 70 + (u.2.1 + u.2.1 * 3) + u.2.1 + u.2.1) rfl rfl (show 1700 + 120 * i + 20 + 20 + 20 + 20 + (1 + u.2.1) + 1 + 1 ≤ 728402 by omega) (show 5800 + 420 * i + 70 + 70 + 70 + 70 + (u.2.1 + u.2.1 * 3) + u.2.1 + u.2.1 ≤ 6916263 by omega) dL_law_114 (fun a17 H S => ?_)
    have S : sS D A s cI cR o z u (ra_w cI ob ad u ++ ((a16, .inl (cI, u.2.1, .inl (fun _ => 0))) :: (a17, .inl (cI, u.2.1, .inl (fun _ => 0))) :: hw_w cI cB h6 u.2.1 r6 (fun _ _ => 0))) H locs := S.re (fun q hq => by simp only [List.mem_append, List.mem_cons, List.not_mem_nil, or_false, false_or] at hq ⊢; first | exact hq | grind) (fun a => by simp only [List.map_append, List.map_cons, List.map_nil, List.count_append, List.count_cons, List.count_nil]; omega)
    refine lv_astore (lv' := [(8, .ref a17), (7, .ref a16), (6, .ref h6), (5, .int (nI u.2.1)), (4, .int x2), (0, .ref (t 9)), (1, .ref ob), (2, .ref o), (3, .int (nI i))]) hx hb dL_law_116 hl (by decide) rfl (fun ls hl => ?_)
    refine lv_iload hx hb dL_law_118 (lv_at hl 3 rfl) ?_
    refine x_new C S (N := u.2.1) rfl (by omega) q4 (cells' := 1700 + 120 * i + 20 + 20 + 20 + 20 + (1 + u.2.1) + 1 + 1 + 1) (slots' := 5800 + 420 * i + 70 + 70 + 70 + 70 + (u.2.1 + u.2.1 * 3) + u.2.1 + u.2.1 + u.2.1) rfl rfl (show 1700 + 120 * i + 20 + 20 + 20 + 20 + (1 + u.2.1) + 1 + 1 + 1 ≤ 728402 by omega) (show 5800 + 420 * i + 70 + 70 + 70 + 70 + (u.2.1 + u.2.1 * 3) + u.2.1 + u.2.1 + u.2.1 ≤ 6916263 by omega) dL_law_120 (fun a18 H S => ?_)
    have S : sS D A s cI cR o z u (ra_w cI ob ad u ++ ((a16, .inl (cI, u.2.1, .inl (fun _ => 0))) :: (a17, .inl (cI, u.2.1, .inl (fun _ => 0))) :: (a18, .inl (cI, u.2.1, .inl (fun _ => 0))) :: hw_w cI cB h6 u.2.1 r6 (fun _ _ => 0))) H locs := S.re (fun q hq => by simp only [List.mem_append, List.mem_cons, List.not_mem_nil, or_false, false_or] at hq ⊢; first | exact hq | grind) (fun a => by simp only [List.map_append, List.map_cons, List.map_nil, List.count_append, List.count_cons, List.count_nil]; omega)
    refine lv_astore (lv' := [(9, .ref a18), (8, .ref a17), (7, .ref a16), (6, .ref h6), (5, .int (nI u.2.1)), (4, .int x2), (0, .ref (t 9)), (1, .ref ob), (2, .ref o), (3, .int (nI i))]) hx hb dL_law_122 hl (by decide) rfl (fun ls hl => ?_)
    refine lv_iload hx hb dL_law_124 (lv_at hl 4 rfl) ?_
    refine x_new C S (N := u.2.1) rfl (by omega) q4 (cells' := 1700 + 120 * i + 20 + 20 + 20 + 20 + (1 + u.2.1) + 1 + 1 + 1 + 1) (slots' := 5800 + 420 * i + 70 + 70 + 70 + 70 + (u.2.1 + u.2.1 * 3) + u.2.1 + u.2.1 + u.2.1 + u.2.1) rfl rfl (show 1700 + 120 * i + 20 + 20 + 20 + 20 + (1 + u.2.1) + 1 + 1 + 1 + 1 ≤ 728402 by omega) (show 5800 + 420 * i + 70 + 70 + 70 + 70 + (u.2.1 + u.2.1 * 3) + u.2.1 + u.2.1 + u.2.1 + u.2.1 ≤ 6916263 by omega) dL_law_126 (fun a19 H S => ?_)
    have S : sS D A s cI cR o z u (ra_w cI ob ad u ++ ((a16, .inl (cI, u.2.1, .inl (fun _ => 0))) :: (a17, .inl (cI, u.2.1, .inl (fun _ => 0))) :: (a18, .inl (cI, u.2.1, .inl (fun _ => 0))) :: (a19, .inl (cI, u.2.1, .inl (fun _ => 0))) :: hw_w cI cB h6 u.2.1 r6 (fun _ _ => 0))) H locs := S.re (fun q hq => by simp only [List.mem_append, List.mem_cons, List.not_mem_nil, or_false, false_or] at hq ⊢; first | exact hq | grind) (fun a => by simp only [List.map_append, List.map_cons, List.map_nil, List.count_append, List.count_cons, List.count_nil]; omega)
    refine lv_astore (lv' := [(10, .ref a19), (9, .ref a18), (8, .ref a17), (7, .ref a16), (6, .ref h6), (5, .int (nI u.2.1)), (4, .int x2), (0, .ref (t 9)), (1, .ref ob), (2, .ref o), (3, .int (nI i))]) hx hb dL_law_128 hl (by decide) rfl (fun ls hl => ?_)
    refine lv_iconst (v := 0) hx hb dL_law_130 (by decide) ?_
    refine lv_istore (lv' := [(11, .int 0), (10, .ref a19), (9, .ref a18), (8, .ref a17), (7, .ref a16), (6, .ref h6), (5, .int (nI u.2.1)), (4, .int x2), (0, .ref (t 9)), (1, .ref ob), (2, .ref o), (3, .int (nI i))]) hx hb dL_law_131 hl (by decide) rfl (fun ls hl => ?_)
    refine lv_iconst (v := 0) hx hb dL_law_133 (by decide) ?_
    refine lv_istore (lv' := [(12, .int 0), (11, .int 0), (10, .ref a19), (9, .ref a18), (8, .ref a17), (7, .ref a16), (6, .ref h6), (5, .int (nI u.2.1)), (4, .int x2), (0, .ref (t 9)), (1, .ref ob), (2, .ref o), (3, .int (nI i))]) hx hb dL_law_134 hl (by decide) rfl (fun ls hl => ?_)
    have hT1 : (T + 1 + 1 + 1 + 1) + 1 ≤ 400 := by omega
    refine lpL_r1 (kc := 1700 + 120 * i + 20 + 20 + 20 + 20 + (1 + u.2.1) + 1 + 1 + 1 + 1) (nc := 5800 + 420 * i + 70 + 70 + 70 + 70 + (u.2.1 + u.2.1 * 3) + u.2.1 + u.2.1 + u.2.1 + u.2.1) C B (by omega) (by omega) (fun v f7 f8 f9 f10 g H locs ls hE h7 h8 h9 h10 hg S hl => ?_) u.2.1 0 (by omega) u _ _ _ _ _ _ _ _ hE (fun k hk => absurd hk (Nat.not_lt_zero k)) (fun k hk => absurd hk (Nat.not_lt_zero k)) (fun k hk => absurd hk (Nat.not_lt_zero k)) (fun k hk => absurd hk (Nat.not_lt_zero k)) (fun k c hk => absurd hk (Nat.not_lt_zero k)) S (lv_sub hl [9, 10, 11, 12, 7, 6, 5, 4, 3, 2, 1, 0] rfl)
    refine law_mid (kc := 1700 + 120 * i + 20 + 20 + 20 + 20 + (1 + u.2.1) + 1 + 1 + 1 + 1) (nc := 5800 + 420 * i + 70 + 70 + 70 + 70 + (u.2.1 + u.2.1 * 3) + u.2.1 + u.2.1 + u.2.1 + u.2.1) C B hT1 hE h7 h8 h9 h10 hg (by omega) (by omega) S hl (fun z v H locs ls hE S hl => ?_)
    refine W.widen (k := 1700 + 120 * (i + 1)) (n := 5800 + 420 * (i + 1)) (by omega) (by omega) ?_
    exact ih (i + 1) (by omega) z v ((T + 1 + 1 + 1 + 1) + 1) _ _ _ (by omega) (B_9 (rB_pay B hT1) hE) (S.E (e9_rs hE).symm) hl
