theorem kd_X1_isIn : yX1_isIn.cls ≠ "java/lang/invoke/MethodHandle" ∧ yX1_isIn.cls ≠ "java/lang/invoke/VarHandle" ∧ (parseMethodDescriptor yX1_isIn.desc).map (fun d => d.parameters.length) = some 3 := by decide +kernel
set_option maxHeartbeats 4000000 in
set_option maxRecDepth 100000 in
theorem mX1_isIn (l : Launch) (D : va_G) (t : Nat → Nat) (ty : List (ClassId × FieldType)) (w : va_W) (sz : Nat) (x0 x1 x2 : Int32) : gMi l yX1_isIn (rw_ yX1_isIn cX1_isIn 3 (some .boolean)) (rm_ 0 0 0 0) [.int x0, .int x1, .int x2] D ty t (w) sz (fun r w' => r = rb_in x0 x1 x2 ∧ w' = w) := by
  refine g_of (cc := cX1_isIn) (nL := 3) (rt := (some .boolean)) (Q := fun A => va_Qi _ (fun w' U => gQ D A w' U) A) (by decide) (Nat.le_of_ble_eq_true rfl) (fun p e s m args below meth c A ls H C hrt hnm hS hP hD hl => ?_)
  have hx := C.1
  have hb := C.2.1
  have hown := C.2.2.2.1
  have hts := C.2.2.2.2.1
  have hl : lv_has ls 3 [(0, .int x0), (1, .int x1), (2, .int x2)] := hl
  refine lv_iload_n hx hb dX1_isIn_0 rfl (lv_at hl 0 rfl) ?_
  refine lv_iload_n hx hb dX1_isIn_1 rfl (lv_at hl 1 rfl) ?_
  refine lv_icmp_lt (tgt := 14) hx hb dX1_isIn_2 (by decide) (fun c1 => ?_) (fun c1 => ?_)
  · refine lv_iconst (v := 0) hx hb dX1_isIn_14 (by decide) ?_
    exact g_zret C hrt (by decide) hP hD hS dX1_isIn_15 ⟨by rw [rb_in, if_pos c1], rfl⟩
  · refine lv_iload_n hx hb dX1_isIn_5 rfl (lv_at hl 0 rfl) ?_
    refine lv_iload_n hx hb dX1_isIn_6 rfl (lv_at hl 2 rfl) ?_
    refine lv_icmp_gt (tgt := 14) hx hb dX1_isIn_7 (by decide) (fun c2 => ?_) (fun c2 => ?_)
    · refine lv_iconst (v := 0) hx hb dX1_isIn_14 (by decide) ?_
      exact g_zret C hrt (by decide) hP hD hS dX1_isIn_15 ⟨by rw [rb_in, if_neg c1, if_pos c2], rfl⟩
    · refine lv_iconst (v := 1) hx hb dX1_isIn_10 (by decide) ?_
      refine lv_goto (tgt := 15) hx hb dX1_isIn_11 (by decide) ?_
      exact g_zret C hrt (by decide) hP hD hS dX1_isIn_15 ⟨by rw [rb_in, if_neg c1, if_neg c2], rfl⟩
theorem rb_inz (x a b : Int32) : narrow .boolean (.int (rb_in x a b)) = .int (rb_in x a b) := by
  unfold rb_in
  split
  · rfl
  · split <;> rfl
theorem kd_X1_isRate : yX1_isRate.cls ≠ "java/lang/invoke/MethodHandle" ∧ yX1_isRate.cls ≠ "java/lang/invoke/VarHandle" ∧ (parseMethodDescriptor yX1_isRate.desc).map (fun d => d.parameters.length) = some 1 := by decide +kernel
set_option maxHeartbeats 4000000 in
set_option maxRecDepth 100000 in
theorem mX1_isRate (l : Launch) (D : va_G) (t : Nat → Nat) (cI : ClassId) (o : Nat) (sz : Nat) (v : S1) (x0 : Int32) : gMi l yX1_isRate (rw_ yX1_isRate cX1_isRate 1 (some .boolean)) (rm_ 1 0 0 22) [.int x0] D [(cI, .int)] t (rb_w cI o v) sz (fun r w' => r = rb_in x0 0 4 ∧ w' = rb_w cI o v) := by
  refine g_of (cc := cX1_isRate) (nL := 1) (rt := (some .boolean)) (Q := fun A => va_Qi _ (fun w' U => gQ D A w' U) A) (by decide) (Nat.le_of_ble_eq_true rfl) (fun p e s m args below meth c A ls H C hrt hnm hS hP hD hl => ?_)
  have hx := C.1
  have hb := C.2.1
  have hown := C.2.2.2.1
  have hts := C.2.2.2.2.1
  have hl : lv_has ls 1 [(0, .int x0)] := hl
  refine lv_iload_n hx hb dX1_isRate_0 rfl (lv_at hl 0 rfl) ?_
  refine lv_iconst (v := 0) hx hb dX1_isRate_1 (by decide) ?_
  refine lv_iconst (v := 4) hx hb dX1_isRate_2 (by decide) ?_
  refine g_ci (wr := []) (cells' := 0) (slots' := 0) rfl rfl C rd_nil hD hS (g_runS (wr := []) (n := 3) (As := [.int x0, .int 0, .int 4]) C (mX1_isIn l D t [(cI, .int)] (rb_w cI o v) H.size x0 0 4) (rw_S q61 q62 q5 q63) kd_X1_isIn ⟨Nat.le_of_ble_eq_true rfl, Nat.le_of_ble_eq_true rfl⟩ C.2.2.2.2.2.1 hP hD hS hl.1 rfl rfl (Nat.le_of_ble_eq_true rfl) dX1_isRate_3 ⟨Nat.le_of_ble_eq_true rfl, Nat.le_of_ble_eq_true rfl⟩) (fun r1 w' H locs hv _ _ hP hD hS => ?_)
  obtain ⟨rfl, rfl⟩ := hv
  have hD : va_D A (rb_w cI o v) := hD
  exact g_zret C hrt (rb_inz _ _ _) hP hD hS dX1_isRate_6 ⟨by skip; rfl, by skip; rfl⟩
theorem kd_X1_isCoin : yX1_isCoin.cls ≠ "java/lang/invoke/MethodHandle" ∧ yX1_isCoin.cls ≠ "java/lang/invoke/VarHandle" ∧ (parseMethodDescriptor yX1_isCoin.desc).map (fun d => d.parameters.length) = some 1 := by decide +kernel
set_option maxHeartbeats 4000000 in
set_option maxRecDepth 100000 in
theorem mX1_isCoin (l : Launch) (D : va_G) (t : Nat → Nat) (cI : ClassId) (o : Nat) (sz : Nat) (v : S1) (x0 : Int32) : gMi l yX1_isCoin (rw_ yX1_isCoin cX1_isCoin 1 (some .boolean)) (rm_ 1 0 0 22) [.int x0] D [(cI, .int)] t (rb_w cI o v) sz (fun r w' => r = rb_in x0 0 2 ∧ w' = rb_w cI o v) := by
  refine g_of (cc := cX1_isCoin) (nL := 1) (rt := (some .boolean)) (Q := fun A => va_Qi _ (fun w' U => gQ D A w' U) A) (by decide) (Nat.le_of_ble_eq_true rfl) (fun p e s m args below meth c A ls H C hrt hnm hS hP hD hl => ?_)
  have hx := C.1
  have hb := C.2.1
  have hown := C.2.2.2.1
  have hts := C.2.2.2.2.1
  have hl : lv_has ls 1 [(0, .int x0)] := hl
  refine lv_iload_n hx hb dX1_isCoin_0 rfl (lv_at hl 0 rfl) ?_
  refine lv_iconst (v := 0) hx hb dX1_isCoin_1 (by decide) ?_
  refine lv_iconst (v := 2) hx hb dX1_isCoin_2 (by decide) ?_
  refine g_ci (wr := []) (cells' := 0) (slots' := 0) rfl rfl C rd_nil hD hS (g_runS (wr := []) (n := 3) (As := [.int x0, .int 0, .int 2]) C (mX1_isIn l D t [(cI, .int)] (rb_w cI o v) H.size x0 0 2) (rw_S q61 q62 q5 q63) kd_X1_isIn ⟨Nat.le_of_ble_eq_true rfl, Nat.le_of_ble_eq_true rfl⟩ C.2.2.2.2.2.1 hP hD hS hl.1 rfl rfl (Nat.le_of_ble_eq_true rfl) dX1_isCoin_3 ⟨Nat.le_of_ble_eq_true rfl, Nat.le_of_ble_eq_true rfl⟩) (fun r1 w' H locs hv _ _ hP hD hS => ?_)
  obtain ⟨rfl, rfl⟩ := hv
  have hD : va_D A (rb_w cI o v) := hD
  exact g_zret C hrt (rb_inz _ _ _) hP hD hS dX1_isCoin_6 ⟨by skip; rfl, by skip; rfl⟩
theorem kd_X1_isReaper : yX1_isReaper.cls = yX1_isReaper.cls ∧ yX1_isReaper.cls ≠ "java/lang/invoke/MethodHandle" ∧ yX1_isReaper.cls ≠ "java/lang/invoke/VarHandle" ∧ (parseMethodDescriptor yX1_isReaper.desc).map (fun d => d.parameters.length) = some 1 := by decide +kernel
set_option maxHeartbeats 4000000 in
set_option maxRecDepth 100000 in
theorem mX1_isReaper (l : Launch) (D : va_G) (t : Nat → Nat) (cI : ClassId) (o : Nat) (sz : Nat) (v : S1) (x0 : Int32) : gMi l yX1_isReaper (rw_ yX1_isReaper cX1_isReaper 2 (some .boolean)) (rm_ 1 0 0 22) [.ref o, .int x0] D [(cI, .int)] t (rb_w cI o v) sz (fun r w' => r = rb_in x0 0 (nI v.2.1 - 1) ∧ w' = rb_w cI o v) := by
  refine g_of (cc := cX1_isReaper) (nL := 2) (rt := (some .boolean)) (Q := fun A => va_Qi _ (fun w' U => gQ D A w' U) A) (by decide) (Nat.le_of_ble_eq_true rfl) (fun p e s m args below meth c A ls H C hrt hnm hS hP hD hl => ?_)
  have hx := C.1
  have hb := C.2.1
  have hown := C.2.2.2.1
  have hts := C.2.2.2.2.1
  have hl : lv_has ls 2 [(0, .ref o), (1, .int x0)] := hl
  refine lv_iload_n hx hb dX1_isReaper_0 rfl (lv_at hl 1 rfl) ?_
  refine lv_iconst (v := 0) hx hb dX1_isReaper_1 (by decide) ?_
  refine lv_aload_n hx hb dX1_isReaper_2 rfl (lv_at hl 0 rfl) ?_
  refine x1_gf C hP 1 (by decide) (x := .int (nI v.2.1)) rfl rfl q60 dX1_isReaper_3 ?_
  refine lv_iconst (v := 1) hx hb dX1_isReaper_6 (by decide) ?_
  refine lv_isub hx hb dX1_isReaper_7 ?_
  refine g_ci (wr := []) (cells' := 0) (slots' := 0) rfl rfl C rd_nil hD hS (g_runS (wr := []) (n := 3) (As := [.int x0, .int 0, .int ((nI v.2.1) - 1)]) C (mX1_isIn l D t [(cI, .int)] (rb_w cI o v) H.size x0 0 ((nI v.2.1) - 1)) (rw_S q61 q62 q5 q63) kd_X1_isIn ⟨Nat.le_of_ble_eq_true rfl, Nat.le_of_ble_eq_true rfl⟩ C.2.2.2.2.2.1 hP hD hS hl.1 rfl rfl (Nat.le_of_ble_eq_true rfl) dX1_isReaper_8 ⟨Nat.le_of_ble_eq_true rfl, Nat.le_of_ble_eq_true rfl⟩) (fun r1 w' H locs hv _ _ hP hD hS => ?_)
  obtain ⟨rfl, rfl⟩ := hv
  have hD : va_D A (rb_w cI o v) := hD
  exact g_zret C hrt (rb_inz _ _ _) hP hD hS dX1_isReaper_11 ⟨by skip; rfl, by skip; rfl⟩
theorem kd_X1_thrown : yX1_thrown.cls = yX1_thrown.cls ∧ yX1_thrown.cls ≠ "java/lang/invoke/MethodHandle" ∧ yX1_thrown.cls ≠ "java/lang/invoke/VarHandle" ∧ (parseMethodDescriptor yX1_thrown.desc).map (fun d => d.parameters.length) = some 0 := by decide +kernel
set_option maxHeartbeats 4000000 in
set_option maxRecDepth 100000 in
theorem mX1_thrown (l : Launch) (D : va_G) (t : Nat → Nat) (cI : ClassId) (o : Nat) (sz : Nat) (v : S1) : gMi l yX1_thrown (rw_ yX1_thrown cX1_thrown 1 (some .int)) (rm_ 0 0 0 0) [.ref o] D [(cI, .int)] t (rb_w cI o v) sz (fun r w' => r = v.2.2.2.1 ∧ w' = rb_w cI o v) := by
  refine g_of (cc := cX1_thrown) (nL := 1) (rt := (some .int)) (Q := fun A => va_Qi _ (fun w' U => gQ D A w' U) A) (by decide) (Nat.le_of_ble_eq_true rfl) (fun p e s m args below meth c A ls H C hrt hnm hS hP hD hl => ?_)
  have hx := C.1
  have hb := C.2.1
  have hown := C.2.2.2.1
  have hts := C.2.2.2.2.1
  have hl : lv_has ls 1 [(0, .ref o)] := hl
  refine lv_aload_n hx hb dX1_thrown_0 rfl (lv_at hl 0 rfl) ?_
  refine x1_gf C hP 0 (by decide) (x := .int v.2.2.2.1) rfl rfl q59 dX1_thrown_1 ?_
  exact g_iret C hrt hP hD hS dX1_thrown_4 ⟨by skip; rfl, by skip; rfl⟩
theorem kd_X1_fail : yX1_fail.cls = yX1_fail.cls ∧ yX1_fail.cls ≠ "java/lang/invoke/MethodHandle" ∧ yX1_fail.cls ≠ "java/lang/invoke/VarHandle" ∧ (parseMethodDescriptor yX1_fail.desc).map (fun d => d.parameters.length) = some 1 := by decide +kernel
set_option maxHeartbeats 4000000 in
set_option maxRecDepth 100000 in
theorem mX1_fail (l : Launch) (D : va_G) (t : Nat → Nat) (cI : ClassId) (o : Nat) (sz : Nat) (v : S1) (x0 : Int32) : gMi l yX1_fail (rw_ yX1_fail cX1_fail 2 (some .int)) (rm_ 0 0 0 0) [.ref o, .int x0] D [(cI, .int)] t (rb_w cI o v) sz (fun r w' => r = 0 ∧ w' = rb_w cI o (rb_t v x0)) := by
  refine g_of (cc := cX1_fail) (nL := 2) (rt := (some .int)) (Q := fun A => va_Qi _ (fun w' U => gQ D A w' U) A) (by decide) (Nat.le_of_ble_eq_true rfl) (fun p e s m args below meth c A ls H C hrt hnm hS hP hD hl => ?_)
  have hx := C.1
  have hb := C.2.1
  have hown := C.2.2.2.1
  have hts := C.2.2.2.2.1
  have hl : lv_has ls 2 [(0, .ref o), (1, .int x0)] := hl
  refine lv_aload_n hx hb dX1_fail_0 rfl (lv_at hl 0 rfl) ?_
  refine lv_iload_n hx hb dX1_fail_1 rfl (lv_at hl 1 rfl) ?_
  refine x1_pt C hP hD hS q59 dX1_fail_2 (fun H locs hP hD hS => ?_)
  have hP : va_P D vwCl (rb_w cI o (rb_t v x0)) H := hP
  have hD : va_D A (rb_w cI o (rb_t v x0)) := hD
  refine lv_iconst (v := 0) hx hb dX1_fail_5 (by decide) ?_
  exact g_iret C hrt hP hD hS dX1_fail_6 ⟨by skip; rfl, by skip; rfl⟩
theorem kd_X1_re : yX1_re.cls = yX1_re.cls ∧ yX1_re.cls ≠ "java/lang/invoke/MethodHandle" ∧ yX1_re.cls ≠ "java/lang/invoke/VarHandle" ∧ (parseMethodDescriptor yX1_re.desc).map (fun d => d.parameters.length) = some 2 := by decide +kernel
set_option maxHeartbeats 4000000 in
set_option maxRecDepth 100000 in
theorem mX1_re (l : Launch) (D : va_G) (t : Nat → Nat) (cI : ClassId) (o : Nat) (sz : Nat) (v : S1) (r k : Nat) (hr8 : r < 8) (hk7 : k < 7) : gMi l yX1_re (rw_ yX1_re cX1_re 3 (some .int)) (rm_ 0 0 0 0) [.ref o, .int (nI r), .int (nI k)] D [(cI, .int)] t (rb_w cI o v) sz (fun x w' => x = v.1 2 (7 * r + k) ∧ w' = rb_w cI o v) := by
  refine g_of (cc := cX1_re) (nL := 3) (rt := (some .int)) (Q := fun A => va_Qi _ (fun w' U => gQ D A w' U) A) (by decide) (Nat.le_of_ble_eq_true rfl) (fun p e s m args below meth c A ls H C hrt hnm hS hP hD hl => ?_)
  have hx := C.1
  have hb := C.2.1
  have hown := C.2.2.2.1
  have hts := C.2.2.2.2.1
  have hl : lv_has ls 3 [(0, .ref o), (1, .int (nI r)), (2, .int (nI k))] := hl
  refine lv_aload_n hx hb dX1_re_0 rfl (lv_at hl 0 rfl) ?_
  refine x1_gf C hP 5 (by decide) (x := .ref (v.2.2.2.2 2)) rfl rfl q32 dX1_re_1 ?_
  refine lv_bipush (v := 7) hx hb dX1_re_4 (by decide) ?_
  refine lv_iload_n hx hb dX1_re_6 rfl (lv_at hl 1 rfl) ?_
  refine lv_imul hx hb dX1_re_7 ?_
  refine g_top (pk_mul 7 r) ?_
  refine lv_iload_n hx hb dX1_re_8 rfl (lv_at hl 2 rfl) ?_
  refine lv_iadd hx hb dX1_re_9 ?_
  refine g_top (nI_add (7 * r) k) ?_
  refine x1_ld C hP (k := 2) (i := (7 * r) + k) (by decide) (show (7 * r) + k < 56 by omega) rfl dX1_re_10 ?_
  exact g_iret C hrt hP hD hS dX1_re_11 ⟨by skip; rfl, by skip; rfl⟩
theorem kd_X1_let : yX1_let.cls = yX1_let.cls ∧ yX1_let.cls ≠ "java/lang/invoke/MethodHandle" ∧ yX1_let.cls ≠ "java/lang/invoke/VarHandle" ∧ (parseMethodDescriptor yX1_let.desc).map (fun d => d.parameters.length) = some 3 := by decide +kernel
set_option maxHeartbeats 4000000 in
set_option maxRecDepth 100000 in
theorem mX1_let (l : Launch) (D : va_G) (t : Nat → Nat) (cI : ClassId) (o : Nat) (sz : Nat) (v : S1) (r k : Nat) (hr8 : r < 8) (hk7 : k < 7) (x : Int32) : gMv l yX1_let (rw_ yX1_let cX1_let 4 none) (rm_ 0 0 0 0) [.ref o, .int (nI r), .int (nI k), .int x] D [(cI, .int)] t (rb_w cI o v) sz (fun w' => w' = rb_w cI o (rb_s v 2 (7 * r + k) x)) := by
  refine g_of (cc := cX1_let) (nL := 4) (rt := none) (Q := fun A => va_Qv _ (fun w' U => gQ D A w' U) A) (by decide) (Nat.le_of_ble_eq_true rfl) (fun p e s m args below meth c A ls H C hrt hnm hS hP hD hl => ?_)
  have hx := C.1
  have hb := C.2.1
  have hown := C.2.2.2.1
  have hts := C.2.2.2.2.1
  have hl : lv_has ls 4 [(0, .ref o), (1, .int (nI r)), (2, .int (nI k)), (3, .int x)] := hl
  refine lv_aload_n hx hb dX1_let_0 rfl (lv_at hl 0 rfl) ?_
  refine x1_gf C hP 5 (by decide) (x := .ref (v.2.2.2.2 2)) rfl rfl q32 dX1_let_1 ?_
  refine lv_bipush (v := 7) hx hb dX1_let_4 (by decide) ?_
  refine lv_iload_n hx hb dX1_let_6 rfl (lv_at hl 1 rfl) ?_
  refine lv_imul hx hb dX1_let_7 ?_
  refine g_top (pk_mul 7 r) ?_
  refine lv_iload_n hx hb dX1_let_8 rfl (lv_at hl 2 rfl) ?_
  refine lv_iadd hx hb dX1_let_9 ?_
  refine g_top (nI_add (7 * r) k) ?_
  refine lv_iload_n hx hb dX1_let_10 rfl (lv_at hl 3 rfl) ?_
  refine x1_st C hP hD hS (k := 2) (i := (7 * r) + k) (by decide) (show (7 * r) + k < 56 by omega) rfl dX1_let_11 (fun H locs hP hD hS => ?_)
  have hP : va_P D vwCl (rb_w cI o (rb_s v 2 ((7 * r) + k) x)) H := hP
  have hD : va_D A (rb_w cI o (rb_s v 2 ((7 * r) + k) x)) := hD
  exact g_vret C hrt hP hD hS dX1_let_12 (by skip; rfl)
theorem kd_X1_pieces : yX1_pieces.cls = yX1_pieces.cls ∧ yX1_pieces.cls ≠ "java/lang/invoke/MethodHandle" ∧ yX1_pieces.cls ≠ "java/lang/invoke/VarHandle" ∧ (parseMethodDescriptor yX1_pieces.desc).map (fun d => d.parameters.length) = some 1 := by decide +kernel
set_option maxHeartbeats 4000000 in
set_option maxRecDepth 100000 in
theorem mX1_pieces (l : Launch) (D : va_G) (t : Nat → Nat) (cI : ClassId) (o : Nat) (sz : Nat) (v : S1) (r : Nat) (hr8 : r < 8) : gMi l yX1_pieces (rw_ yX1_pieces cX1_pieces 3 (some .int)) (rm_ 1 0 0 22) [.ref o, .int (nI r)] D [(cI, .int)] t (rb_w cI o v) sz (fun _ w' => w' = rb_w cI o v) := by
  refine g_of (cc := cX1_pieces) (nL := 3) (rt := (some .int)) (Q := fun A => va_Qi _ (fun w' U => gQ D A w' U) A) (by decide) (Nat.le_of_ble_eq_true rfl) (fun p e s m args below meth c A ls H C hrt hnm hS hP hD hl => ?_)
  have hx := C.1
  have hb := C.2.1
  have hown := C.2.2.2.1
  have hts := C.2.2.2.2.1
  have hl : lv_has ls 3 [(0, .ref o), (1, .int (nI r))] := hl
  refine lv_iconst (v := 0) hx hb dX1_pieces_0 (by decide) ?_
  refine lv_aload_n hx hb dX1_pieces_1 rfl (lv_at hl 0 rfl) ?_
  refine lv_iload_n hx hb dX1_pieces_2 rfl (lv_at hl 1 rfl) ?_
  refine lv_iconst (v := 1) hx hb dX1_pieces_3 (by decide) ?_
  refine g_ci (wr := []) (cells' := 0) (slots' := 0) rfl rfl C rd_nil hD hS (g_runV (wr := []) (n := 2) C (mX1_re l D t cI o H.size v r 1 (by omega) (by omega)) (rw_V q128 q129 q130 q5 q131) kd_X1_re ⟨Nat.le_of_ble_eq_true rfl, Nat.le_of_ble_eq_true rfl⟩ (ci := 1) rfl rfl rfl C.2.2.2.2.2.1 hP hD hS hl.1 rfl rfl (Nat.le_of_ble_eq_true rfl) dX1_pieces_4 ⟨Nat.le_of_ble_eq_true rfl, Nat.le_of_ble_eq_true rfl⟩) (fun r1 w' H locs hv _ _ hP hD hS => ?_)
  obtain ⟨rfl, rfl⟩ := hv
  have hD : va_D A (rb_w cI o v) := hD
  refine lv_aload_n hx hb dX1_pieces_7 rfl (lv_at hl 0 rfl) ?_
  refine x1_gf C hP 3 (by decide) (x := .ref (v.2.2.2.2 0)) rfl rfl q30 dX1_pieces_8 ?_
  refine lv_iconst (v := 2) hx hb dX1_pieces_11 (by decide) ?_
  refine x1_ld C hP (k := 0) (i := 2) (by decide) (by decide) rfl dX1_pieces_12 ?_
  refine lv_isub hx hb dX1_pieces_13 ?_
  refine g_max C q230 q172 q173 q174 hl.1 (Nat.le_of_ble_eq_true rfl) (Nat.le_of_ble_eq_true rfl) (Nat.le_of_ble_eq_true rfl) (Nat.le_of_ble_eq_true rfl) dX1_pieces_14 ?_
  refine lv_topi (fun v2 ev2 => ?_)
  refine lv_istore_n (lv' := [(2, .int v2), (0, .ref o), (1, .int (nI r))]) hx hb dX1_pieces_17 rfl hl (by decide) rfl (fun ls hl => ?_)
  refine lv_aload_n hx hb dX1_pieces_18 rfl (lv_at hl 1 rfl) ?_
  refine x1_gf C hP 3 (by decide) (x := .ref (v.2.2.2.2 0)) rfl rfl q30 dX1_pieces_19 ?_
  refine lv_iconst (v := 0) hx hb dX1_pieces_22 (by decide) ?_
  refine x1_ld C hP (k := 0) (i := 0) (by decide) (by decide) rfl dX1_pieces_23 ?_
  refine lv_aload_n hx hb dX1_pieces_24 rfl (lv_at hl 1 rfl) ?_
  refine lv_iload_n hx hb dX1_pieces_25 rfl (lv_at hl 2 rfl) ?_
  refine lv_iconst (v := 1) hx hb dX1_pieces_26 (by decide) ?_
  refine g_ci (wr := []) (cells' := 0) (slots' := 0) rfl rfl C rd_nil hD hS (g_runV (wr := []) (n := 2) C (mX1_re l D t cI o H.size v r 1 (by omega) (by omega)) (rw_V q128 q129 q130 q5 q131) kd_X1_re ⟨Nat.le_of_ble_eq_true rfl, Nat.le_of_ble_eq_true rfl⟩ (ci := 1) rfl rfl rfl C.2.2.2.2.2.1 hP hD hS hl.1 rfl rfl (Nat.le_of_ble_eq_true rfl) dX1_pieces_27 ⟨Nat.le_of_ble_eq_true rfl, Nat.le_of_ble_eq_true rfl⟩) (fun r3 w' H locs hv _ _ hP hD hS => ?_)
  obtain ⟨rfl, rfl⟩ := hv
  have hD : va_D A (rb_w cI o v) := hD
  refine lv_iload_n hx hb dX1_pieces_30 rfl (lv_at hl 0 rfl) ?_
  refine lv_isub hx hb dX1_pieces_31 ?_
  refine lv_imul hx hb dX1_pieces_32 ?_
  refine lv_bipush (v := 10) hx hb dX1_pieces_33 (by decide) ?_
  refine lv_idiv hx hb dX1_pieces_35 (by decide) ?_
  refine lv_aload_n hx hb dX1_pieces_36 rfl (lv_at hl 1 rfl) ?_
  refine x1_gf C hP 3 (by decide) (x := .ref (v.2.2.2.2 0)) rfl rfl q30 dX1_pieces_37 ?_
  refine lv_iconst (v := 0) hx hb dX1_pieces_40 (by decide) ?_
  refine x1_ld C hP (k := 0) (i := 0) (by decide) (by decide) rfl dX1_pieces_41 ?_
  refine lv_iload_n hx hb dX1_pieces_42 rfl (lv_at hl 0 rfl) ?_
  refine lv_imul hx hb dX1_pieces_43 ?_
  refine lv_bipush (v := 100) hx hb dX1_pieces_44 (by decide) ?_
  refine lv_aload_n hx hb dX1_pieces_46 rfl (lv_at hl 1 rfl) ?_
  refine x1_gf C hP 3 (by decide) (x := .ref (v.2.2.2.2 0)) rfl rfl q30 dX1_pieces_47 ?_
  refine lv_iconst (v := 3) hx hb dX1_pieces_50 (by decide) ?_
  refine x1_ld C hP (k := 0) (i := 3) (by decide) (by decide) rfl dX1_pieces_51 ?_
  refine lv_iadd hx hb dX1_pieces_52 ?_
  refine lv_imul hx hb dX1_pieces_53 ?_
  refine lv_sipush (v := 1000) hx hb dX1_pieces_54 (by decide) ?_
  refine lv_idiv hx hb dX1_pieces_57 (by decide) ?_
  refine lv_iadd hx hb dX1_pieces_58 ?_
  exact g_iret C hrt hP hD hS dX1_pieces_59 (by subst ev2; rfl)
theorem kd_X1_counting : yX1_counting.cls = yX1_counting.cls ∧ yX1_counting.cls ≠ "java/lang/invoke/MethodHandle" ∧ yX1_counting.cls ≠ "java/lang/invoke/VarHandle" ∧ (parseMethodDescriptor yX1_counting.desc).map (fun d => d.parameters.length) = some 1 := by decide +kernel
set_option maxHeartbeats 4000000 in
set_option maxRecDepth 100000 in
theorem mX1_counting (l : Launch) (D : va_G) (t : Nat → Nat) (cI : ClassId) (o : Nat) (sz : Nat) (v : S1) (r : Nat) (hr8 : r < 8) : gMi l yX1_counting (rw_ yX1_counting cX1_counting 3 (some .int)) (rm_ 1 0 0 22) [.ref o, .int (nI r)] D [(cI, .int)] t (rb_w cI o v) sz (fun _ w' => w' = rb_w cI o v) := by
  refine g_of (cc := cX1_counting) (nL := 3) (rt := (some .int)) (Q := fun A => va_Qi _ (fun w' U => gQ D A w' U) A) (by decide) (Nat.le_of_ble_eq_true rfl) (fun p e s m args below meth c A ls H C hrt hnm hS hP hD hl => ?_)
  have hx := C.1
  have hb := C.2.1
  have hown := C.2.2.2.1
  have hts := C.2.2.2.2.1
  have hl : lv_has ls 3 [(0, .ref o), (1, .int (nI r))] := hl
  refine lv_iconst (v := 0) hx hb dX1_counting_0 (by decide) ?_
  refine lv_aload_n hx hb dX1_counting_1 rfl (lv_at hl 0 rfl) ?_
  refine lv_iload_n hx hb dX1_counting_2 rfl (lv_at hl 1 rfl) ?_
  refine lv_iconst (v := 2) hx hb dX1_counting_3 (by decide) ?_
  refine g_ci (wr := []) (cells' := 0) (slots' := 0) rfl rfl C rd_nil hD hS (g_runV (wr := []) (n := 2) C (mX1_re l D t cI o H.size v r 2 (by omega) (by omega)) (rw_V q128 q129 q130 q5 q131) kd_X1_re ⟨Nat.le_of_ble_eq_true rfl, Nat.le_of_ble_eq_true rfl⟩ (ci := 1) rfl rfl rfl C.2.2.2.2.2.1 hP hD hS hl.1 rfl rfl (Nat.le_of_ble_eq_true rfl) dX1_counting_4 ⟨Nat.le_of_ble_eq_true rfl, Nat.le_of_ble_eq_true rfl⟩) (fun r1 w' H locs hv _ _ hP hD hS => ?_)
  obtain ⟨rfl, rfl⟩ := hv
  have hD : va_D A (rb_w cI o v) := hD
  refine lv_aload_n hx hb dX1_counting_7 rfl (lv_at hl 0 rfl) ?_
  refine lv_iload_n hx hb dX1_counting_8 rfl (lv_at hl 1 rfl) ?_
  refine lv_iconst (v := 3) hx hb dX1_counting_9 (by decide) ?_
  refine g_ci (wr := []) (cells' := 0) (slots' := 0) rfl rfl C rd_nil hD hS (g_runV (wr := []) (n := 2) C (mX1_re l D t cI o H.size v r 3 (by omega) (by omega)) (rw_V q128 q129 q130 q5 q131) kd_X1_re ⟨Nat.le_of_ble_eq_true rfl, Nat.le_of_ble_eq_true rfl⟩ (ci := 1) rfl rfl rfl C.2.2.2.2.2.1 hP hD hS hl.1 rfl rfl (Nat.le_of_ble_eq_true rfl) dX1_counting_10 ⟨Nat.le_of_ble_eq_true rfl, Nat.le_of_ble_eq_true rfl⟩) (fun r2 w' H locs hv _ _ hP hD hS => ?_)
  obtain ⟨rfl, rfl⟩ := hv
  have hD : va_D A (rb_w cI o v) := hD
  refine lv_iconst (v := 1) hx hb dX1_counting_13 (by decide) ?_
  refine lv_iadd hx hb dX1_counting_14 ?_
  refine lv_iconst (v := 2) hx hb dX1_counting_15 (by decide) ?_
  refine lv_idiv hx hb dX1_counting_16 (by decide) ?_
  refine lv_isub hx hb dX1_counting_17 ?_
  refine g_max C q230 q172 q173 q174 hl.1 (Nat.le_of_ble_eq_true rfl) (Nat.le_of_ble_eq_true rfl) (Nat.le_of_ble_eq_true rfl) (Nat.le_of_ble_eq_true rfl) dX1_counting_18 ?_
  refine lv_topi (fun v3 ev3 => ?_)
  refine lv_istore_n (lv' := [(2, .int v3), (0, .ref o), (1, .int (nI r))]) hx hb dX1_counting_21 rfl hl (by decide) rfl (fun ls hl => ?_)
  refine lv_iload_n hx hb dX1_counting_22 rfl (lv_at hl 0 rfl) ?_
  refine lv_iconst (v := 0) hx hb dX1_counting_23 (by decide) ?_
  refine lv_iload_n hx hb dX1_counting_24 rfl (lv_at hl 0 rfl) ?_
  refine lv_bipush (v := 60) hx hb dX1_counting_25 (by decide) ?_
  refine lv_isub hx hb dX1_counting_27 ?_
  refine g_max C q230 q172 q173 q174 hl.1 (Nat.le_of_ble_eq_true rfl) (Nat.le_of_ble_eq_true rfl) (Nat.le_of_ble_eq_true rfl) (Nat.le_of_ble_eq_true rfl) dX1_counting_28 ?_
  refine lv_iconst (v := 2) hx hb dX1_counting_31 (by decide) ?_
  refine lv_idiv hx hb dX1_counting_32 (by decide) ?_
  refine lv_iadd hx hb dX1_counting_33 ?_
  exact g_iret C hrt hP hD hS dX1_counting_34 (by subst ev3; rfl)
theorem kd_X1_byHours : yX1_byHours.cls = yX1_byHours.cls ∧ yX1_byHours.cls ≠ "java/lang/invoke/MethodHandle" ∧ yX1_byHours.cls ≠ "java/lang/invoke/VarHandle" ∧ (parseMethodDescriptor yX1_byHours.desc).map (fun d => d.parameters.length) = some 1 := by decide +kernel
set_option maxHeartbeats 4000000 in
set_option maxRecDepth 100000 in
theorem mX1_byHours (l : Launch) (D : va_G) (t : Nat → Nat) (cI : ClassId) (o : Nat) (sz : Nat) (v : S1) (r : Nat) (hr8 : r < 8) : gMi l yX1_byHours (rw_ yX1_byHours cX1_byHours 2 (some .int)) (rm_ 2 0 0 44) [.ref o, .int (nI r)] D [(cI, .int)] t (rb_w cI o v) sz (fun _ w' => w' = rb_w cI o v) := by
  refine g_of (cc := cX1_byHours) (nL := 2) (rt := (some .int)) (Q := fun A => va_Qi _ (fun w' U => gQ D A w' U) A) (by decide) (Nat.le_of_ble_eq_true rfl) (fun p e s m args below meth c A ls H C hrt hnm hS hP hD hl => ?_)
  have hx := C.1
  have hb := C.2.1
  have hown := C.2.2.2.1
  have hts := C.2.2.2.2.1
  have hl : lv_has ls 2 [(0, .ref o), (1, .int (nI r))] := hl
  refine lv_aload_n hx hb dX1_byHours_0 rfl (lv_at hl 0 rfl) ?_
  refine x1_gf C hP 3 (by decide) (x := .ref (v.2.2.2.2 0)) rfl rfl q30 dX1_byHours_1 ?_
  refine lv_iconst (v := 1) hx hb dX1_byHours_4 (by decide) ?_
  refine x1_ld C hP (k := 0) (i := 1) (by decide) (by decide) rfl dX1_byHours_5 ?_
  refine lv_aload_n hx hb dX1_byHours_6 rfl (lv_at hl 0 rfl) ?_
  refine lv_iload_n hx hb dX1_byHours_7 rfl (lv_at hl 1 rfl) ?_
  refine g_ci (wr := []) (cells' := 0) (slots' := 0) rfl rfl C rd_nil hD hS (g_runV (wr := []) (n := 1) C (mX1_counting l D t cI o H.size v r (by omega)) (rw_V q239 q240 q241 q5 q242) kd_X1_counting ⟨Nat.le_of_ble_eq_true rfl, Nat.le_of_ble_eq_true rfl⟩ (ci := 1) rfl rfl rfl C.2.2.2.2.2.1 hP hD hS hl.1 rfl rfl (Nat.le_of_ble_eq_true rfl) dX1_byHours_8 ⟨Nat.le_of_ble_eq_true rfl, Nat.le_of_ble_eq_true rfl⟩) (fun r1 w' H locs hv _ _ hP hD hS => ?_)
  subst hv
  have hD : va_D A (rb_w cI o v) := hD
  refine lv_imul hx hb dX1_byHours_11 ?_
  exact g_iret C hrt hP hD hS dX1_byHours_12 rfl
theorem kd_X1_wageOf : yX1_wageOf.cls = yX1_wageOf.cls ∧ yX1_wageOf.cls ≠ "java/lang/invoke/MethodHandle" ∧ yX1_wageOf.cls ≠ "java/lang/invoke/VarHandle" ∧ (parseMethodDescriptor yX1_wageOf.desc).map (fun d => d.parameters.length) = some 1 := by decide +kernel
set_option maxHeartbeats 4000000 in
set_option maxRecDepth 100000 in
theorem mX1_wageOf (l : Launch) (D : va_G) (t : Nat → Nat) (cI : ClassId) (o : Nat) (sz : Nat) (v : S1) (r : Nat) (hr8 : r < 8) : gMi l yX1_wageOf (rw_ yX1_wageOf cX1_wageOf 2 (some .int)) (rm_ 3 0 0 65) [.ref o, .int (nI r)] D [(cI, .int)] t (rb_w cI o v) sz (fun _ w' => w' = rb_w cI o v) := by
  refine g_of (cc := cX1_wageOf) (nL := 2) (rt := (some .int)) (Q := fun A => va_Qi _ (fun w' U => gQ D A w' U) A) (by decide) (Nat.le_of_ble_eq_true rfl) (fun p e s m args below meth c A ls H C hrt hnm hS hP hD hl => ?_)
  have hx := C.1
  have hb := C.2.1
  have hown := C.2.2.2.1
  have hts := C.2.2.2.2.1
  have hl : lv_has ls 2 [(0, .ref o), (1, .int (nI r))] := hl
  refine lv_aload_n hx hb dX1_wageOf_0 rfl (lv_at hl 0 rfl) ?_
  refine lv_iload_n hx hb dX1_wageOf_1 rfl (lv_at hl 1 rfl) ?_
  refine lv_iconst (v := 0) hx hb dX1_wageOf_2 (by decide) ?_
  refine g_ci (wr := []) (cells' := 0) (slots' := 0) rfl rfl C rd_nil hD hS (g_runV (wr := []) (n := 2) C (mX1_re l D t cI o H.size v r 0 (by omega) (by omega)) (rw_V q128 q129 q130 q5 q131) kd_X1_re ⟨Nat.le_of_ble_eq_true rfl, Nat.le_of_ble_eq_true rfl⟩ (ci := 1) rfl rfl rfl C.2.2.2.2.2.1 hP hD hS hl.1 rfl rfl (Nat.le_of_ble_eq_true rfl) dX1_wageOf_3 ⟨Nat.le_of_ble_eq_true rfl, Nat.le_of_ble_eq_true rfl⟩) (fun r1 w' H locs hv _ _ hP hD hS => ?_)
  obtain ⟨rfl, rfl⟩ := hv
  have hD : va_D A (rb_w cI o v) := hD
  refine lv_if_ne (tgt := 17) hx hb dX1_wageOf_6 (by decide) (fun c2 => ?_) (fun c2 => ?_)
  · refine lv_aload_n hx hb dX1_wageOf_17 rfl (lv_at hl 0 rfl) ?_
    refine lv_iload_n hx hb dX1_wageOf_18 rfl (lv_at hl 1 rfl) ?_
    refine lv_iconst (v := 0) hx hb dX1_wageOf_19 (by decide) ?_
    refine g_ci (wr := []) (cells' := 0) (slots' := 0) rfl rfl C rd_nil hD hS (g_runV (wr := []) (n := 2) C (mX1_re l D t cI o H.size v r 0 (by omega) (by omega)) (rw_V q128 q129 q130 q5 q131) kd_X1_re ⟨Nat.le_of_ble_eq_true rfl, Nat.le_of_ble_eq_true rfl⟩ (ci := 1) rfl rfl rfl C.2.2.2.2.2.1 hP hD hS hl.1 rfl rfl (Nat.le_of_ble_eq_true rfl) dX1_wageOf_20 ⟨Nat.le_of_ble_eq_true rfl, Nat.le_of_ble_eq_true rfl⟩) (fun r3 w' H locs hv _ _ hP hD hS => ?_)
    obtain ⟨rfl, rfl⟩ := hv
    have hD : va_D A (rb_w cI o v) := hD
    refine lv_iconst (v := 1) hx hb dX1_wageOf_23 (by decide) ?_
    refine lv_icmp_ne (tgt := 35) hx hb dX1_wageOf_24 (by decide) (fun c4 => ?_) (fun c4 => ?_)
    · refine lv_aload_n hx hb dX1_wageOf_35 rfl (lv_at hl 0 rfl) ?_
      refine lv_iload_n hx hb dX1_wageOf_36 rfl (lv_at hl 1 rfl) ?_
      refine g_ci (wr := []) (cells' := 0) (slots' := 0) rfl rfl C rd_nil hD hS (g_runV (wr := []) (n := 1) C (mX1_pieces l D t cI o H.size v r (by omega)) (rw_V q231 q232 q233 q5 q234) kd_X1_pieces ⟨Nat.le_of_ble_eq_true rfl, Nat.le_of_ble_eq_true rfl⟩ (ci := 1) rfl rfl rfl C.2.2.2.2.2.1 hP hD hS hl.1 rfl rfl (Nat.le_of_ble_eq_true rfl) dX1_wageOf_37 ⟨Nat.le_of_ble_eq_true rfl, Nat.le_of_ble_eq_true rfl⟩) (fun r5 w' H locs hv _ _ hP hD hS => ?_)
      subst hv
      have hD : va_D A (rb_w cI o v) := hD
      refine lv_aload_n hx hb dX1_wageOf_40 rfl (lv_at hl 0 rfl) ?_
      refine lv_iload_n hx hb dX1_wageOf_41 rfl (lv_at hl 1 rfl) ?_
      refine g_ci (wr := []) (cells' := 0) (slots' := 0) rfl rfl C rd_nil hD hS (g_runV (wr := []) (n := 1) C (mX1_byHours l D t cI o H.size v r (by omega)) (rw_V q235 q236 q237 q5 q238) kd_X1_byHours ⟨Nat.le_of_ble_eq_true rfl, Nat.le_of_ble_eq_true rfl⟩ (ci := 1) rfl rfl rfl C.2.2.2.2.2.1 hP hD hS hl.1 rfl rfl (Nat.le_of_ble_eq_true rfl) dX1_wageOf_42 ⟨Nat.le_of_ble_eq_true rfl, Nat.le_of_ble_eq_true rfl⟩) (fun r6 w' H locs hv _ _ hP hD hS => ?_)
      subst hv
      have hD : va_D A (rb_w cI o v) := hD
      refine g_max C q230 q172 q173 q174 hl.1 (Nat.le_of_ble_eq_true rfl) (Nat.le_of_ble_eq_true rfl) (Nat.le_of_ble_eq_true rfl) (Nat.le_of_ble_eq_true rfl) dX1_wageOf_45 ?_
      exact g_iret C hrt hP hD hS dX1_wageOf_48 rfl
    · refine lv_aload_n hx hb dX1_wageOf_27 rfl (lv_at hl 0 rfl) ?_
      refine lv_iload_n hx hb dX1_wageOf_28 rfl (lv_at hl 1 rfl) ?_
      refine g_ci (wr := []) (cells' := 0) (slots' := 0) rfl rfl C rd_nil hD hS (g_runV (wr := []) (n := 1) C (mX1_byHours l D t cI o H.size v r (by omega)) (rw_V q235 q236 q237 q5 q238) kd_X1_byHours ⟨Nat.le_of_ble_eq_true rfl, Nat.le_of_ble_eq_true rfl⟩ (ci := 1) rfl rfl rfl C.2.2.2.2.2.1 hP hD hS hl.1 rfl rfl (Nat.le_of_ble_eq_true rfl) dX1_wageOf_29 ⟨Nat.le_of_ble_eq_true rfl, Nat.le_of_ble_eq_true rfl⟩) (fun r7 w' H locs hv _ _ hP hD hS => ?_)
      subst hv
      have hD : va_D A (rb_w cI o v) := hD
      refine lv_goto (tgt := 48) hx hb dX1_wageOf_32 (by decide) ?_
      exact g_iret C hrt hP hD hS dX1_wageOf_48 rfl
  · refine lv_aload_n hx hb dX1_wageOf_9 rfl (lv_at hl 0 rfl) ?_
    refine lv_iload_n hx hb dX1_wageOf_10 rfl (lv_at hl 1 rfl) ?_
    refine g_ci (wr := []) (cells' := 0) (slots' := 0) rfl rfl C rd_nil hD hS (g_runV (wr := []) (n := 1) C (mX1_pieces l D t cI o H.size v r (by omega)) (rw_V q231 q232 q233 q5 q234) kd_X1_pieces ⟨Nat.le_of_ble_eq_true rfl, Nat.le_of_ble_eq_true rfl⟩ (ci := 1) rfl rfl rfl C.2.2.2.2.2.1 hP hD hS hl.1 rfl rfl (Nat.le_of_ble_eq_true rfl) dX1_wageOf_11 ⟨Nat.le_of_ble_eq_true rfl, Nat.le_of_ble_eq_true rfl⟩) (fun r8 w' H locs hv _ _ hP hD hS => ?_)
    subst hv
    have hD : va_D A (rb_w cI o v) := hD
    refine lv_goto (tgt := 48) hx hb dX1_wageOf_14 (by decide) ?_
    exact g_iret C hrt hP hD hS dX1_wageOf_48 rfl
theorem kd_X1_coming : yX1_coming.cls = yX1_coming.cls ∧ yX1_coming.cls ≠ "java/lang/invoke/MethodHandle" ∧ yX1_coming.cls ≠ "java/lang/invoke/VarHandle" ∧ (parseMethodDescriptor yX1_coming.desc).map (fun d => d.parameters.length) = some 1 := by decide +kernel
set_option maxHeartbeats 4000000 in
set_option maxRecDepth 100000 in
theorem mX1_coming (l : Launch) (D : va_G) (t : Nat → Nat) (cI : ClassId) (o : Nat) (sz : Nat) (v : S1) (r : Nat) (hr8 : r < 8) : gMi l yX1_coming (rw_ yX1_coming cX1_coming 2 (some .int)) (rm_ 4 0 0 86) [.ref o, .int (nI r)] D [(cI, .int)] t (rb_w cI o v) sz (fun _ w' => w' = rb_w cI o v) := by
  refine g_of (cc := cX1_coming) (nL := 2) (rt := (some .int)) (Q := fun A => va_Qi _ (fun w' U => gQ D A w' U) A) (by decide) (Nat.le_of_ble_eq_true rfl) (fun p e s m args below meth c A ls H C hrt hnm hS hP hD hl => ?_)
  have hx := C.1
  have hb := C.2.1
  have hown := C.2.2.2.1
  have hts := C.2.2.2.2.1
  have hl : lv_has ls 2 [(0, .ref o), (1, .int (nI r))] := hl
  refine lv_aload_n hx hb dX1_coming_0 rfl (lv_at hl 0 rfl) ?_
  refine lv_iload_n hx hb dX1_coming_1 rfl (lv_at hl 1 rfl) ?_
  refine g_ci (wr := []) (cells' := 0) (slots' := 0) rfl rfl C rd_nil hD hS (g_runV (wr := []) (n := 1) C (mX1_wageOf l D t cI o H.size v r (by omega)) (rw_V q226 q227 q228 q5 q229) kd_X1_wageOf ⟨Nat.le_of_ble_eq_true rfl, Nat.le_of_ble_eq_true rfl⟩ (ci := 1) rfl rfl rfl C.2.2.2.2.2.1 hP hD hS hl.1 rfl rfl (Nat.le_of_ble_eq_true rfl) dX1_coming_2 ⟨Nat.le_of_ble_eq_true rfl, Nat.le_of_ble_eq_true rfl⟩) (fun r1 w' H locs hv _ _ hP hD hS => ?_)
  subst hv
  have hD : va_D A (rb_w cI o v) := hD
  refine lv_aload_n hx hb dX1_coming_5 rfl (lv_at hl 0 rfl) ?_
  refine lv_iload_n hx hb dX1_coming_6 rfl (lv_at hl 1 rfl) ?_
  refine lv_iconst (v := 5) hx hb dX1_coming_7 (by decide) ?_
  refine g_ci (wr := []) (cells' := 0) (slots' := 0) rfl rfl C rd_nil hD hS (g_runV (wr := []) (n := 2) C (mX1_re l D t cI o H.size v r 5 (by omega) (by omega)) (rw_V q128 q129 q130 q5 q131) kd_X1_re ⟨Nat.le_of_ble_eq_true rfl, Nat.le_of_ble_eq_true rfl⟩ (ci := 1) rfl rfl rfl C.2.2.2.2.2.1 hP hD hS hl.1 rfl rfl (Nat.le_of_ble_eq_true rfl) dX1_coming_8 ⟨Nat.le_of_ble_eq_true rfl, Nat.le_of_ble_eq_true rfl⟩) (fun r2 w' H locs hv _ _ hP hD hS => ?_)
  obtain ⟨rfl, rfl⟩ := hv
  have hD : va_D A (rb_w cI o v) := hD
  refine lv_iadd hx hb dX1_coming_11 ?_
  exact g_iret C hrt hP hD hS dX1_coming_12 rfl
theorem kd_X1_back : yX1_back.cls = yX1_back.cls ∧ yX1_back.cls ≠ "java/lang/invoke/MethodHandle" ∧ yX1_back.cls ≠ "java/lang/invoke/VarHandle" ∧ (parseMethodDescriptor yX1_back.desc).map (fun d => d.parameters.length) = some 1 := by decide +kernel
set_option maxHeartbeats 4000000 in
set_option maxRecDepth 100000 in
theorem mX1_back (l : Launch) (D : va_G) (t : Nat → Nat) (cI : ClassId) (o : Nat) (sz : Nat) (v : S1) (r : Nat) (hr8 : r < 8) (hp : ¬ v.1 0 4 = 0) : gMi l yX1_back (rw_ yX1_back cX1_back 2 (some .int)) (rm_ 5 0 0 107) [.ref o, .int (nI r)] D [(cI, .int)] t (rb_w cI o v) sz (fun _ w' => w' = rb_w cI o v) := by
  refine g_of (cc := cX1_back) (nL := 2) (rt := (some .int)) (Q := fun A => va_Qi _ (fun w' U => gQ D A w' U) A) (by decide) (Nat.le_of_ble_eq_true rfl) (fun p e s m args below meth c A ls H C hrt hnm hS hP hD hl => ?_)
  have hx := C.1
  have hb := C.2.1
  have hown := C.2.2.2.1
  have hts := C.2.2.2.2.1
  have hl : lv_has ls 2 [(0, .ref o), (1, .int (nI r))] := hl
  refine lv_aload_n hx hb dX1_back_0 rfl (lv_at hl 0 rfl) ?_
  refine lv_iload_n hx hb dX1_back_1 rfl (lv_at hl 1 rfl) ?_
  refine lv_iconst (v := 4) hx hb dX1_back_2 (by decide) ?_
  refine g_ci (wr := []) (cells' := 0) (slots' := 0) rfl rfl C rd_nil hD hS (g_runV (wr := []) (n := 2) C (mX1_re l D t cI o H.size v r 4 (by omega) (by omega)) (rw_V q128 q129 q130 q5 q131) kd_X1_re ⟨Nat.le_of_ble_eq_true rfl, Nat.le_of_ble_eq_true rfl⟩ (ci := 1) rfl rfl rfl C.2.2.2.2.2.1 hP hD hS hl.1 rfl rfl (Nat.le_of_ble_eq_true rfl) dX1_back_3 ⟨Nat.le_of_ble_eq_true rfl, Nat.le_of_ble_eq_true rfl⟩) (fun r1 w' H locs hv _ _ hP hD hS => ?_)
  obtain ⟨rfl, rfl⟩ := hv
  have hD : va_D A (rb_w cI o v) := hD
  refine lv_aload_n hx hb dX1_back_6 rfl (lv_at hl 0 rfl) ?_
  refine lv_iload_n hx hb dX1_back_7 rfl (lv_at hl 1 rfl) ?_
  refine g_ci (wr := []) (cells' := 0) (slots' := 0) rfl rfl C rd_nil hD hS (g_runV (wr := []) (n := 1) C (mX1_coming l D t cI o H.size v r (by omega)) (rw_V q222 q223 q224 q5 q225) kd_X1_coming ⟨Nat.le_of_ble_eq_true rfl, Nat.le_of_ble_eq_true rfl⟩ (ci := 1) rfl rfl rfl C.2.2.2.2.2.1 hP hD hS hl.1 rfl rfl (Nat.le_of_ble_eq_true rfl) dX1_back_8 ⟨Nat.le_of_ble_eq_true rfl, Nat.le_of_ble_eq_true rfl⟩) (fun r2 w' H locs hv _ _ hP hD hS => ?_)
  subst hv
  have hD : va_D A (rb_w cI o v) := hD
  refine lv_aload_n hx hb dX1_back_11 rfl (lv_at hl 0 rfl) ?_
  refine x1_gf C hP 3 (by decide) (x := .ref (v.2.2.2.2 0)) rfl rfl q30 dX1_back_12 ?_
  refine lv_iconst (v := 4) hx hb dX1_back_15 (by decide) ?_
  refine x1_ld C hP (k := 0) (i := 4) (by decide) (by decide) rfl dX1_back_16 ?_
  refine lv_idiv hx hb dX1_back_17 hp ?_
  refine g_min C q212 q180 q173 q181 hl.1 (Nat.le_of_ble_eq_true rfl) (Nat.le_of_ble_eq_true rfl) (Nat.le_of_ble_eq_true rfl) (Nat.le_of_ble_eq_true rfl) dX1_back_18 ?_
  exact g_iret C hrt hP hD hS dX1_back_21 rfl
