theorem kd_X0_requireIndex : yX0_requireIndex.cls ≠ "java/lang/invoke/MethodHandle" ∧ yX0_requireIndex.cls ≠ "java/lang/invoke/VarHandle" ∧ (parseMethodDescriptor yX0_requireIndex.desc).map (fun d => d.parameters.length) = some 2 := by decide +kernel
set_option maxHeartbeats 4000000 in
set_option maxRecDepth 100000 in
theorem mX0_requireIndex (l : Launch) (D : va_G) (t : Nat → Nat) (ty : List (ClassId × FieldType)) (w : va_W) (sz : Nat) (i n : Nat) (h1 : i < n) (h2 : n < 2147483648) : gMv l yX0_requireIndex (rw_ yX0_requireIndex cX0_requireIndex 2 none) (rm_ 0 0 0 0) [.int (nI i), .int (nI n)] D ty t (w) sz (fun w' => w' = w) := by
  refine g_of (cc := cX0_requireIndex) (nL := 2) (rt := none) (Q := fun A => va_Qv _ (fun w' U => gQ D A w' U) A) (by decide) (Nat.le_of_ble_eq_true rfl) (fun p e s m args below meth c A ls H C hrt hnm hS hP hD hl => ?_)
  have hx := C.1
  have hb := C.2.1
  have hown := C.2.2.2.1
  have hts := C.2.2.2.2.1
  have hl : lv_has ls 2 [(0, .int (nI i)), (1, .int (nI n))] := hl
  · refine lv_iload_n hx hb dX0_requireIndex_0 rfl (lv_at hl 0 rfl) ?_
    refine lv_if_lt (tgt := 9) hx hb dX0_requireIndex_1 (by decide) (fun c1 => absurd c1 (nI_pos (by omega))) (fun c1 => ?_)
    refine lv_iload_n hx hb dX0_requireIndex_4 rfl (lv_at hl 0 rfl) ?_
    refine lv_iload_n hx hb dX0_requireIndex_5 rfl (lv_at hl 1 rfl) ?_
    refine lv_icmp_lt (tgt := 19) hx hb dX0_requireIndex_6 (by decide) (fun c2 => ?_) (fun c2 => absurd ((nI_ltI (a := i) (b := n) (by omega) (by omega)).mpr (by omega)) c2)
    exact g_vret C hrt hP hD hS dX0_requireIndex_19 (by skip; rfl)
theorem kd_X0_requireArgument : yX0_requireArgument.cls ≠ "java/lang/invoke/MethodHandle" ∧ yX0_requireArgument.cls ≠ "java/lang/invoke/VarHandle" ∧ (parseMethodDescriptor yX0_requireArgument.desc).map (fun d => d.parameters.length) = some 3 := by decide +kernel
set_option maxHeartbeats 4000000 in
set_option maxRecDepth 100000 in
theorem mX0_requireArgument (l : Launch) (D : va_G) (t : Nat → Nat) (ty : List (ClassId × FieldType)) (w : va_W) (sz : Nat) (x0 x1 x2 : Int32) (h1 : ¬ x0 < x1) (h2 : x0 ≤ x2) : gMv l yX0_requireArgument (rw_ yX0_requireArgument cX0_requireArgument 3 none) (rm_ 0 0 0 0) [.int x0, .int x1, .int x2] D ty t (w) sz (fun w' => w' = w) := by
  refine g_of (cc := cX0_requireArgument) (nL := 3) (rt := none) (Q := fun A => va_Qv _ (fun w' U => gQ D A w' U) A) (by decide) (Nat.le_of_ble_eq_true rfl) (fun p e s m args below meth c A ls H C hrt hnm hS hP hD hl => ?_)
  have hx := C.1
  have hb := C.2.1
  have hown := C.2.2.2.1
  have hts := C.2.2.2.2.1
  have hl : lv_has ls 3 [(0, .int x0), (1, .int x1), (2, .int x2)] := hl
  · refine lv_iload_n hx hb dX0_requireArgument_0 rfl (lv_at hl 0 rfl) ?_
    refine lv_iload_n hx hb dX0_requireArgument_1 rfl (lv_at hl 1 rfl) ?_
    refine lv_icmp_lt (tgt := 10) hx hb dX0_requireArgument_2 (by decide) (fun c1 => absurd c1 h1) (fun c1 => ?_)
    refine lv_iload_n hx hb dX0_requireArgument_5 rfl (lv_at hl 0 rfl) ?_
    refine lv_iload_n hx hb dX0_requireArgument_6 rfl (lv_at hl 2 rfl) ?_
    refine lv_icmp_le (tgt := 20) hx hb dX0_requireArgument_7 (by decide) (fun c2 => ?_) (fun c2 => absurd h2 c2)
    exact g_vret C hrt hP hD hS dX0_requireArgument_20 (by skip; rfl)
theorem kd_X0_requireState : yX0_requireState.cls ≠ "java/lang/invoke/MethodHandle" ∧ yX0_requireState.cls ≠ "java/lang/invoke/VarHandle" ∧ (parseMethodDescriptor yX0_requireState.desc).map (fun d => d.parameters.length) = some 1 := by decide +kernel
set_option maxHeartbeats 4000000 in
set_option maxRecDepth 100000 in
theorem mX0_requireState (l : Launch) (D : va_G) (t : Nat → Nat) (ty : List (ClassId × FieldType)) (w : va_W) (sz : Nat) (x0 : Int32) (h1 : ¬ x0 = 0) : gMv l yX0_requireState (rw_ yX0_requireState cX0_requireState 1 none) (rm_ 0 0 0 0) [.int x0] D ty t (w) sz (fun w' => w' = w) := by
  refine g_of (cc := cX0_requireState) (nL := 1) (rt := none) (Q := fun A => va_Qv _ (fun w' U => gQ D A w' U) A) (by decide) (Nat.le_of_ble_eq_true rfl) (fun p e s m args below meth c A ls H C hrt hnm hS hP hD hl => ?_)
  have hx := C.1
  have hb := C.2.1
  have hown := C.2.2.2.1
  have hts := C.2.2.2.2.1
  have hl : lv_has ls 1 [(0, .int x0)] := hl
  · refine lv_iload_n hx hb dX0_requireState_0 rfl (lv_at hl 0 rfl) ?_
    refine lv_if_ne (tgt := 14) hx hb dX0_requireState_1 (by decide) (fun c1 => ?_) (fun c1 => absurd c1 h1)
    exact g_vret C hrt hP hD hS dX0_requireState_14 (by skip; rfl)
theorem kd_X0_requireRate : yX0_requireRate.cls ≠ "java/lang/invoke/MethodHandle" ∧ yX0_requireRate.cls ≠ "java/lang/invoke/VarHandle" ∧ (parseMethodDescriptor yX0_requireRate.desc).map (fun d => d.parameters.length) = some 2 := by decide +kernel
set_option maxHeartbeats 4000000 in
set_option maxRecDepth 100000 in
theorem mX0_requireRate (l : Launch) (D : va_G) (t : Nat → Nat) (cI : ClassId) (o : Nat) (ad : Nat → Nat) (sz : Nat) (u : S0) (k : Nat) (hk5 : k < 5) (x : Int32) (h1 : ¬ x < rt_RX0_LEAST_RATE k) (h2 : x ≤ rt_RX0_MOST_RATE k) : gMv l yX0_requireRate (rw_ yX0_requireRate cX0_requireRate 2 none) (rm_ 1 0 0 22) [.int (nI k), .int x] D [(cI, .int)] t (ra_w cI o ad u) sz (fun w' => w' = ra_w cI o ad u) := by
  refine g_of (cc := cX0_requireRate) (nL := 2) (rt := none) (Q := fun A => va_Qv _ (fun w' U => gQ D A w' U) A) (by decide) (Nat.le_of_ble_eq_true rfl) (fun p e s m args below meth c A ls H C hrt hnm hS hP hD hl => ?_)
  have hx := C.1
  have hb := C.2.1
  have hown := C.2.2.2.1
  have hts := C.2.2.2.2.1
  have hl : lv_has ls 2 [(0, .int (nI k)), (1, .int x)] := hl
  refine lv_iload_n hx hb dX0_requireRate_0 rfl (lv_at hl 0 rfl) ?_
  refine lv_iconst (v := 5) hx hb dX0_requireRate_1 (by decide) ?_
  refine g_cv (wr := []) (cells' := 0) (slots' := 0) rfl rfl C rd_nil hD hS (g_runS (wr := []) (n := 2) (As := [.int (nI k), .int 5]) C (mX0_requireIndex l D t [(cI, .int)] (ra_w cI o ad u) H.size k 5 (by omega) (by omega)) (rw_S q89 q90 q2 q91) kd_X0_requireIndex ⟨Nat.le_of_ble_eq_true rfl, Nat.le_of_ble_eq_true rfl⟩ C.2.2.2.2.2.1 hP hD hS hl.1 rfl rfl (Nat.le_of_ble_eq_true rfl) dX0_requireRate_2 ⟨Nat.le_of_ble_eq_true rfl, Nat.le_of_ble_eq_true rfl⟩) (fun w' H locs hv _ _ hP hD hS => ?_)
  subst hv
  have hD : va_D A (ra_w cI o ad u) := hD
  refine lv_iload_n hx hb dX0_requireRate_5 rfl (lv_at hl 1 rfl) ?_
  refine g_gs C hS (C.2.2.2.2.2.2.2.1.1) q87 dX0_requireRate_6 ?_
  refine lv_iload_n hx hb dX0_requireRate_9 rfl (lv_at hl 0 rfl) ?_
  refine g_ti C hS (N := 5) (i := k) (f := rt_RX0_LEAST_RATE) C.2.2.2.2.2.2.2.1.2.1 (by decide) hk5 rfl dX0_requireRate_10 ?_
  refine g_gs C hS (C.2.2.2.2.2.2.2.1.2.2.1) q88 dX0_requireRate_11 ?_
  refine lv_iload_n hx hb dX0_requireRate_14 rfl (lv_at hl 0 rfl) ?_
  refine g_ti C hS (N := 5) (i := k) (f := rt_RX0_MOST_RATE) C.2.2.2.2.2.2.2.1.2.2.2.1 (by decide) hk5 rfl dX0_requireRate_15 ?_
  refine g_cv (wr := []) (cells' := 0) (slots' := 0) rfl rfl C rd_nil hD hS (g_runS (wr := []) (n := 3) (As := [.int x, .int (rt_RX0_LEAST_RATE k), .int (rt_RX0_MOST_RATE k)]) C (mX0_requireArgument l D t [(cI, .int)] (ra_w cI o ad u) H.size x (rt_RX0_LEAST_RATE k) (rt_RX0_MOST_RATE k) h1 h2) (rw_S q67 q68 q2 q69) kd_X0_requireArgument ⟨Nat.le_of_ble_eq_true rfl, Nat.le_of_ble_eq_true rfl⟩ C.2.2.2.2.2.1 hP hD hS hl.1 rfl rfl (Nat.le_of_ble_eq_true rfl) dX0_requireRate_16 ⟨Nat.le_of_ble_eq_true rfl, Nat.le_of_ble_eq_true rfl⟩) (fun w' H locs hv _ _ hP hD hS => ?_)
  subst hv
  have hD : va_D A (ra_w cI o ad u) := hD
  exact g_vret C hrt hP hD hS dX0_requireRate_19 (by skip; rfl)
theorem kd_X0_hire : yX0_hire.cls = yX0_hire.cls ∧ yX0_hire.cls ≠ "java/lang/invoke/MethodHandle" ∧ yX0_hire.cls ≠ "java/lang/invoke/VarHandle" ∧ (parseMethodDescriptor yX0_hire.desc).map (fun d => d.parameters.length) = some 1 := by decide +kernel
set_option maxHeartbeats 4000000 in
set_option maxRecDepth 100000 in
theorem mX0_hire (l : Launch) (D : va_G) (t : Nat → Nat) (cI : ClassId) (o : Nat) (ad : Nat → Nat) (sz : Nat) (u : S0) (x : Int32) (h1 : ¬ x < 0) (h2 : x ≤ 2) (h3 : u.2.1 < 8) : gMi l yX0_hire (rw_ yX0_hire cX0_hire 2 (some .int)) (rm_ 1 0 0 22) [.ref o, .int x] D [(cI, .int)] t (ra_w cI o ad u) sz (fun v w' => v = nI u.2.1 ∧ w' = ra_w cI o ad ((ra_s u 0 u.2.1 x).1, u.2.1 + 1, u.2.2)) := by
  refine g_of (cc := cX0_hire) (nL := 2) (rt := (some .int)) (Q := fun A => va_Qi _ (fun w' U => gQ D A w' U) A) (by decide) (Nat.le_of_ble_eq_true rfl) (fun p e s m args below meth c A ls H C hrt hnm hS hP hD hl => ?_)
  have hx := C.1
  have hb := C.2.1
  have hown := C.2.2.2.1
  have hts := C.2.2.2.2.1
  have hl : lv_has ls 2 [(0, .ref o), (1, .int x)] := hl
  refine lv_iload_n hx hb dX0_hire_0 rfl (lv_at hl 1 rfl) ?_
  refine lv_iconst (v := 0) hx hb dX0_hire_1 (by decide) ?_
  refine lv_iconst (v := 2) hx hb dX0_hire_2 (by decide) ?_
  refine g_cv (wr := []) (cells' := 0) (slots' := 0) rfl rfl C rd_nil hD hS (g_runS (wr := []) (n := 3) (As := [.int x, .int 0, .int 2]) C (mX0_requireArgument l D t [(cI, .int)] (ra_w cI o ad u) H.size x 0 2 h1 h2) (rw_S q67 q68 q2 q69) kd_X0_requireArgument ⟨Nat.le_of_ble_eq_true rfl, Nat.le_of_ble_eq_true rfl⟩ C.2.2.2.2.2.1 hP hD hS hl.1 rfl rfl (Nat.le_of_ble_eq_true rfl) dX0_hire_3 ⟨Nat.le_of_ble_eq_true rfl, Nat.le_of_ble_eq_true rfl⟩) (fun w' H locs hv _ _ hP hD hS => ?_)
  subst hv
  have hD : va_D A (ra_w cI o ad u) := hD
  refine lv_aload_n hx hb dX0_hire_6 rfl (lv_at hl 0 rfl) ?_
  refine x0_gf C hP 9 (by decide) (v := .int (nI u.2.1)) rfl rfl q66 dX0_hire_7 ?_
  refine lv_bipush (v := 8) hx hb dX0_hire_10 (by decide) ?_
  refine lv_icmp_ge (tgt := 19) hx hb dX0_hire_12 (by decide) (fun c1 => absurd c1 (fun h9 => absurd ((nI_leI (a := 8) (b := u.2.1) (by omega) (by omega)).mp h9) (by omega))) (fun c1 => ?_)
  refine lv_iconst (v := 1) hx hb dX0_hire_15 (by decide) ?_
  refine lv_goto (tgt := 20) hx hb dX0_hire_16 (by decide) ?_
  refine g_cv (wr := []) (cells' := 0) (slots' := 0) rfl rfl C rd_nil hD hS (g_runS (wr := []) (n := 1) (As := [.int 1]) C (mX0_requireState l D t [(cI, .int)] (ra_w cI o ad u) H.size 1 (by decide)) (rw_S q72 q73 q2 q74) kd_X0_requireState ⟨Nat.le_of_ble_eq_true rfl, Nat.le_of_ble_eq_true rfl⟩ C.2.2.2.2.2.1 hP hD hS hl.1 rfl rfl (Nat.le_of_ble_eq_true rfl) dX0_hire_20 ⟨Nat.le_of_ble_eq_true rfl, Nat.le_of_ble_eq_true rfl⟩) (fun w' H locs hv _ _ hP hD hS => ?_)
  subst hv
  have hD : va_D A (ra_w cI o ad u) := hD
  refine lv_aload_n hx hb dX0_hire_23 rfl (lv_at hl 0 rfl) ?_
  refine x0_gf C hP 0 (by decide) (v := .ref (ad 0)) rfl rfl q11 dX0_hire_24 ?_
  refine lv_aload_n hx hb dX0_hire_27 rfl (lv_at hl 0 rfl) ?_
  refine x0_gf C hP 9 (by decide) (v := .int (nI u.2.1)) rfl rfl q66 dX0_hire_28 ?_
  refine lv_iload_n hx hb dX0_hire_31 rfl (lv_at hl 1 rfl) ?_
  refine x0_st C hP hD hS (k := 0) (i := u.2.1) (Or.inl (by decide)) h3 rfl dX0_hire_32 (fun H locs hP hD hS => ?_)
  obtain ⟨u2, eu2⟩ : ∃ z : S0, z = ra_s u 0 u.2.1 x := ⟨_, rfl⟩
  have hP : va_P D vwCl (ra_w cI o ad u2) H := by rw [eu2]; exact hP
  have hD : va_D A (ra_w cI o ad u2) := by rw [eu2]; exact hD
  refine lv_aload_n hx hb dX0_hire_33 rfl (lv_at hl 0 rfl) ?_
  refine lv_dup hx hb dX0_hire_34 rfl ?_
  refine x0_gf C hP 9 (by decide) (v := .int (nI u2.2.1)) rfl rfl q66 dX0_hire_35 ?_
  refine lv_iconst (v := 1) hx hb dX0_hire_38 (by decide) ?_
  refine lv_iadd hx hb dX0_hire_39 ?_
  refine g_top (nI_1 u2.2.1) ?_
  refine x0_ph C hP hD hS (u2.2.1 + 1) q66 dX0_hire_40 (fun H locs hP hD hS => ?_)
  obtain ⟨u3, eu3⟩ : ∃ z : S0, z = (u2.1, u2.2.1 + 1, u2.2.2) := ⟨_, rfl⟩
  have hP : va_P D vwCl (ra_w cI o ad u3) H := by rw [eu3]; exact hP
  have hD : va_D A (ra_w cI o ad u3) := by rw [eu3]; exact hD
  refine lv_aload_n hx hb dX0_hire_43 rfl (lv_at hl 0 rfl) ?_
  refine x0_gf C hP 9 (by decide) (v := .int (nI u3.2.1)) rfl rfl q66 dX0_hire_44 ?_
  refine lv_iconst (v := 1) hx hb dX0_hire_47 (by decide) ?_
  refine lv_isub hx hb dX0_hire_48 ?_
  exact g_iret C hrt hP hD hS dX0_hire_49 ⟨by subst eu3; subst eu2; exact nI_pred _, by subst eu3; subst eu2; rfl⟩
theorem kd_X0_setRate : yX0_setRate.cls = yX0_setRate.cls ∧ yX0_setRate.cls ≠ "java/lang/invoke/MethodHandle" ∧ yX0_setRate.cls ≠ "java/lang/invoke/VarHandle" ∧ (parseMethodDescriptor yX0_setRate.desc).map (fun d => d.parameters.length) = some 2 := by decide +kernel
set_option maxHeartbeats 4000000 in
set_option maxRecDepth 100000 in
theorem mX0_setRate (l : Launch) (D : va_G) (t : Nat → Nat) (cI : ClassId) (o : Nat) (ad : Nat → Nat) (sz : Nat) (u : S0) (k : Nat) (hk5 : k < 5) (x : Int32) (h1 : ¬ x < rt_RX0_LEAST_RATE k) (h2 : x ≤ rt_RX0_MOST_RATE k) : gMi l yX0_setRate (rw_ yX0_setRate cX0_setRate 4 (some .int)) (rm_ 2 0 0 43) [.ref o, .int (nI k), .int x] D [(cI, .int)] t (ra_w cI o ad u) sz (fun v w' => v = u.1 7 k ∧ w' = ra_w cI o ad (ra_s u 7 k x)) := by
  refine g_of (cc := cX0_setRate) (nL := 4) (rt := (some .int)) (Q := fun A => va_Qi _ (fun w' U => gQ D A w' U) A) (by decide) (Nat.le_of_ble_eq_true rfl) (fun p e s m args below meth c A ls H C hrt hnm hS hP hD hl => ?_)
  have hx := C.1
  have hb := C.2.1
  have hown := C.2.2.2.1
  have hts := C.2.2.2.2.1
  have hl : lv_has ls 4 [(0, .ref o), (1, .int (nI k)), (2, .int x)] := hl
  refine lv_iload_n hx hb dX0_setRate_0 rfl (lv_at hl 1 rfl) ?_
  refine lv_iload_n hx hb dX0_setRate_1 rfl (lv_at hl 2 rfl) ?_
  refine g_cv (wr := []) (cells' := 0) (slots' := 0) rfl rfl C rd_nil hD hS (g_runS (wr := []) (n := 2) (As := [.int (nI k), .int x]) C (mX0_requireRate l D t cI o ad H.size u k hk5 x h1 h2) (rw_S q84 q85 q2 q86) kd_X0_requireRate ⟨Nat.le_of_ble_eq_true rfl, Nat.le_of_ble_eq_true rfl⟩ C.2.2.2.2.2.1 hP hD hS hl.1 rfl rfl (Nat.le_of_ble_eq_true rfl) dX0_setRate_2 ⟨Nat.le_of_ble_eq_true rfl, Nat.le_of_ble_eq_true rfl⟩) (fun w' H locs hv _ _ hP hD hS => ?_)
  subst hv
  have hD : va_D A (ra_w cI o ad u) := hD
  refine lv_aload_n hx hb dX0_setRate_5 rfl (lv_at hl 0 rfl) ?_
  refine x0_gf C hP 7 (by decide) (v := .ref (ad 7)) rfl rfl q18 dX0_setRate_6 ?_
  refine lv_iload_n hx hb dX0_setRate_9 rfl (lv_at hl 1 rfl) ?_
  refine x0_ld C hP (k := 7) (i := k) (Or.inl (by decide)) hk5 rfl dX0_setRate_10 ?_
  refine lv_topi (fun v1 ev1 => ?_)
  refine lv_istore_n (lv' := [(3, .int v1), (0, .ref o), (1, .int (nI k)), (2, .int x)]) hx hb dX0_setRate_11 rfl hl (by decide) rfl (fun ls hl => ?_)
  refine lv_aload_n hx hb dX0_setRate_12 rfl (lv_at hl 1 rfl) ?_
  refine x0_gf C hP 7 (by decide) (v := .ref (ad 7)) rfl rfl q18 dX0_setRate_13 ?_
  refine lv_iload_n hx hb dX0_setRate_16 rfl (lv_at hl 2 rfl) ?_
  refine lv_iload_n hx hb dX0_setRate_17 rfl (lv_at hl 3 rfl) ?_
  refine x0_st C hP hD hS (k := 7) (i := k) (Or.inl (by decide)) hk5 rfl dX0_setRate_18 (fun H locs hP hD hS => ?_)
  obtain ⟨u2, eu2⟩ : ∃ z : S0, z = ra_s u 7 k x := ⟨_, rfl⟩
  have hP : va_P D vwCl (ra_w cI o ad u2) H := by rw [eu2]; exact hP
  have hD : va_D A (ra_w cI o ad u2) := by rw [eu2]; exact hD
  refine lv_iload_n hx hb dX0_setRate_19 rfl (lv_at hl 0 rfl) ?_
  exact g_iret C hrt hP hD hS dX0_setRate_20 ⟨by subst eu2; subst ev1; rfl, by subst eu2; subst ev1; rfl⟩
theorem kd_X0_fill : yX0_fill.cls = yX0_fill.cls ∧ yX0_fill.cls ≠ "java/lang/invoke/MethodHandle" ∧ yX0_fill.cls ≠ "java/lang/invoke/VarHandle" ∧ (parseMethodDescriptor yX0_fill.desc).map (fun d => d.parameters.length) = some 2 := by decide +kernel
set_option maxHeartbeats 4000000 in
set_option maxRecDepth 100000 in
theorem mX0_fill (l : Launch) (D : va_G) (t : Nat → Nat) (cI : ClassId) (o : Nat) (ad : Nat → Nat) (sz : Nat) (u : S0) (k : Nat) (hk3 : k < 3) (x : Int32) (h1 : ¬ x < 1) (h2 : x ≤ 500) : gMi l yX0_fill (rw_ yX0_fill cX0_fill 3 (some .int)) (rm_ 1 0 0 22) [.ref o, .int (nI k), .int x] D [(cI, .int)] t (ra_w cI o ad u) sz (fun v w' => v = u.1 8 k + x ∧ w' = ra_w cI o ad (ra_s u 8 k (u.1 8 k + x))) := by
  refine g_of (cc := cX0_fill) (nL := 3) (rt := (some .int)) (Q := fun A => va_Qi _ (fun w' U => gQ D A w' U) A) (by decide) (Nat.le_of_ble_eq_true rfl) (fun p e s m args below meth c A ls H C hrt hnm hS hP hD hl => ?_)
  have hx := C.1
  have hb := C.2.1
  have hown := C.2.2.2.1
  have hts := C.2.2.2.2.1
  have hl : lv_has ls 3 [(0, .ref o), (1, .int (nI k)), (2, .int x)] := hl
  refine lv_iload_n hx hb dX0_fill_0 rfl (lv_at hl 1 rfl) ?_
  refine lv_iconst (v := 3) hx hb dX0_fill_1 (by decide) ?_
  refine g_cv (wr := []) (cells' := 0) (slots' := 0) rfl rfl C rd_nil hD hS (g_runS (wr := []) (n := 2) (As := [.int (nI k), .int 3]) C (mX0_requireIndex l D t [(cI, .int)] (ra_w cI o ad u) H.size k 3 (by omega) (by omega)) (rw_S q89 q90 q2 q91) kd_X0_requireIndex ⟨Nat.le_of_ble_eq_true rfl, Nat.le_of_ble_eq_true rfl⟩ C.2.2.2.2.2.1 hP hD hS hl.1 rfl rfl (Nat.le_of_ble_eq_true rfl) dX0_fill_2 ⟨Nat.le_of_ble_eq_true rfl, Nat.le_of_ble_eq_true rfl⟩) (fun w' H locs hv _ _ hP hD hS => ?_)
  subst hv
  have hD : va_D A (ra_w cI o ad u) := hD
  refine lv_iload_n hx hb dX0_fill_5 rfl (lv_at hl 2 rfl) ?_
  refine lv_iconst (v := 1) hx hb dX0_fill_6 (by decide) ?_
  refine lv_sipush (v := 500) hx hb dX0_fill_7 (by decide) ?_
  refine g_cv (wr := []) (cells' := 0) (slots' := 0) rfl rfl C rd_nil hD hS (g_runS (wr := []) (n := 3) (As := [.int x, .int 1, .int 500]) C (mX0_requireArgument l D t [(cI, .int)] (ra_w cI o ad u) H.size x 1 500 h1 h2) (rw_S q67 q68 q2 q69) kd_X0_requireArgument ⟨Nat.le_of_ble_eq_true rfl, Nat.le_of_ble_eq_true rfl⟩ C.2.2.2.2.2.1 hP hD hS hl.1 rfl rfl (Nat.le_of_ble_eq_true rfl) dX0_fill_10 ⟨Nat.le_of_ble_eq_true rfl, Nat.le_of_ble_eq_true rfl⟩) (fun w' H locs hv _ _ hP hD hS => ?_)
  subst hv
  have hD : va_D A (ra_w cI o ad u) := hD
  refine lv_aload_n hx hb dX0_fill_13 rfl (lv_at hl 0 rfl) ?_
  refine x0_gf C hP 8 (by decide) (v := .ref (ad 8)) rfl rfl q19 dX0_fill_14 ?_
  refine lv_iload_n hx hb dX0_fill_17 rfl (lv_at hl 1 rfl) ?_
  refine lv_dup2_11 hx hb dX0_fill_18 rfl rfl ?_
  refine x0_ld C hP (k := 8) (i := k) (Or.inl (by decide)) hk3 rfl dX0_fill_19 ?_
  refine lv_iload_n hx hb dX0_fill_20 rfl (lv_at hl 2 rfl) ?_
  refine lv_iadd hx hb dX0_fill_21 ?_
  refine x0_st C hP hD hS (k := 8) (i := k) (Or.inl (by decide)) hk3 rfl dX0_fill_22 (fun H locs hP hD hS => ?_)
  obtain ⟨u1, eu1⟩ : ∃ z : S0, z = ra_s u 8 k ((u.1 8 k) + x) := ⟨_, rfl⟩
  have hP : va_P D vwCl (ra_w cI o ad u1) H := by rw [eu1]; exact hP
  have hD : va_D A (ra_w cI o ad u1) := by rw [eu1]; exact hD
  refine lv_aload_n hx hb dX0_fill_23 rfl (lv_at hl 0 rfl) ?_
  refine x0_gf C hP 8 (by decide) (v := .ref (ad 8)) rfl rfl q19 dX0_fill_24 ?_
  refine lv_iload_n hx hb dX0_fill_27 rfl (lv_at hl 1 rfl) ?_
  refine x0_ld C hP (k := 8) (i := k) (Or.inl (by decide)) hk3 rfl dX0_fill_28 ?_
  exact g_iret C hrt hP hD hS dX0_fill_29 ⟨by subst eu1; exact ra_sS, by subst eu1; rfl⟩
theorem kd_X0_bind : yX0_bind.cls = yX0_bind.cls ∧ yX0_bind.cls ≠ "java/lang/invoke/MethodHandle" ∧ yX0_bind.cls ≠ "java/lang/invoke/VarHandle" ∧ (parseMethodDescriptor yX0_bind.desc).map (fun d => d.parameters.length) = some 2 := by decide +kernel
set_option maxHeartbeats 4000000 in
set_option maxRecDepth 100000 in
theorem mX0_bind (l : Launch) (D : va_G) (t : Nat → Nat) (cI : ClassId) (o : Nat) (ad : Nat → Nat) (sz : Nat) (u : S0) (hh : u.2.1 ≤ 8) (r : Nat) (hr : r < u.2.1) (x : Int32) (h1 : ¬ x < 1) (h2 : x ≤ 999) : gMi l yX0_bind (rw_ yX0_bind cX0_bind 3 (some .int)) (rm_ 1 0 0 22) [.ref o, .int (nI r), .int x] D [(cI, .int)] t (ra_w cI o ad u) sz (fun v w' => v = u.1 1 r + x ∧ w' = ra_w cI o ad (ra_s u 1 r (u.1 1 r + x))) := by
  refine g_of (cc := cX0_bind) (nL := 3) (rt := (some .int)) (Q := fun A => va_Qi _ (fun w' U => gQ D A w' U) A) (by decide) (Nat.le_of_ble_eq_true rfl) (fun p e s m args below meth c A ls H C hrt hnm hS hP hD hl => ?_)
  have hx := C.1
  have hb := C.2.1
  have hown := C.2.2.2.1
  have hts := C.2.2.2.2.1
  have hl : lv_has ls 3 [(0, .ref o), (1, .int (nI r)), (2, .int x)] := hl
  refine lv_iload_n hx hb dX0_bind_0 rfl (lv_at hl 1 rfl) ?_
  refine lv_aload_n hx hb dX0_bind_1 rfl (lv_at hl 0 rfl) ?_
  refine x0_gf C hP 9 (by decide) (v := .int (nI u.2.1)) rfl rfl q66 dX0_bind_2 ?_
  refine g_cv (wr := []) (cells' := 0) (slots' := 0) rfl rfl C rd_nil hD hS (g_runS (wr := []) (n := 2) (As := [.int (nI r), .int (nI u.2.1)]) C (mX0_requireIndex l D t [(cI, .int)] (ra_w cI o ad u) H.size r u.2.1 (by omega) (by omega)) (rw_S q89 q90 q2 q91) kd_X0_requireIndex ⟨Nat.le_of_ble_eq_true rfl, Nat.le_of_ble_eq_true rfl⟩ C.2.2.2.2.2.1 hP hD hS hl.1 rfl rfl (Nat.le_of_ble_eq_true rfl) dX0_bind_5 ⟨Nat.le_of_ble_eq_true rfl, Nat.le_of_ble_eq_true rfl⟩) (fun w' H locs hv _ _ hP hD hS => ?_)
  subst hv
  have hD : va_D A (ra_w cI o ad u) := hD
  refine lv_iload_n hx hb dX0_bind_8 rfl (lv_at hl 2 rfl) ?_
  refine lv_iconst (v := 1) hx hb dX0_bind_9 (by decide) ?_
  refine lv_sipush (v := 999) hx hb dX0_bind_10 (by decide) ?_
  refine g_cv (wr := []) (cells' := 0) (slots' := 0) rfl rfl C rd_nil hD hS (g_runS (wr := []) (n := 3) (As := [.int x, .int 1, .int 999]) C (mX0_requireArgument l D t [(cI, .int)] (ra_w cI o ad u) H.size x 1 999 h1 h2) (rw_S q67 q68 q2 q69) kd_X0_requireArgument ⟨Nat.le_of_ble_eq_true rfl, Nat.le_of_ble_eq_true rfl⟩ C.2.2.2.2.2.1 hP hD hS hl.1 rfl rfl (Nat.le_of_ble_eq_true rfl) dX0_bind_13 ⟨Nat.le_of_ble_eq_true rfl, Nat.le_of_ble_eq_true rfl⟩) (fun w' H locs hv _ _ hP hD hS => ?_)
  subst hv
  have hD : va_D A (ra_w cI o ad u) := hD
  refine lv_aload_n hx hb dX0_bind_16 rfl (lv_at hl 0 rfl) ?_
  refine x0_gf C hP 1 (by decide) (v := .ref (ad 1)) rfl rfl q12 dX0_bind_17 ?_
  refine lv_iload_n hx hb dX0_bind_20 rfl (lv_at hl 1 rfl) ?_
  refine lv_dup2_11 hx hb dX0_bind_21 rfl rfl ?_
  refine x0_ld C hP (k := 1) (i := r) (Or.inl (by decide)) (show r < 8 by omega) rfl dX0_bind_22 ?_
  refine lv_iload_n hx hb dX0_bind_23 rfl (lv_at hl 2 rfl) ?_
  refine lv_iadd hx hb dX0_bind_24 ?_
  refine x0_st C hP hD hS (k := 1) (i := r) (Or.inl (by decide)) (show r < 8 by omega) rfl dX0_bind_25 (fun H locs hP hD hS => ?_)
  obtain ⟨u1, eu1⟩ : ∃ z : S0, z = ra_s u 1 r ((u.1 1 r) + x) := ⟨_, rfl⟩
  have hP : va_P D vwCl (ra_w cI o ad u1) H := by rw [eu1]; exact hP
  have hD : va_D A (ra_w cI o ad u1) := by rw [eu1]; exact hD
  refine lv_aload_n hx hb dX0_bind_26 rfl (lv_at hl 0 rfl) ?_
  refine x0_gf C hP 1 (by decide) (v := .ref (ad 1)) rfl rfl q12 dX0_bind_27 ?_
  refine lv_iload_n hx hb dX0_bind_30 rfl (lv_at hl 1 rfl) ?_
  refine x0_ld C hP (k := 1) (i := r) (Or.inl (by decide)) (show r < 8 by omega) rfl dX0_bind_31 ?_
  exact g_iret C hrt hP hD hS dX0_bind_32 ⟨by subst eu1; exact ra_sS, by subst eu1; rfl⟩
theorem kd_X0_lend : yX0_lend.cls = yX0_lend.cls ∧ yX0_lend.cls ≠ "java/lang/invoke/MethodHandle" ∧ yX0_lend.cls ≠ "java/lang/invoke/VarHandle" ∧ (parseMethodDescriptor yX0_lend.desc).map (fun d => d.parameters.length) = some 2 := by decide +kernel
set_option maxHeartbeats 4000000 in
set_option maxRecDepth 100000 in
theorem mX0_lend (l : Launch) (D : va_G) (t : Nat → Nat) (cI : ClassId) (o : Nat) (ad : Nat → Nat) (sz : Nat) (u : S0) (hh : u.2.1 ≤ 8) (r : Nat) (hr : r < u.2.1) (x : Int32) (h1 : ¬ x < 1) (h2 : x ≤ 2000) (h3 : ¬ 5000 < u.1 4 r + x) : gMi l yX0_lend (rw_ yX0_lend cX0_lend 3 (some .int)) (rm_ 1 0 0 22) [.ref o, .int (nI r), .int x] D [(cI, .int)] t (ra_w cI o ad u) sz (fun v w' => v = u.1 4 r + x ∧ w' = ra_w cI o ad (ra_s u 4 r (u.1 4 r + x))) := by
  refine g_of (cc := cX0_lend) (nL := 3) (rt := (some .int)) (Q := fun A => va_Qi _ (fun w' U => gQ D A w' U) A) (by decide) (Nat.le_of_ble_eq_true rfl) (fun p e s m args below meth c A ls H C hrt hnm hS hP hD hl => ?_)
  have hx := C.1
  have hb := C.2.1
  have hown := C.2.2.2.1
  have hts := C.2.2.2.2.1
  have hl : lv_has ls 3 [(0, .ref o), (1, .int (nI r)), (2, .int x)] := hl
  refine lv_iload_n hx hb dX0_lend_0 rfl (lv_at hl 1 rfl) ?_
  refine lv_aload_n hx hb dX0_lend_1 rfl (lv_at hl 0 rfl) ?_
  refine x0_gf C hP 9 (by decide) (v := .int (nI u.2.1)) rfl rfl q66 dX0_lend_2 ?_
  refine g_cv (wr := []) (cells' := 0) (slots' := 0) rfl rfl C rd_nil hD hS (g_runS (wr := []) (n := 2) (As := [.int (nI r), .int (nI u.2.1)]) C (mX0_requireIndex l D t [(cI, .int)] (ra_w cI o ad u) H.size r u.2.1 (by omega) (by omega)) (rw_S q89 q90 q2 q91) kd_X0_requireIndex ⟨Nat.le_of_ble_eq_true rfl, Nat.le_of_ble_eq_true rfl⟩ C.2.2.2.2.2.1 hP hD hS hl.1 rfl rfl (Nat.le_of_ble_eq_true rfl) dX0_lend_5 ⟨Nat.le_of_ble_eq_true rfl, Nat.le_of_ble_eq_true rfl⟩) (fun w' H locs hv _ _ hP hD hS => ?_)
  subst hv
  have hD : va_D A (ra_w cI o ad u) := hD
  refine lv_iload_n hx hb dX0_lend_8 rfl (lv_at hl 2 rfl) ?_
  refine lv_iconst (v := 1) hx hb dX0_lend_9 (by decide) ?_
  refine lv_sipush (v := 2000) hx hb dX0_lend_10 (by decide) ?_
  refine g_cv (wr := []) (cells' := 0) (slots' := 0) rfl rfl C rd_nil hD hS (g_runS (wr := []) (n := 3) (As := [.int x, .int 1, .int 2000]) C (mX0_requireArgument l D t [(cI, .int)] (ra_w cI o ad u) H.size x 1 2000 h1 h2) (rw_S q67 q68 q2 q69) kd_X0_requireArgument ⟨Nat.le_of_ble_eq_true rfl, Nat.le_of_ble_eq_true rfl⟩ C.2.2.2.2.2.1 hP hD hS hl.1 rfl rfl (Nat.le_of_ble_eq_true rfl) dX0_lend_13 ⟨Nat.le_of_ble_eq_true rfl, Nat.le_of_ble_eq_true rfl⟩) (fun w' H locs hv _ _ hP hD hS => ?_)
  subst hv
  have hD : va_D A (ra_w cI o ad u) := hD
  refine lv_aload_n hx hb dX0_lend_16 rfl (lv_at hl 0 rfl) ?_
  refine x0_gf C hP 4 (by decide) (v := .ref (ad 4)) rfl rfl q15 dX0_lend_17 ?_
  refine lv_iload_n hx hb dX0_lend_20 rfl (lv_at hl 1 rfl) ?_
  refine x0_ld C hP (k := 4) (i := r) (Or.inl (by decide)) (show r < 8 by omega) rfl dX0_lend_21 ?_
  refine lv_iload_n hx hb dX0_lend_22 rfl (lv_at hl 2 rfl) ?_
  refine lv_iadd hx hb dX0_lend_23 ?_
  refine lv_sipush (v := 5000) hx hb dX0_lend_24 (by decide) ?_
  refine lv_icmp_gt (tgt := 34) hx hb dX0_lend_27 (by decide) (fun c1 => absurd c1 h3) (fun c1 => ?_)
  refine lv_iconst (v := 1) hx hb dX0_lend_30 (by decide) ?_
  refine lv_goto (tgt := 35) hx hb dX0_lend_31 (by decide) ?_
  refine g_cv (wr := []) (cells' := 0) (slots' := 0) rfl rfl C rd_nil hD hS (g_runS (wr := []) (n := 1) (As := [.int 1]) C (mX0_requireState l D t [(cI, .int)] (ra_w cI o ad u) H.size 1 (by decide)) (rw_S q72 q73 q2 q74) kd_X0_requireState ⟨Nat.le_of_ble_eq_true rfl, Nat.le_of_ble_eq_true rfl⟩ C.2.2.2.2.2.1 hP hD hS hl.1 rfl rfl (Nat.le_of_ble_eq_true rfl) dX0_lend_35 ⟨Nat.le_of_ble_eq_true rfl, Nat.le_of_ble_eq_true rfl⟩) (fun w' H locs hv _ _ hP hD hS => ?_)
  subst hv
  have hD : va_D A (ra_w cI o ad u) := hD
  refine lv_aload_n hx hb dX0_lend_38 rfl (lv_at hl 0 rfl) ?_
  refine x0_gf C hP 4 (by decide) (v := .ref (ad 4)) rfl rfl q15 dX0_lend_39 ?_
  refine lv_iload_n hx hb dX0_lend_42 rfl (lv_at hl 1 rfl) ?_
  refine lv_dup2_11 hx hb dX0_lend_43 rfl rfl ?_
  refine x0_ld C hP (k := 4) (i := r) (Or.inl (by decide)) (show r < 8 by omega) rfl dX0_lend_44 ?_
  refine lv_iload_n hx hb dX0_lend_45 rfl (lv_at hl 2 rfl) ?_
  refine lv_iadd hx hb dX0_lend_46 ?_
  refine x0_st C hP hD hS (k := 4) (i := r) (Or.inl (by decide)) (show r < 8 by omega) rfl dX0_lend_47 (fun H locs hP hD hS => ?_)
  obtain ⟨u2, eu2⟩ : ∃ z : S0, z = ra_s u 4 r ((u.1 4 r) + x) := ⟨_, rfl⟩
  have hP : va_P D vwCl (ra_w cI o ad u2) H := by rw [eu2]; exact hP
  have hD : va_D A (ra_w cI o ad u2) := by rw [eu2]; exact hD
  refine lv_aload_n hx hb dX0_lend_48 rfl (lv_at hl 0 rfl) ?_
  refine x0_gf C hP 4 (by decide) (v := .ref (ad 4)) rfl rfl q15 dX0_lend_49 ?_
  refine lv_iload_n hx hb dX0_lend_52 rfl (lv_at hl 1 rfl) ?_
  refine x0_ld C hP (k := 4) (i := r) (Or.inl (by decide)) (show r < 8 by omega) rfl dX0_lend_53 ?_
  exact g_iret C hrt hP hD hS dX0_lend_54 ⟨by subst eu2; exact ra_sS, by subst eu2; rfl⟩
theorem kd_X0_work : yX0_work.cls = yX0_work.cls ∧ yX0_work.cls ≠ "java/lang/invoke/MethodHandle" ∧ yX0_work.cls ≠ "java/lang/invoke/VarHandle" ∧ (parseMethodDescriptor yX0_work.desc).map (fun d => d.parameters.length) = some 3 := by decide +kernel
set_option maxHeartbeats 4000000 in
set_option maxRecDepth 100000 in
theorem mX0_work (l : Launch) (D : va_G) (t : Nat → Nat) (cI : ClassId) (o : Nat) (ad : Nat → Nat) (sz : Nat) (u : S0) (hh : u.2.1 ≤ 8) (r : Nat) (hr : r < u.2.1) (x b : Int32) (h1 : ¬ x < 0) (h2 : x ≤ 16) (h3 : ¬ 99 < u.1 2 r + x) : gMi l yX0_work (rw_ yX0_work cX0_work 4 (some .int)) (rm_ 1 0 0 22) [.ref o, .int (nI r), .int x, .int b] D [(cI, .int)] t (ra_w cI o ad u) sz (fun v w' => v = u.1 2 r + x ∧ w' = ra_w cI o ad (rf_wk u r x b)) := by
  refine g_of (cc := cX0_work) (nL := 4) (rt := (some .int)) (Q := fun A => va_Qi _ (fun w' U => gQ D A w' U) A) (by decide) (Nat.le_of_ble_eq_true rfl) (fun p e s m args below meth c A ls H C hrt hnm hS hP hD hl => ?_)
  have hx := C.1
  have hb := C.2.1
  have hown := C.2.2.2.1
  have hts := C.2.2.2.2.1
  have hl : lv_has ls 4 [(0, .ref o), (1, .int (nI r)), (2, .int x), (3, .int b)] := hl
  refine lv_iload_n hx hb dX0_work_0 rfl (lv_at hl 1 rfl) ?_
  refine lv_aload_n hx hb dX0_work_1 rfl (lv_at hl 0 rfl) ?_
  refine x0_gf C hP 9 (by decide) (v := .int (nI u.2.1)) rfl rfl q66 dX0_work_2 ?_
  refine g_cv (wr := []) (cells' := 0) (slots' := 0) rfl rfl C rd_nil hD hS (g_runS (wr := []) (n := 2) (As := [.int (nI r), .int (nI u.2.1)]) C (mX0_requireIndex l D t [(cI, .int)] (ra_w cI o ad u) H.size r u.2.1 (by omega) (by omega)) (rw_S q89 q90 q2 q91) kd_X0_requireIndex ⟨Nat.le_of_ble_eq_true rfl, Nat.le_of_ble_eq_true rfl⟩ C.2.2.2.2.2.1 hP hD hS hl.1 rfl rfl (Nat.le_of_ble_eq_true rfl) dX0_work_5 ⟨Nat.le_of_ble_eq_true rfl, Nat.le_of_ble_eq_true rfl⟩) (fun w' H locs hv _ _ hP hD hS => ?_)
  subst hv
  have hD : va_D A (ra_w cI o ad u) := hD
  refine lv_iload_n hx hb dX0_work_8 rfl (lv_at hl 2 rfl) ?_
  refine lv_iconst (v := 0) hx hb dX0_work_9 (by decide) ?_
  refine lv_bipush (v := 16) hx hb dX0_work_10 (by decide) ?_
  refine g_cv (wr := []) (cells' := 0) (slots' := 0) rfl rfl C rd_nil hD hS (g_runS (wr := []) (n := 3) (As := [.int x, .int 0, .int 16]) C (mX0_requireArgument l D t [(cI, .int)] (ra_w cI o ad u) H.size x 0 16 h1 h2) (rw_S q67 q68 q2 q69) kd_X0_requireArgument ⟨Nat.le_of_ble_eq_true rfl, Nat.le_of_ble_eq_true rfl⟩ C.2.2.2.2.2.1 hP hD hS hl.1 rfl rfl (Nat.le_of_ble_eq_true rfl) dX0_work_12 ⟨Nat.le_of_ble_eq_true rfl, Nat.le_of_ble_eq_true rfl⟩) (fun w' H locs hv _ _ hP hD hS => ?_)
  subst hv
  have hD : va_D A (ra_w cI o ad u) := hD
  refine lv_aload_n hx hb dX0_work_15 rfl (lv_at hl 0 rfl) ?_
  refine x0_gf C hP 2 (by decide) (v := .ref (ad 2)) rfl rfl q13 dX0_work_16 ?_
  refine lv_iload_n hx hb dX0_work_19 rfl (lv_at hl 1 rfl) ?_
  refine x0_ld C hP (k := 2) (i := r) (Or.inl (by decide)) (show r < 8 by omega) rfl dX0_work_20 ?_
  refine lv_iload_n hx hb dX0_work_21 rfl (lv_at hl 2 rfl) ?_
  refine lv_iadd hx hb dX0_work_22 ?_
  refine lv_bipush (v := 99) hx hb dX0_work_23 (by decide) ?_
  refine lv_icmp_gt (tgt := 32) hx hb dX0_work_25 (by decide) (fun c1 => absurd c1 h3) (fun c1 => ?_)
  refine lv_iconst (v := 1) hx hb dX0_work_28 (by decide) ?_
  refine lv_goto (tgt := 33) hx hb dX0_work_29 (by decide) ?_
  refine g_cv (wr := []) (cells' := 0) (slots' := 0) rfl rfl C rd_nil hD hS (g_runS (wr := []) (n := 1) (As := [.int 1]) C (mX0_requireState l D t [(cI, .int)] (ra_w cI o ad u) H.size 1 (by decide)) (rw_S q72 q73 q2 q74) kd_X0_requireState ⟨Nat.le_of_ble_eq_true rfl, Nat.le_of_ble_eq_true rfl⟩ C.2.2.2.2.2.1 hP hD hS hl.1 rfl rfl (Nat.le_of_ble_eq_true rfl) dX0_work_33 ⟨Nat.le_of_ble_eq_true rfl, Nat.le_of_ble_eq_true rfl⟩) (fun w' H locs hv _ _ hP hD hS => ?_)
  subst hv
  have hD : va_D A (ra_w cI o ad u) := hD
  refine lv_aload_n hx hb dX0_work_36 rfl (lv_at hl 0 rfl) ?_
  refine x0_gf C hP 2 (by decide) (v := .ref (ad 2)) rfl rfl q13 dX0_work_37 ?_
  refine lv_iload_n hx hb dX0_work_40 rfl (lv_at hl 1 rfl) ?_
  refine lv_dup2_11 hx hb dX0_work_41 rfl rfl ?_
  refine x0_ld C hP (k := 2) (i := r) (Or.inl (by decide)) (show r < 8 by omega) rfl dX0_work_42 ?_
  refine lv_iload_n hx hb dX0_work_43 rfl (lv_at hl 2 rfl) ?_
  refine lv_iadd hx hb dX0_work_44 ?_
  refine x0_st C hP hD hS (k := 2) (i := r) (Or.inl (by decide)) (show r < 8 by omega) rfl dX0_work_45 (fun H locs hP hD hS => ?_)
  obtain ⟨u2, eu2⟩ : ∃ z : S0, z = ra_s u 2 r ((u.1 2 r) + x) := ⟨_, rfl⟩
  have hP : va_P D vwCl (ra_w cI o ad u2) H := by rw [eu2]; exact hP
  have hD : va_D A (ra_w cI o ad u2) := by rw [eu2]; exact hD
  refine lv_iload_n hx hb dX0_work_46 rfl (lv_at hl 3 rfl) ?_
  refine lv_if_eq (tgt := 60) hx hb dX0_work_47 (by decide) (fun c3 => ?_) (fun c3 => ?_)
  · refine lv_aload_n hx hb dX0_work_60 rfl (lv_at hl 0 rfl) ?_
    refine x0_gf C hP 2 (by decide) (v := .ref (ad 2)) rfl rfl q13 dX0_work_61 ?_
    refine lv_iload_n hx hb dX0_work_64 rfl (lv_at hl 1 rfl) ?_
    refine x0_ld C hP (k := 2) (i := r) (Or.inl (by decide)) (show r < 8 by omega) rfl dX0_work_65 ?_
    exact g_iret C hrt hP hD hS dX0_work_66 ⟨by subst eu2; exact ra_sS, by subst eu2; rw [rf_wk, if_pos c3]⟩
  · refine lv_aload_n hx hb dX0_work_50 rfl (lv_at hl 0 rfl) ?_
    refine x0_gf C hP 3 (by decide) (v := .ref (ad 3)) rfl rfl q14 dX0_work_51 ?_
    refine lv_iload_n hx hb dX0_work_54 rfl (lv_at hl 1 rfl) ?_
    refine lv_dup2_11 hx hb dX0_work_55 rfl rfl ?_
    refine x0_ld C hP (k := 3) (i := r) (Or.inl (by decide)) (show r < 8 by omega) rfl dX0_work_56 ?_
    refine lv_iconst (v := 1) hx hb dX0_work_57 (by decide) ?_
    refine lv_iadd hx hb dX0_work_58 ?_
    refine x0_st C hP hD hS (k := 3) (i := r) (Or.inl (by decide)) (show r < 8 by omega) rfl dX0_work_59 (fun H locs hP hD hS => ?_)
    obtain ⟨u4, eu4⟩ : ∃ z : S0, z = ra_s u2 3 r ((u2.1 3 r) + 1) := ⟨_, rfl⟩
    have hP : va_P D vwCl (ra_w cI o ad u4) H := by rw [eu4]; exact hP
    have hD : va_D A (ra_w cI o ad u4) := by rw [eu4]; exact hD
    refine lv_aload_n hx hb dX0_work_60 rfl (lv_at hl 0 rfl) ?_
    refine x0_gf C hP 2 (by decide) (v := .ref (ad 2)) rfl rfl q13 dX0_work_61 ?_
    refine lv_iload_n hx hb dX0_work_64 rfl (lv_at hl 1 rfl) ?_
    refine x0_ld C hP (k := 2) (i := r) (Or.inl (by decide)) (show r < 8 by omega) rfl dX0_work_65 ?_
    exact g_iret C hrt hP hD hS dX0_work_66 ⟨by subst eu4; subst eu2; exact (congrFun (ra_sN (by decide)) r).trans ra_sS, by subst eu4; subst eu2; rw [rf_wk, if_neg c3]⟩
theorem kd_X0_pay : yX0_pay.cls = yX0_pay.cls ∧ yX0_pay.cls ≠ "java/lang/invoke/MethodHandle" ∧ yX0_pay.cls ≠ "java/lang/invoke/VarHandle" ∧ (parseMethodDescriptor yX0_pay.desc).map (fun d => d.parameters.length) = some 0 := by decide +kernel
set_option maxHeartbeats 4000000 in
set_option maxRecDepth 100000 in
theorem lpX0_pay {p : Program} {l : Launch} {e : Env} {s : State} {m : MethodId} {args : Array Value} {below : List Frame} {meth : Method} {c : Code} {Q : State → Prop} {D : va_G} {t : Nat → Nat} {A : Nat → Prop} {cI : ClassId} {o : Nat} {ad : Nat → Nat} {u : S0} (C : gC p s m args meth c cX0_pay 3 RX0 D [(cI, .int)] t A) (hh : u.2.1 ≤ 8) (kk : ∀ (H : Heap) (locs : List Loc) (ls : Array Slot), va_P D vwCl (ra_w cI o ad ((rf_py u u.2.1).2)) H → va_D A (ra_w cI o ad ((rf_py u u.2.1).2)) → va_S A s.heap H locs → lv_has ls 3 [(0, .ref o), (1, .int ((rf_py u u.2.1).1)), (2, .int (nI u.2.1))] → W p l e (rm_ 6 0 0 134) s m args below meth c H locs 0 0 Q (F0 m 26 ls [])) :
    ∀ (n i : Nat), i + n = u.2.1 → ∀ (H : Heap) (locs : List Loc) (ls : Array Slot), va_P D vwCl (ra_w cI o ad ((rf_py u i).2)) H → va_D A (ra_w cI o ad ((rf_py u i).2)) → va_S A s.heap H locs → lv_has ls 3 [(0, .ref o), (1, .int ((rf_py u i).1)), (2, .int (nI i))] → W p l e (rm_ 6 0 0 134) s m args below meth c H locs 0 0 Q (F0 m 4 ls []) := by
  have hx := C.1
  have hb := C.2.1
  have hown := C.2.2.2.1
  have hts := C.2.2.2.2.1
  intro n
  induction n with
  | zero =>
    intro i hi H locs ls hP hD hS hl
    have hiN : i = u.2.1 := by omega
    refine lv_iload_n hx hb dX0_pay_4 rfl (lv_at hl 2 rfl) ?_
    refine lv_aload_n hx hb dX0_pay_5 rfl (lv_at hl 0 rfl) ?_
    refine x0_gf C hP 9 (by decide) (v := .int (nI (((rf_py u i).2).2.1))) rfl rfl q66 dX0_pay_6 ?_
    refine g_top (congrArg (fun z => nI z.1) (rf_py2 u i)) ?_
    refine lv_icmp_ge (tgt := 26) hx hb dX0_pay_9 (by decide) (fun c1 => ?_) (fun c1 => absurd ((nI_leI (a := u.2.1) (b := i) (by omega) (by omega)).mpr (by omega)) c1)
    subst hiN
    exact kk _ _ _ hP hD hS (lv_sub hl [0, 1, 2] rfl)
  | succ n ih =>
    intro i hi H locs ls hP hD hS hl
    have hin : i < u.2.1 := by omega
    refine lv_iload_n hx hb dX0_pay_4 rfl (lv_at hl 2 rfl) ?_
    refine lv_aload_n hx hb dX0_pay_5 rfl (lv_at hl 0 rfl) ?_
    refine x0_gf C hP 9 (by decide) (v := .int (nI (((rf_py u i).2).2.1))) rfl rfl q66 dX0_pay_6 ?_
    refine g_top (congrArg (fun z => nI z.1) (rf_py2 u i)) ?_
    refine lv_icmp_ge (tgt := 26) hx hb dX0_pay_9 (by decide) (fun c1 => absurd c1 (fun h9 => absurd ((nI_leI (a := u.2.1) (b := i) (by omega) (by omega)).mp h9) (by omega))) (fun c1 => ?_)
    refine lv_iload_n hx hb dX0_pay_12 rfl (lv_at hl 1 rfl) ?_
    refine lv_aload_n hx hb dX0_pay_13 rfl (lv_at hl 0 rfl) ?_
    refine lv_iload_n hx hb dX0_pay_14 rfl (lv_at hl 2 rfl) ?_
    refine g_ci (wr := []) (cells' := 0) (slots' := 0) rfl rfl C rd_nil hD hS (g_runV (wr := []) (n := 1) C (mX0_settle l D t cI o ad H.size ((rf_py u i).2) i (by omega)) (rw_V q111 q112 q113 q2 q114) kd_X0_settle ⟨Nat.le_of_ble_eq_true rfl, Nat.le_of_ble_eq_true rfl⟩ (ci := 0) rfl rfl rfl C.2.2.2.2.2.1 hP hD hS hl.1 rfl rfl (Nat.le_of_ble_eq_true rfl) dX0_pay_15 ⟨Nat.le_of_ble_eq_true rfl, Nat.le_of_ble_eq_true rfl⟩) (fun v w' H locs hv _ _ hP hD hS => ?_)
    obtain ⟨rfl, rfl⟩ := hv
    have hD : va_D A (ra_w cI o ad (rf_st ((rf_py u i).2) i)) := hD
    obtain ⟨u2, eu2⟩ : ∃ z : S0, z = rf_st ((rf_py u i).2) i := ⟨_, rfl⟩
    have hP : va_P D vwCl (ra_w cI o ad u2) H := by rw [eu2]; exact hP
    have hD : va_D A (ra_w cI o ad u2) := by rw [eu2]; exact hD
    refine lv_iadd hx hb dX0_pay_18 ?_
    refine lv_topi (fun v3 ev3 => ?_)
    refine lv_istore_n (lv' := [(1, .int v3), (0, .ref o), (2, .int (nI i))]) hx hb dX0_pay_19 rfl hl (by decide) rfl (fun ls hl => ?_)
    refine lv_iinc (v := nI (i + 1)) (lv' := [(2, .int (nI (i + 1))), (1, .int v3), (0, .ref o)]) hx hb dX0_pay_20 hl (k := 2) rfl (nI_1 _) (by decide) rfl (fun ls hl => ?_)
    refine lv_goto (tgt := 4) hx hb dX0_pay_23 (by decide) ?_
    subst ev3; subst eu2
    exact ih (i + 1) (by omega) _ _ _ hP hD hS (lv_sub hl [2, 1, 0] rfl)
set_option maxHeartbeats 4000000 in
set_option maxRecDepth 100000 in
theorem mX0_pay (l : Launch) (D : va_G) (t : Nat → Nat) (cI : ClassId) (o : Nat) (ad : Nat → Nat) (sz : Nat) (u : S0) (hh : u.2.1 ≤ 8) : gMi l yX0_pay (rw_ yX0_pay cX0_pay 3 (some .int)) (rm_ 6 0 0 134) [.ref o] D [(cI, .int)] t (ra_w cI o ad u) sz (fun v w' => v = (rf_py u u.2.1).1 ∧ w' = ra_w cI o ad ((rf_py u u.2.1).2.1, (rf_py u u.2.1).2.2.1, (rf_py u u.2.1).2.2.2 + 1)) := by
  refine g_of (cc := cX0_pay) (nL := 3) (rt := (some .int)) (Q := fun A => va_Qi _ (fun w' U => gQ D A w' U) A) (by decide) (Nat.le_of_ble_eq_true rfl) (fun p e s m args below meth c A ls H C hrt hnm hS hP hD hl => ?_)
  have hx := C.1
  have hb := C.2.1
  have hown := C.2.2.2.1
  have hts := C.2.2.2.2.1
  have hl : lv_has ls 3 [(0, .ref o)] := hl
  refine lv_iconst (v := 0) hx hb dX0_pay_0 (by decide) ?_
  refine lv_istore_n (lv' := [(1, .int 0), (0, .ref o)]) hx hb dX0_pay_1 rfl hl (by decide) rfl (fun ls hl => ?_)
  refine lv_iconst (v := 0) hx hb dX0_pay_2 (by decide) ?_
  refine lv_istore_n (lv' := [(2, .int 0), (1, .int 0), (0, .ref o)]) hx hb dX0_pay_3 rfl hl (by decide) rfl (fun ls hl => ?_)
  refine lpX0_pay  C hh (fun H locs ls hP hD hS hl => ?_) u.2.1 0 (by omega) _ _ _ hP hD hS (lv_sub hl [2, 1, 0] rfl)
  refine lv_aload_n hx hb dX0_pay_26 rfl (lv_at hl 0 rfl) ?_
  refine lv_dup hx hb dX0_pay_27 rfl ?_
  refine x0_gf C hP 10 (by decide) (v := .int (((rf_py u u.2.1).2).2.2)) rfl rfl q110 dX0_pay_28 ?_
  refine lv_iconst (v := 1) hx hb dX0_pay_31 (by decide) ?_
  refine lv_iadd hx hb dX0_pay_32 ?_
  refine x0_pw C hP hD hS q110 dX0_pay_33 (fun H locs hP hD hS => ?_)
  obtain ⟨u1, eu1⟩ : ∃ z : S0, z = (((rf_py u u.2.1).2).1, ((rf_py u u.2.1).2).2.1, (((rf_py u u.2.1).2).2.2) + 1) := ⟨_, rfl⟩
  have hP : va_P D vwCl (ra_w cI o ad u1) H := by rw [eu1]; exact hP
  have hD : va_D A (ra_w cI o ad u1) := by rw [eu1]; exact hD
  refine lv_iload_n hx hb dX0_pay_36 rfl (lv_at hl 1 rfl) ?_
  exact g_iret C hrt hP hD hS dX0_pay_37 ⟨by subst eu1; rfl, by subst eu1; rfl⟩
theorem kd_X0_told : yX0_told.cls = yX0_told.cls ∧ yX0_told.cls ≠ "java/lang/invoke/MethodHandle" ∧ yX0_told.cls ≠ "java/lang/invoke/VarHandle" ∧ (parseMethodDescriptor yX0_told.desc).map (fun d => d.parameters.length) = some 2 := by decide +kernel
set_option maxHeartbeats 4000000 in
set_option maxRecDepth 100000 in
theorem mX0_told (l : Launch) (D : va_G) (t : Nat → Nat) (cI : ClassId) (o : Nat) (ad : Nat → Nat) (sz : Nat) (u : S0) (hh : u.2.1 ≤ 8) (r : Nat) (hr : r < u.2.1) (k : Nat) (hk8 : k < 8) : gMi l yX0_told (rw_ yX0_told cX0_told 3 (some .int)) (rm_ 2 0 0 45) [.ref o, .int (nI r), .int (nI k)] D [(cI, .int)] t (ra_w cI o ad u) sz (fun v w' => v = rf_told u r k ∧ w' = ra_w cI o ad u) := by
  refine g_of (cc := cX0_told) (nL := 3) (rt := (some .int)) (Q := fun A => va_Qi _ (fun w' U => gQ D A w' U) A) (by decide) (Nat.le_of_ble_eq_true rfl) (fun p e s m args below meth c A ls H C hrt hnm hS hP hD hl => ?_)
  have hx := C.1
  have hb := C.2.1
  have hown := C.2.2.2.1
  have hts := C.2.2.2.2.1
  have hl : lv_has ls 3 [(0, .ref o), (1, .int (nI r)), (2, .int (nI k))] := hl
  have hk9 : k = 0 ∨ k = 1 ∨ k = 2 ∨ k = 3 ∨ k = 4 ∨ k = 5 ∨ k = 6 ∨ k = 7 := by omega
  rcases hk9 with rfl | rfl | rfl | rfl | rfl | rfl | rfl | rfl
  · have hl : lv_has ls 3 [(0, .ref o), (1, .int (nI r)), (2, .int (nI 0))] := hl
    refine lv_iload_n hx hb dX0_told_0 rfl (lv_at hl 1 rfl) ?_
    refine lv_aload_n hx hb dX0_told_1 rfl (lv_at hl 0 rfl) ?_
    refine x0_gf C hP 9 (by decide) (v := .int (nI u.2.1)) rfl rfl q66 dX0_told_2 ?_
    refine g_cv (wr := []) (cells' := 0) (slots' := 0) rfl rfl C rd_nil hD hS (g_runS (wr := []) (n := 2) (As := [.int (nI r), .int (nI u.2.1)]) C (mX0_requireIndex l D t [(cI, .int)] (ra_w cI o ad u) H.size r u.2.1 (by omega) (by omega)) (rw_S q89 q90 q2 q91) kd_X0_requireIndex ⟨Nat.le_of_ble_eq_true rfl, Nat.le_of_ble_eq_true rfl⟩ C.2.2.2.2.2.1 hP hD hS hl.1 rfl rfl (Nat.le_of_ble_eq_true rfl) dX0_told_5 ⟨Nat.le_of_ble_eq_true rfl, Nat.le_of_ble_eq_true rfl⟩) (fun w' H locs hv _ _ hP hD hS => ?_)
    subst hv
    have hD : va_D A (ra_w cI o ad u) := hD
    refine lv_iload_n hx hb dX0_told_8 rfl (lv_at hl 2 rfl) ?_
    refine lv_bipush (v := 8) hx hb dX0_told_9 (by decide) ?_
    refine g_cv (wr := []) (cells' := 0) (slots' := 0) rfl rfl C rd_nil hD hS (g_runS (wr := []) (n := 2) (As := [.int (nI 0), .int 8]) C (mX0_requireIndex l D t [(cI, .int)] (ra_w cI o ad u) H.size 0 8 (by omega) (by omega)) (rw_S q89 q90 q2 q91) kd_X0_requireIndex ⟨Nat.le_of_ble_eq_true rfl, Nat.le_of_ble_eq_true rfl⟩ C.2.2.2.2.2.1 hP hD hS hl.1 rfl rfl (Nat.le_of_ble_eq_true rfl) dX0_told_11 ⟨Nat.le_of_ble_eq_true rfl, Nat.le_of_ble_eq_true rfl⟩) (fun w' H locs hv _ _ hP hD hS => ?_)
    subst hv
    have hD : va_D A (ra_w cI o ad u) := hD
    refine lv_iload_n hx hb dX0_told_14 rfl (lv_at hl 2 rfl) ?_
    refine lv_tableIn (off := 41) (tgt := 56) hx hb dX0_told_15 (by decide) (by decide) rfl (by decide) ?_
    refine lv_aload_n hx hb dX0_told_56 rfl (lv_at hl 0 rfl) ?_
    refine x0_gf C hP 0 (by decide) (v := .ref (ad 0)) rfl rfl q11 dX0_told_57 ?_
    refine lv_iload_n hx hb dX0_told_60 rfl (lv_at hl 1 rfl) ?_
    refine x0_ld C hP (k := 0) (i := r) (Or.inl (by decide)) (show r < 8 by omega) rfl dX0_told_61 ?_
    exact g_iret C hrt hP hD hS dX0_told_62 ⟨by skip; rfl, by skip; rfl⟩
  · have hl : lv_has ls 3 [(0, .ref o), (1, .int (nI r)), (2, .int (nI 1))] := hl
    refine lv_iload_n hx hb dX0_told_0 rfl (lv_at hl 1 rfl) ?_
    refine lv_aload_n hx hb dX0_told_1 rfl (lv_at hl 0 rfl) ?_
    refine x0_gf C hP 9 (by decide) (v := .int (nI u.2.1)) rfl rfl q66 dX0_told_2 ?_
    refine g_cv (wr := []) (cells' := 0) (slots' := 0) rfl rfl C rd_nil hD hS (g_runS (wr := []) (n := 2) (As := [.int (nI r), .int (nI u.2.1)]) C (mX0_requireIndex l D t [(cI, .int)] (ra_w cI o ad u) H.size r u.2.1 (by omega) (by omega)) (rw_S q89 q90 q2 q91) kd_X0_requireIndex ⟨Nat.le_of_ble_eq_true rfl, Nat.le_of_ble_eq_true rfl⟩ C.2.2.2.2.2.1 hP hD hS hl.1 rfl rfl (Nat.le_of_ble_eq_true rfl) dX0_told_5 ⟨Nat.le_of_ble_eq_true rfl, Nat.le_of_ble_eq_true rfl⟩) (fun w' H locs hv _ _ hP hD hS => ?_)
    subst hv
    have hD : va_D A (ra_w cI o ad u) := hD
    refine lv_iload_n hx hb dX0_told_8 rfl (lv_at hl 2 rfl) ?_
    refine lv_bipush (v := 8) hx hb dX0_told_9 (by decide) ?_
    refine g_cv (wr := []) (cells' := 0) (slots' := 0) rfl rfl C rd_nil hD hS (g_runS (wr := []) (n := 2) (As := [.int (nI 1), .int 8]) C (mX0_requireIndex l D t [(cI, .int)] (ra_w cI o ad u) H.size 1 8 (by omega) (by omega)) (rw_S q89 q90 q2 q91) kd_X0_requireIndex ⟨Nat.le_of_ble_eq_true rfl, Nat.le_of_ble_eq_true rfl⟩ C.2.2.2.2.2.1 hP hD hS hl.1 rfl rfl (Nat.le_of_ble_eq_true rfl) dX0_told_11 ⟨Nat.le_of_ble_eq_true rfl, Nat.le_of_ble_eq_true rfl⟩) (fun w' H locs hv _ _ hP hD hS => ?_)
    subst hv
    have hD : va_D A (ra_w cI o ad u) := hD
    refine lv_iload_n hx hb dX0_told_14 rfl (lv_at hl 2 rfl) ?_
    refine lv_tableIn (off := 48) (tgt := 63) hx hb dX0_told_15 (by decide) (by decide) rfl (by decide) ?_
    refine lv_aload_n hx hb dX0_told_63 rfl (lv_at hl 0 rfl) ?_
    refine x0_gf C hP 1 (by decide) (v := .ref (ad 1)) rfl rfl q12 dX0_told_64 ?_
    refine lv_iload_n hx hb dX0_told_67 rfl (lv_at hl 1 rfl) ?_
    refine x0_ld C hP (k := 1) (i := r) (Or.inl (by decide)) (show r < 8 by omega) rfl dX0_told_68 ?_
    exact g_iret C hrt hP hD hS dX0_told_69 ⟨by skip; rfl, by skip; rfl⟩
  · have hl : lv_has ls 3 [(0, .ref o), (1, .int (nI r)), (2, .int (nI 2))] := hl
    refine lv_iload_n hx hb dX0_told_0 rfl (lv_at hl 1 rfl) ?_
    refine lv_aload_n hx hb dX0_told_1 rfl (lv_at hl 0 rfl) ?_
    refine x0_gf C hP 9 (by decide) (v := .int (nI u.2.1)) rfl rfl q66 dX0_told_2 ?_
    refine g_cv (wr := []) (cells' := 0) (slots' := 0) rfl rfl C rd_nil hD hS (g_runS (wr := []) (n := 2) (As := [.int (nI r), .int (nI u.2.1)]) C (mX0_requireIndex l D t [(cI, .int)] (ra_w cI o ad u) H.size r u.2.1 (by omega) (by omega)) (rw_S q89 q90 q2 q91) kd_X0_requireIndex ⟨Nat.le_of_ble_eq_true rfl, Nat.le_of_ble_eq_true rfl⟩ C.2.2.2.2.2.1 hP hD hS hl.1 rfl rfl (Nat.le_of_ble_eq_true rfl) dX0_told_5 ⟨Nat.le_of_ble_eq_true rfl, Nat.le_of_ble_eq_true rfl⟩) (fun w' H locs hv _ _ hP hD hS => ?_)
    subst hv
    have hD : va_D A (ra_w cI o ad u) := hD
    refine lv_iload_n hx hb dX0_told_8 rfl (lv_at hl 2 rfl) ?_
    refine lv_bipush (v := 8) hx hb dX0_told_9 (by decide) ?_
    refine g_cv (wr := []) (cells' := 0) (slots' := 0) rfl rfl C rd_nil hD hS (g_runS (wr := []) (n := 2) (As := [.int (nI 2), .int 8]) C (mX0_requireIndex l D t [(cI, .int)] (ra_w cI o ad u) H.size 2 8 (by omega) (by omega)) (rw_S q89 q90 q2 q91) kd_X0_requireIndex ⟨Nat.le_of_ble_eq_true rfl, Nat.le_of_ble_eq_true rfl⟩ C.2.2.2.2.2.1 hP hD hS hl.1 rfl rfl (Nat.le_of_ble_eq_true rfl) dX0_told_11 ⟨Nat.le_of_ble_eq_true rfl, Nat.le_of_ble_eq_true rfl⟩) (fun w' H locs hv _ _ hP hD hS => ?_)
    subst hv
    have hD : va_D A (ra_w cI o ad u) := hD
    refine lv_iload_n hx hb dX0_told_14 rfl (lv_at hl 2 rfl) ?_
    refine lv_tableIn (off := 55) (tgt := 70) hx hb dX0_told_15 (by decide) (by decide) rfl (by decide) ?_
    refine lv_aload_n hx hb dX0_told_70 rfl (lv_at hl 0 rfl) ?_
    refine x0_gf C hP 2 (by decide) (v := .ref (ad 2)) rfl rfl q13 dX0_told_71 ?_
    refine lv_iload_n hx hb dX0_told_74 rfl (lv_at hl 1 rfl) ?_
    refine x0_ld C hP (k := 2) (i := r) (Or.inl (by decide)) (show r < 8 by omega) rfl dX0_told_75 ?_
    exact g_iret C hrt hP hD hS dX0_told_76 ⟨by skip; rfl, by skip; rfl⟩
  · have hl : lv_has ls 3 [(0, .ref o), (1, .int (nI r)), (2, .int (nI 3))] := hl
    refine lv_iload_n hx hb dX0_told_0 rfl (lv_at hl 1 rfl) ?_
    refine lv_aload_n hx hb dX0_told_1 rfl (lv_at hl 0 rfl) ?_
    refine x0_gf C hP 9 (by decide) (v := .int (nI u.2.1)) rfl rfl q66 dX0_told_2 ?_
    refine g_cv (wr := []) (cells' := 0) (slots' := 0) rfl rfl C rd_nil hD hS (g_runS (wr := []) (n := 2) (As := [.int (nI r), .int (nI u.2.1)]) C (mX0_requireIndex l D t [(cI, .int)] (ra_w cI o ad u) H.size r u.2.1 (by omega) (by omega)) (rw_S q89 q90 q2 q91) kd_X0_requireIndex ⟨Nat.le_of_ble_eq_true rfl, Nat.le_of_ble_eq_true rfl⟩ C.2.2.2.2.2.1 hP hD hS hl.1 rfl rfl (Nat.le_of_ble_eq_true rfl) dX0_told_5 ⟨Nat.le_of_ble_eq_true rfl, Nat.le_of_ble_eq_true rfl⟩) (fun w' H locs hv _ _ hP hD hS => ?_)
    subst hv
    have hD : va_D A (ra_w cI o ad u) := hD
    refine lv_iload_n hx hb dX0_told_8 rfl (lv_at hl 2 rfl) ?_
    refine lv_bipush (v := 8) hx hb dX0_told_9 (by decide) ?_
    refine g_cv (wr := []) (cells' := 0) (slots' := 0) rfl rfl C rd_nil hD hS (g_runS (wr := []) (n := 2) (As := [.int (nI 3), .int 8]) C (mX0_requireIndex l D t [(cI, .int)] (ra_w cI o ad u) H.size 3 8 (by omega) (by omega)) (rw_S q89 q90 q2 q91) kd_X0_requireIndex ⟨Nat.le_of_ble_eq_true rfl, Nat.le_of_ble_eq_true rfl⟩ C.2.2.2.2.2.1 hP hD hS hl.1 rfl rfl (Nat.le_of_ble_eq_true rfl) dX0_told_11 ⟨Nat.le_of_ble_eq_true rfl, Nat.le_of_ble_eq_true rfl⟩) (fun w' H locs hv _ _ hP hD hS => ?_)
    subst hv
    have hD : va_D A (ra_w cI o ad u) := hD
    refine lv_iload_n hx hb dX0_told_14 rfl (lv_at hl 2 rfl) ?_
    refine lv_tableIn (off := 62) (tgt := 77) hx hb dX0_told_15 (by decide) (by decide) rfl (by decide) ?_
    refine lv_aload_n hx hb dX0_told_77 rfl (lv_at hl 0 rfl) ?_
    refine x0_gf C hP 3 (by decide) (v := .ref (ad 3)) rfl rfl q14 dX0_told_78 ?_
    refine lv_iload_n hx hb dX0_told_81 rfl (lv_at hl 1 rfl) ?_
    refine x0_ld C hP (k := 3) (i := r) (Or.inl (by decide)) (show r < 8 by omega) rfl dX0_told_82 ?_
    exact g_iret C hrt hP hD hS dX0_told_83 ⟨by skip; rfl, by skip; rfl⟩
  · have hl : lv_has ls 3 [(0, .ref o), (1, .int (nI r)), (2, .int (nI 4))] := hl
    refine lv_iload_n hx hb dX0_told_0 rfl (lv_at hl 1 rfl) ?_
    refine lv_aload_n hx hb dX0_told_1 rfl (lv_at hl 0 rfl) ?_
    refine x0_gf C hP 9 (by decide) (v := .int (nI u.2.1)) rfl rfl q66 dX0_told_2 ?_
    refine g_cv (wr := []) (cells' := 0) (slots' := 0) rfl rfl C rd_nil hD hS (g_runS (wr := []) (n := 2) (As := [.int (nI r), .int (nI u.2.1)]) C (mX0_requireIndex l D t [(cI, .int)] (ra_w cI o ad u) H.size r u.2.1 (by omega) (by omega)) (rw_S q89 q90 q2 q91) kd_X0_requireIndex ⟨Nat.le_of_ble_eq_true rfl, Nat.le_of_ble_eq_true rfl⟩ C.2.2.2.2.2.1 hP hD hS hl.1 rfl rfl (Nat.le_of_ble_eq_true rfl) dX0_told_5 ⟨Nat.le_of_ble_eq_true rfl, Nat.le_of_ble_eq_true rfl⟩) (fun w' H locs hv _ _ hP hD hS => ?_)
    subst hv
    have hD : va_D A (ra_w cI o ad u) := hD
    refine lv_iload_n hx hb dX0_told_8 rfl (lv_at hl 2 rfl) ?_
    refine lv_bipush (v := 8) hx hb dX0_told_9 (by decide) ?_
    refine g_cv (wr := []) (cells' := 0) (slots' := 0) rfl rfl C rd_nil hD hS (g_runS (wr := []) (n := 2) (As := [.int (nI 4), .int 8]) C (mX0_requireIndex l D t [(cI, .int)] (ra_w cI o ad u) H.size 4 8 (by omega) (by omega)) (rw_S q89 q90 q2 q91) kd_X0_requireIndex ⟨Nat.le_of_ble_eq_true rfl, Nat.le_of_ble_eq_true rfl⟩ C.2.2.2.2.2.1 hP hD hS hl.1 rfl rfl (Nat.le_of_ble_eq_true rfl) dX0_told_11 ⟨Nat.le_of_ble_eq_true rfl, Nat.le_of_ble_eq_true rfl⟩) (fun w' H locs hv _ _ hP hD hS => ?_)
    subst hv
    have hD : va_D A (ra_w cI o ad u) := hD
    refine lv_iload_n hx hb dX0_told_14 rfl (lv_at hl 2 rfl) ?_
    refine lv_tableIn (off := 69) (tgt := 84) hx hb dX0_told_15 (by decide) (by decide) rfl (by decide) ?_
    refine lv_aload_n hx hb dX0_told_84 rfl (lv_at hl 0 rfl) ?_
    refine x0_gf C hP 4 (by decide) (v := .ref (ad 4)) rfl rfl q15 dX0_told_85 ?_
    refine lv_iload_n hx hb dX0_told_88 rfl (lv_at hl 1 rfl) ?_
    refine x0_ld C hP (k := 4) (i := r) (Or.inl (by decide)) (show r < 8 by omega) rfl dX0_told_89 ?_
    exact g_iret C hrt hP hD hS dX0_told_90 ⟨by skip; rfl, by skip; rfl⟩
  · have hl : lv_has ls 3 [(0, .ref o), (1, .int (nI r)), (2, .int (nI 5))] := hl
    refine lv_iload_n hx hb dX0_told_0 rfl (lv_at hl 1 rfl) ?_
    refine lv_aload_n hx hb dX0_told_1 rfl (lv_at hl 0 rfl) ?_
    refine x0_gf C hP 9 (by decide) (v := .int (nI u.2.1)) rfl rfl q66 dX0_told_2 ?_
    refine g_cv (wr := []) (cells' := 0) (slots' := 0) rfl rfl C rd_nil hD hS (g_runS (wr := []) (n := 2) (As := [.int (nI r), .int (nI u.2.1)]) C (mX0_requireIndex l D t [(cI, .int)] (ra_w cI o ad u) H.size r u.2.1 (by omega) (by omega)) (rw_S q89 q90 q2 q91) kd_X0_requireIndex ⟨Nat.le_of_ble_eq_true rfl, Nat.le_of_ble_eq_true rfl⟩ C.2.2.2.2.2.1 hP hD hS hl.1 rfl rfl (Nat.le_of_ble_eq_true rfl) dX0_told_5 ⟨Nat.le_of_ble_eq_true rfl, Nat.le_of_ble_eq_true rfl⟩) (fun w' H locs hv _ _ hP hD hS => ?_)
    subst hv
    have hD : va_D A (ra_w cI o ad u) := hD
    refine lv_iload_n hx hb dX0_told_8 rfl (lv_at hl 2 rfl) ?_
    refine lv_bipush (v := 8) hx hb dX0_told_9 (by decide) ?_
    refine g_cv (wr := []) (cells' := 0) (slots' := 0) rfl rfl C rd_nil hD hS (g_runS (wr := []) (n := 2) (As := [.int (nI 5), .int 8]) C (mX0_requireIndex l D t [(cI, .int)] (ra_w cI o ad u) H.size 5 8 (by omega) (by omega)) (rw_S q89 q90 q2 q91) kd_X0_requireIndex ⟨Nat.le_of_ble_eq_true rfl, Nat.le_of_ble_eq_true rfl⟩ C.2.2.2.2.2.1 hP hD hS hl.1 rfl rfl (Nat.le_of_ble_eq_true rfl) dX0_told_11 ⟨Nat.le_of_ble_eq_true rfl, Nat.le_of_ble_eq_true rfl⟩) (fun w' H locs hv _ _ hP hD hS => ?_)
    subst hv
    have hD : va_D A (ra_w cI o ad u) := hD
    refine lv_iload_n hx hb dX0_told_14 rfl (lv_at hl 2 rfl) ?_
    refine lv_tableIn (off := 76) (tgt := 91) hx hb dX0_told_15 (by decide) (by decide) rfl (by decide) ?_
    refine lv_aload_n hx hb dX0_told_91 rfl (lv_at hl 0 rfl) ?_
    refine x0_gf C hP 5 (by decide) (v := .ref (ad 5)) rfl rfl q16 dX0_told_92 ?_
    refine lv_iload_n hx hb dX0_told_95 rfl (lv_at hl 1 rfl) ?_
    refine x0_ld C hP (k := 5) (i := r) (Or.inl (by decide)) (show r < 8 by omega) rfl dX0_told_96 ?_
    exact g_iret C hrt hP hD hS dX0_told_97 ⟨by skip; rfl, by skip; rfl⟩
  · have hl : lv_has ls 3 [(0, .ref o), (1, .int (nI r)), (2, .int (nI 6))] := hl
    refine lv_iload_n hx hb dX0_told_0 rfl (lv_at hl 1 rfl) ?_
    refine lv_aload_n hx hb dX0_told_1 rfl (lv_at hl 0 rfl) ?_
    refine x0_gf C hP 9 (by decide) (v := .int (nI u.2.1)) rfl rfl q66 dX0_told_2 ?_
    refine g_cv (wr := []) (cells' := 0) (slots' := 0) rfl rfl C rd_nil hD hS (g_runS (wr := []) (n := 2) (As := [.int (nI r), .int (nI u.2.1)]) C (mX0_requireIndex l D t [(cI, .int)] (ra_w cI o ad u) H.size r u.2.1 (by omega) (by omega)) (rw_S q89 q90 q2 q91) kd_X0_requireIndex ⟨Nat.le_of_ble_eq_true rfl, Nat.le_of_ble_eq_true rfl⟩ C.2.2.2.2.2.1 hP hD hS hl.1 rfl rfl (Nat.le_of_ble_eq_true rfl) dX0_told_5 ⟨Nat.le_of_ble_eq_true rfl, Nat.le_of_ble_eq_true rfl⟩) (fun w' H locs hv _ _ hP hD hS => ?_)
    subst hv
    have hD : va_D A (ra_w cI o ad u) := hD
    refine lv_iload_n hx hb dX0_told_8 rfl (lv_at hl 2 rfl) ?_
    refine lv_bipush (v := 8) hx hb dX0_told_9 (by decide) ?_
    refine g_cv (wr := []) (cells' := 0) (slots' := 0) rfl rfl C rd_nil hD hS (g_runS (wr := []) (n := 2) (As := [.int (nI 6), .int 8]) C (mX0_requireIndex l D t [(cI, .int)] (ra_w cI o ad u) H.size 6 8 (by omega) (by omega)) (rw_S q89 q90 q2 q91) kd_X0_requireIndex ⟨Nat.le_of_ble_eq_true rfl, Nat.le_of_ble_eq_true rfl⟩ C.2.2.2.2.2.1 hP hD hS hl.1 rfl rfl (Nat.le_of_ble_eq_true rfl) dX0_told_11 ⟨Nat.le_of_ble_eq_true rfl, Nat.le_of_ble_eq_true rfl⟩) (fun w' H locs hv _ _ hP hD hS => ?_)
    subst hv
    have hD : va_D A (ra_w cI o ad u) := hD
    refine lv_iload_n hx hb dX0_told_14 rfl (lv_at hl 2 rfl) ?_
    refine lv_tableIn (off := 83) (tgt := 98) hx hb dX0_told_15 (by decide) (by decide) rfl (by decide) ?_
    refine lv_aload_n hx hb dX0_told_98 rfl (lv_at hl 0 rfl) ?_
    refine x0_gf C hP 6 (by decide) (v := .ref (ad 6)) rfl rfl q17 dX0_told_99 ?_
    refine lv_iload_n hx hb dX0_told_102 rfl (lv_at hl 1 rfl) ?_
    refine x0_ld C hP (k := 6) (i := r) (Or.inl (by decide)) (show r < 8 by omega) rfl dX0_told_103 ?_
    exact g_iret C hrt hP hD hS dX0_told_104 ⟨by skip; rfl, by skip; rfl⟩
  · have hl : lv_has ls 3 [(0, .ref o), (1, .int (nI r)), (2, .int (nI 7))] := hl
    refine lv_iload_n hx hb dX0_told_0 rfl (lv_at hl 1 rfl) ?_
    refine lv_aload_n hx hb dX0_told_1 rfl (lv_at hl 0 rfl) ?_
    refine x0_gf C hP 9 (by decide) (v := .int (nI u.2.1)) rfl rfl q66 dX0_told_2 ?_
    refine g_cv (wr := []) (cells' := 0) (slots' := 0) rfl rfl C rd_nil hD hS (g_runS (wr := []) (n := 2) (As := [.int (nI r), .int (nI u.2.1)]) C (mX0_requireIndex l D t [(cI, .int)] (ra_w cI o ad u) H.size r u.2.1 (by omega) (by omega)) (rw_S q89 q90 q2 q91) kd_X0_requireIndex ⟨Nat.le_of_ble_eq_true rfl, Nat.le_of_ble_eq_true rfl⟩ C.2.2.2.2.2.1 hP hD hS hl.1 rfl rfl (Nat.le_of_ble_eq_true rfl) dX0_told_5 ⟨Nat.le_of_ble_eq_true rfl, Nat.le_of_ble_eq_true rfl⟩) (fun w' H locs hv _ _ hP hD hS => ?_)
    subst hv
    have hD : va_D A (ra_w cI o ad u) := hD
    refine lv_iload_n hx hb dX0_told_8 rfl (lv_at hl 2 rfl) ?_
    refine lv_bipush (v := 8) hx hb dX0_told_9 (by decide) ?_
    refine g_cv (wr := []) (cells' := 0) (slots' := 0) rfl rfl C rd_nil hD hS (g_runS (wr := []) (n := 2) (As := [.int (nI 7), .int 8]) C (mX0_requireIndex l D t [(cI, .int)] (ra_w cI o ad u) H.size 7 8 (by omega) (by omega)) (rw_S q89 q90 q2 q91) kd_X0_requireIndex ⟨Nat.le_of_ble_eq_true rfl, Nat.le_of_ble_eq_true rfl⟩ C.2.2.2.2.2.1 hP hD hS hl.1 rfl rfl (Nat.le_of_ble_eq_true rfl) dX0_told_11 ⟨Nat.le_of_ble_eq_true rfl, Nat.le_of_ble_eq_true rfl⟩) (fun w' H locs hv _ _ hP hD hS => ?_)
    subst hv
    have hD : va_D A (ra_w cI o ad u) := hD
    refine lv_iload_n hx hb dX0_told_14 rfl (lv_at hl 2 rfl) ?_
    refine lv_tableOut (tgt := 105) hx hb dX0_told_15 (by decide) (by decide) ?_
    refine lv_aload_n hx hb dX0_told_105 rfl (lv_at hl 0 rfl) ?_
    refine lv_iload_n hx hb dX0_told_106 rfl (lv_at hl 1 rfl) ?_
    refine g_ci (wr := []) (cells' := 0) (slots' := 0) rfl rfl C rd_nil hD hS (g_runV (wr := []) (n := 1) C (mX0_hoursThatCount l D t cI o ad H.size u r (show r < 8 by omega)) (rw_V q139 q140 q141 q2 q142) kd_X0_hoursThatCount ⟨Nat.le_of_ble_eq_true rfl, Nat.le_of_ble_eq_true rfl⟩ (ci := 0) rfl rfl rfl C.2.2.2.2.2.1 hP hD hS hl.1 rfl rfl (Nat.le_of_ble_eq_true rfl) dX0_told_107 ⟨Nat.le_of_ble_eq_true rfl, Nat.le_of_ble_eq_true rfl⟩) (fun v w' H locs hv _ _ hP hD hS => ?_)
    obtain ⟨rfl, rfl⟩ := hv
    have hD : va_D A (ra_w cI o ad u) := hD
    exact g_iret C hrt hP hD hS dX0_told_110 ⟨by skip; rfl, by skip; rfl⟩
theorem kd_X0_wage : yX0_wage.cls = yX0_wage.cls ∧ yX0_wage.cls ≠ "java/lang/invoke/MethodHandle" ∧ yX0_wage.cls ≠ "java/lang/invoke/VarHandle" ∧ (parseMethodDescriptor yX0_wage.desc).map (fun d => d.parameters.length) = some 2 := by decide +kernel
set_option maxHeartbeats 4000000 in
set_option maxRecDepth 100000 in
theorem mX0_wage (l : Launch) (D : va_G) (t : Nat → Nat) (cI : ClassId) (o : Nat) (ad : Nat → Nat) (sz : Nat) (u : S0) (hh : u.2.1 ≤ 8) (r : Nat) (hr : r < u.2.1) (k : Nat) (hk6 : k < 6) : gMi l yX0_wage (rw_ yX0_wage cX0_wage 3 (some .int)) (rm_ 6 0 0 132) [.ref o, .int (nI r), .int (nI k)] D [(cI, .int)] t (ra_w cI o ad u) sz (fun v w' => v = rf_wage u r k ∧ w' = ra_w cI o ad u) := by
  refine g_of (cc := cX0_wage) (nL := 3) (rt := (some .int)) (Q := fun A => va_Qi _ (fun w' U => gQ D A w' U) A) (by decide) (Nat.le_of_ble_eq_true rfl) (fun p e s m args below meth c A ls H C hrt hnm hS hP hD hl => ?_)
  have hx := C.1
  have hb := C.2.1
  have hown := C.2.2.2.1
  have hts := C.2.2.2.2.1
  have hl : lv_has ls 3 [(0, .ref o), (1, .int (nI r)), (2, .int (nI k))] := hl
  have hk9 : k = 0 ∨ k = 1 ∨ k = 2 ∨ k = 3 ∨ k = 4 ∨ k = 5 := by omega
  rcases hk9 with rfl | rfl | rfl | rfl | rfl | rfl
  · have hl : lv_has ls 3 [(0, .ref o), (1, .int (nI r)), (2, .int (nI 0))] := hl
    refine lv_iload_n hx hb dX0_wage_0 rfl (lv_at hl 1 rfl) ?_
    refine lv_aload_n hx hb dX0_wage_1 rfl (lv_at hl 0 rfl) ?_
    refine x0_gf C hP 9 (by decide) (v := .int (nI u.2.1)) rfl rfl q66 dX0_wage_2 ?_
    refine g_cv (wr := []) (cells' := 0) (slots' := 0) rfl rfl C rd_nil hD hS (g_runS (wr := []) (n := 2) (As := [.int (nI r), .int (nI u.2.1)]) C (mX0_requireIndex l D t [(cI, .int)] (ra_w cI o ad u) H.size r u.2.1 (by omega) (by omega)) (rw_S q89 q90 q2 q91) kd_X0_requireIndex ⟨Nat.le_of_ble_eq_true rfl, Nat.le_of_ble_eq_true rfl⟩ C.2.2.2.2.2.1 hP hD hS hl.1 rfl rfl (Nat.le_of_ble_eq_true rfl) dX0_wage_5 ⟨Nat.le_of_ble_eq_true rfl, Nat.le_of_ble_eq_true rfl⟩) (fun w' H locs hv _ _ hP hD hS => ?_)
    subst hv
    have hD : va_D A (ra_w cI o ad u) := hD
    refine lv_iload_n hx hb dX0_wage_8 rfl (lv_at hl 2 rfl) ?_
    refine lv_bipush (v := 6) hx hb dX0_wage_9 (by decide) ?_
    refine g_cv (wr := []) (cells' := 0) (slots' := 0) rfl rfl C rd_nil hD hS (g_runS (wr := []) (n := 2) (As := [.int (nI 0), .int 6]) C (mX0_requireIndex l D t [(cI, .int)] (ra_w cI o ad u) H.size 0 6 (by omega) (by omega)) (rw_S q89 q90 q2 q91) kd_X0_requireIndex ⟨Nat.le_of_ble_eq_true rfl, Nat.le_of_ble_eq_true rfl⟩ C.2.2.2.2.2.1 hP hD hS hl.1 rfl rfl (Nat.le_of_ble_eq_true rfl) dX0_wage_11 ⟨Nat.le_of_ble_eq_true rfl, Nat.le_of_ble_eq_true rfl⟩) (fun w' H locs hv _ _ hP hD hS => ?_)
    subst hv
    have hD : va_D A (ra_w cI o ad u) := hD
    refine lv_iload_n hx hb dX0_wage_14 rfl (lv_at hl 2 rfl) ?_
    refine lv_tableIn (off := 33) (tgt := 48) hx hb dX0_wage_15 (by decide) (by decide) rfl (by decide) ?_
    refine lv_aload_n hx hb dX0_wage_48 rfl (lv_at hl 0 rfl) ?_
    refine lv_iload_n hx hb dX0_wage_49 rfl (lv_at hl 1 rfl) ?_
    refine lv_aload_n hx hb dX0_wage_50 rfl (lv_at hl 0 rfl) ?_
    refine x0_gf C hP 7 (by decide) (v := .ref (ad 7)) rfl rfl q18 dX0_wage_51 ?_
    refine g_ci (wr := []) (cells' := 0) (slots' := 0) rfl rfl C rd_nil hD hS (g_runV (wr := []) (n := 2) C (mX0_wageByPieces l D t cI o ad H.size u 7 (Or.inl rfl) r (show r < 8 by omega)) (rw_V q127 q128 q129 q2 q130) kd_X0_wageByPieces ⟨Nat.le_of_ble_eq_true rfl, Nat.le_of_ble_eq_true rfl⟩ (ci := 0) rfl rfl rfl C.2.2.2.2.2.1 hP hD hS hl.1 rfl rfl (Nat.le_of_ble_eq_true rfl) dX0_wage_54 ⟨Nat.le_of_ble_eq_true rfl, Nat.le_of_ble_eq_true rfl⟩) (fun v w' H locs hv _ _ hP hD hS => ?_)
    obtain ⟨rfl, rfl⟩ := hv
    have hD : va_D A (ra_w cI o ad u) := hD
    exact g_iret C hrt hP hD hS dX0_wage_57 ⟨by skip; rfl, by skip; rfl⟩
  · have hl : lv_has ls 3 [(0, .ref o), (1, .int (nI r)), (2, .int (nI 1))] := hl
    refine lv_iload_n hx hb dX0_wage_0 rfl (lv_at hl 1 rfl) ?_
    refine lv_aload_n hx hb dX0_wage_1 rfl (lv_at hl 0 rfl) ?_
    refine x0_gf C hP 9 (by decide) (v := .int (nI u.2.1)) rfl rfl q66 dX0_wage_2 ?_
    refine g_cv (wr := []) (cells' := 0) (slots' := 0) rfl rfl C rd_nil hD hS (g_runS (wr := []) (n := 2) (As := [.int (nI r), .int (nI u.2.1)]) C (mX0_requireIndex l D t [(cI, .int)] (ra_w cI o ad u) H.size r u.2.1 (by omega) (by omega)) (rw_S q89 q90 q2 q91) kd_X0_requireIndex ⟨Nat.le_of_ble_eq_true rfl, Nat.le_of_ble_eq_true rfl⟩ C.2.2.2.2.2.1 hP hD hS hl.1 rfl rfl (Nat.le_of_ble_eq_true rfl) dX0_wage_5 ⟨Nat.le_of_ble_eq_true rfl, Nat.le_of_ble_eq_true rfl⟩) (fun w' H locs hv _ _ hP hD hS => ?_)
    subst hv
    have hD : va_D A (ra_w cI o ad u) := hD
    refine lv_iload_n hx hb dX0_wage_8 rfl (lv_at hl 2 rfl) ?_
    refine lv_bipush (v := 6) hx hb dX0_wage_9 (by decide) ?_
    refine g_cv (wr := []) (cells' := 0) (slots' := 0) rfl rfl C rd_nil hD hS (g_runS (wr := []) (n := 2) (As := [.int (nI 1), .int 6]) C (mX0_requireIndex l D t [(cI, .int)] (ra_w cI o ad u) H.size 1 6 (by omega) (by omega)) (rw_S q89 q90 q2 q91) kd_X0_requireIndex ⟨Nat.le_of_ble_eq_true rfl, Nat.le_of_ble_eq_true rfl⟩ C.2.2.2.2.2.1 hP hD hS hl.1 rfl rfl (Nat.le_of_ble_eq_true rfl) dX0_wage_11 ⟨Nat.le_of_ble_eq_true rfl, Nat.le_of_ble_eq_true rfl⟩) (fun w' H locs hv _ _ hP hD hS => ?_)
    subst hv
    have hD : va_D A (ra_w cI o ad u) := hD
    refine lv_iload_n hx hb dX0_wage_14 rfl (lv_at hl 2 rfl) ?_
    refine lv_tableIn (off := 43) (tgt := 58) hx hb dX0_wage_15 (by decide) (by decide) rfl (by decide) ?_
    refine lv_aload_n hx hb dX0_wage_58 rfl (lv_at hl 0 rfl) ?_
    refine lv_iload_n hx hb dX0_wage_59 rfl (lv_at hl 1 rfl) ?_
    refine lv_aload_n hx hb dX0_wage_60 rfl (lv_at hl 0 rfl) ?_
    refine x0_gf C hP 7 (by decide) (v := .ref (ad 7)) rfl rfl q18 dX0_wage_61 ?_
    refine g_ci (wr := []) (cells' := 0) (slots' := 0) rfl rfl C rd_nil hD hS (g_runV (wr := []) (n := 2) C (mX0_wageByHours l D t cI o ad H.size u 7 (Or.inl rfl) r (show r < 8 by omega)) (rw_V q135 q136 q137 q2 q138) kd_X0_wageByHours ⟨Nat.le_of_ble_eq_true rfl, Nat.le_of_ble_eq_true rfl⟩ (ci := 0) rfl rfl rfl C.2.2.2.2.2.1 hP hD hS hl.1 rfl rfl (Nat.le_of_ble_eq_true rfl) dX0_wage_64 ⟨Nat.le_of_ble_eq_true rfl, Nat.le_of_ble_eq_true rfl⟩) (fun v w' H locs hv _ _ hP hD hS => ?_)
    obtain ⟨rfl, rfl⟩ := hv
    have hD : va_D A (ra_w cI o ad u) := hD
    exact g_iret C hrt hP hD hS dX0_wage_67 ⟨by skip; rfl, by skip; rfl⟩
  · have hl : lv_has ls 3 [(0, .ref o), (1, .int (nI r)), (2, .int (nI 2))] := hl
    refine lv_iload_n hx hb dX0_wage_0 rfl (lv_at hl 1 rfl) ?_
    refine lv_aload_n hx hb dX0_wage_1 rfl (lv_at hl 0 rfl) ?_
    refine x0_gf C hP 9 (by decide) (v := .int (nI u.2.1)) rfl rfl q66 dX0_wage_2 ?_
    refine g_cv (wr := []) (cells' := 0) (slots' := 0) rfl rfl C rd_nil hD hS (g_runS (wr := []) (n := 2) (As := [.int (nI r), .int (nI u.2.1)]) C (mX0_requireIndex l D t [(cI, .int)] (ra_w cI o ad u) H.size r u.2.1 (by omega) (by omega)) (rw_S q89 q90 q2 q91) kd_X0_requireIndex ⟨Nat.le_of_ble_eq_true rfl, Nat.le_of_ble_eq_true rfl⟩ C.2.2.2.2.2.1 hP hD hS hl.1 rfl rfl (Nat.le_of_ble_eq_true rfl) dX0_wage_5 ⟨Nat.le_of_ble_eq_true rfl, Nat.le_of_ble_eq_true rfl⟩) (fun w' H locs hv _ _ hP hD hS => ?_)
    subst hv
    have hD : va_D A (ra_w cI o ad u) := hD
    refine lv_iload_n hx hb dX0_wage_8 rfl (lv_at hl 2 rfl) ?_
    refine lv_bipush (v := 6) hx hb dX0_wage_9 (by decide) ?_
    refine g_cv (wr := []) (cells' := 0) (slots' := 0) rfl rfl C rd_nil hD hS (g_runS (wr := []) (n := 2) (As := [.int (nI 2), .int 6]) C (mX0_requireIndex l D t [(cI, .int)] (ra_w cI o ad u) H.size 2 6 (by omega) (by omega)) (rw_S q89 q90 q2 q91) kd_X0_requireIndex ⟨Nat.le_of_ble_eq_true rfl, Nat.le_of_ble_eq_true rfl⟩ C.2.2.2.2.2.1 hP hD hS hl.1 rfl rfl (Nat.le_of_ble_eq_true rfl) dX0_wage_11 ⟨Nat.le_of_ble_eq_true rfl, Nat.le_of_ble_eq_true rfl⟩) (fun w' H locs hv _ _ hP hD hS => ?_)
    subst hv
    have hD : va_D A (ra_w cI o ad u) := hD
    refine lv_iload_n hx hb dX0_wage_14 rfl (lv_at hl 2 rfl) ?_
    refine lv_tableIn (off := 53) (tgt := 68) hx hb dX0_wage_15 (by decide) (by decide) rfl (by decide) ?_
    refine lv_aload_n hx hb dX0_wage_68 rfl (lv_at hl 0 rfl) ?_
    refine lv_iload_n hx hb dX0_wage_69 rfl (lv_at hl 1 rfl) ?_
    refine lv_aload_n hx hb dX0_wage_70 rfl (lv_at hl 0 rfl) ?_
    refine x0_gf C hP 7 (by decide) (v := .ref (ad 7)) rfl rfl q18 dX0_wage_71 ?_
    refine g_ci (wr := []) (cells' := 0) (slots' := 0) rfl rfl C rd_nil hD hS (g_runV (wr := []) (n := 2) C (mX0_weekWage l D t cI o ad H.size u 7 (Or.inl rfl) r (show r < 8 by omega)) (rw_V q119 q120 q121 q2 q122) kd_X0_weekWage ⟨Nat.le_of_ble_eq_true rfl, Nat.le_of_ble_eq_true rfl⟩ (ci := 0) rfl rfl rfl C.2.2.2.2.2.1 hP hD hS hl.1 rfl rfl (Nat.le_of_ble_eq_true rfl) dX0_wage_74 ⟨Nat.le_of_ble_eq_true rfl, Nat.le_of_ble_eq_true rfl⟩) (fun v w' H locs hv _ _ hP hD hS => ?_)
    obtain ⟨rfl, rfl⟩ := hv
    have hD : va_D A (ra_w cI o ad u) := hD
    exact g_iret C hrt hP hD hS dX0_wage_77 ⟨by skip; rfl, by skip; rfl⟩
  · have hl : lv_has ls 3 [(0, .ref o), (1, .int (nI r)), (2, .int (nI 3))] := hl
    refine lv_iload_n hx hb dX0_wage_0 rfl (lv_at hl 1 rfl) ?_
    refine lv_aload_n hx hb dX0_wage_1 rfl (lv_at hl 0 rfl) ?_
    refine x0_gf C hP 9 (by decide) (v := .int (nI u.2.1)) rfl rfl q66 dX0_wage_2 ?_
    refine g_cv (wr := []) (cells' := 0) (slots' := 0) rfl rfl C rd_nil hD hS (g_runS (wr := []) (n := 2) (As := [.int (nI r), .int (nI u.2.1)]) C (mX0_requireIndex l D t [(cI, .int)] (ra_w cI o ad u) H.size r u.2.1 (by omega) (by omega)) (rw_S q89 q90 q2 q91) kd_X0_requireIndex ⟨Nat.le_of_ble_eq_true rfl, Nat.le_of_ble_eq_true rfl⟩ C.2.2.2.2.2.1 hP hD hS hl.1 rfl rfl (Nat.le_of_ble_eq_true rfl) dX0_wage_5 ⟨Nat.le_of_ble_eq_true rfl, Nat.le_of_ble_eq_true rfl⟩) (fun w' H locs hv _ _ hP hD hS => ?_)
    subst hv
    have hD : va_D A (ra_w cI o ad u) := hD
    refine lv_iload_n hx hb dX0_wage_8 rfl (lv_at hl 2 rfl) ?_
    refine lv_bipush (v := 6) hx hb dX0_wage_9 (by decide) ?_
    refine g_cv (wr := []) (cells' := 0) (slots' := 0) rfl rfl C rd_nil hD hS (g_runS (wr := []) (n := 2) (As := [.int (nI 3), .int 6]) C (mX0_requireIndex l D t [(cI, .int)] (ra_w cI o ad u) H.size 3 6 (by omega) (by omega)) (rw_S q89 q90 q2 q91) kd_X0_requireIndex ⟨Nat.le_of_ble_eq_true rfl, Nat.le_of_ble_eq_true rfl⟩ C.2.2.2.2.2.1 hP hD hS hl.1 rfl rfl (Nat.le_of_ble_eq_true rfl) dX0_wage_11 ⟨Nat.le_of_ble_eq_true rfl, Nat.le_of_ble_eq_true rfl⟩) (fun w' H locs hv _ _ hP hD hS => ?_)
    subst hv
    have hD : va_D A (ra_w cI o ad u) := hD
    refine lv_iload_n hx hb dX0_wage_14 rfl (lv_at hl 2 rfl) ?_
    refine lv_tableIn (off := 63) (tgt := 78) hx hb dX0_wage_15 (by decide) (by decide) rfl (by decide) ?_
    refine lv_aload_n hx hb dX0_wage_78 rfl (lv_at hl 0 rfl) ?_
    refine lv_iload_n hx hb dX0_wage_79 rfl (lv_at hl 1 rfl) ?_
    refine g_ci (wr := []) (cells' := 0) (slots' := 0) rfl rfl C rd_nil hD hS (g_runV (wr := []) (n := 1) C (mX0_coming l D t cI o ad H.size u r (show r < 8 by omega)) (rw_V q115 q116 q117 q2 q118) kd_X0_coming ⟨Nat.le_of_ble_eq_true rfl, Nat.le_of_ble_eq_true rfl⟩ (ci := 0) rfl rfl rfl C.2.2.2.2.2.1 hP hD hS hl.1 rfl rfl (Nat.le_of_ble_eq_true rfl) dX0_wage_80 ⟨Nat.le_of_ble_eq_true rfl, Nat.le_of_ble_eq_true rfl⟩) (fun v w' H locs hv _ _ hP hD hS => ?_)
    obtain ⟨rfl, rfl⟩ := hv
    have hD : va_D A (ra_w cI o ad u) := hD
    exact g_iret C hrt hP hD hS dX0_wage_83 ⟨by skip; rfl, by skip; rfl⟩
  · have hl : lv_has ls 3 [(0, .ref o), (1, .int (nI r)), (2, .int (nI 4))] := hl
    refine lv_iload_n hx hb dX0_wage_0 rfl (lv_at hl 1 rfl) ?_
    refine lv_aload_n hx hb dX0_wage_1 rfl (lv_at hl 0 rfl) ?_
    refine x0_gf C hP 9 (by decide) (v := .int (nI u.2.1)) rfl rfl q66 dX0_wage_2 ?_
    refine g_cv (wr := []) (cells' := 0) (slots' := 0) rfl rfl C rd_nil hD hS (g_runS (wr := []) (n := 2) (As := [.int (nI r), .int (nI u.2.1)]) C (mX0_requireIndex l D t [(cI, .int)] (ra_w cI o ad u) H.size r u.2.1 (by omega) (by omega)) (rw_S q89 q90 q2 q91) kd_X0_requireIndex ⟨Nat.le_of_ble_eq_true rfl, Nat.le_of_ble_eq_true rfl⟩ C.2.2.2.2.2.1 hP hD hS hl.1 rfl rfl (Nat.le_of_ble_eq_true rfl) dX0_wage_5 ⟨Nat.le_of_ble_eq_true rfl, Nat.le_of_ble_eq_true rfl⟩) (fun w' H locs hv _ _ hP hD hS => ?_)
    subst hv
    have hD : va_D A (ra_w cI o ad u) := hD
    refine lv_iload_n hx hb dX0_wage_8 rfl (lv_at hl 2 rfl) ?_
    refine lv_bipush (v := 6) hx hb dX0_wage_9 (by decide) ?_
    refine g_cv (wr := []) (cells' := 0) (slots' := 0) rfl rfl C rd_nil hD hS (g_runS (wr := []) (n := 2) (As := [.int (nI 4), .int 6]) C (mX0_requireIndex l D t [(cI, .int)] (ra_w cI o ad u) H.size 4 6 (by omega) (by omega)) (rw_S q89 q90 q2 q91) kd_X0_requireIndex ⟨Nat.le_of_ble_eq_true rfl, Nat.le_of_ble_eq_true rfl⟩ C.2.2.2.2.2.1 hP hD hS hl.1 rfl rfl (Nat.le_of_ble_eq_true rfl) dX0_wage_11 ⟨Nat.le_of_ble_eq_true rfl, Nat.le_of_ble_eq_true rfl⟩) (fun w' H locs hv _ _ hP hD hS => ?_)
    subst hv
    have hD : va_D A (ra_w cI o ad u) := hD
    refine lv_iload_n hx hb dX0_wage_14 rfl (lv_at hl 2 rfl) ?_
    refine lv_tableIn (off := 69) (tgt := 84) hx hb dX0_wage_15 (by decide) (by decide) rfl (by decide) ?_
    refine lv_aload_n hx hb dX0_wage_84 rfl (lv_at hl 0 rfl) ?_
    refine lv_aload_n hx hb dX0_wage_85 rfl (lv_at hl 0 rfl) ?_
    refine x0_gf C hP 4 (by decide) (v := .ref (ad 4)) rfl rfl q15 dX0_wage_86 ?_
    refine lv_iload_n hx hb dX0_wage_89 rfl (lv_at hl 1 rfl) ?_
    refine x0_ld C hP (k := 4) (i := r) (Or.inl (by decide)) (show r < 8 by omega) rfl dX0_wage_90 ?_
    refine lv_aload_n hx hb dX0_wage_91 rfl (lv_at hl 0 rfl) ?_
    refine lv_iload_n hx hb dX0_wage_92 rfl (lv_at hl 1 rfl) ?_
    refine g_ci (wr := []) (cells' := 0) (slots' := 0) rfl rfl C rd_nil hD hS (g_runV (wr := []) (n := 1) C (mX0_coming l D t cI o ad H.size u r (show r < 8 by omega)) (rw_V q115 q116 q117 q2 q118) kd_X0_coming ⟨Nat.le_of_ble_eq_true rfl, Nat.le_of_ble_eq_true rfl⟩ (ci := 0) rfl rfl rfl C.2.2.2.2.2.1 hP hD hS hl.1 rfl rfl (Nat.le_of_ble_eq_true rfl) dX0_wage_93 ⟨Nat.le_of_ble_eq_true rfl, Nat.le_of_ble_eq_true rfl⟩) (fun v w' H locs hv _ _ hP hD hS => ?_)
    obtain ⟨rfl, rfl⟩ := hv
    have hD : va_D A (ra_w cI o ad u) := hD
    refine g_ci (wr := []) (cells' := 0) (slots' := 0) rfl rfl C rd_nil hD hS (g_runV (wr := []) (n := 2) C (mX0_takenBack l D t cI o ad H.size u (u.1 4 r) (rf_cm u r)) (rw_V q143 q144 q145 q2 q146) kd_X0_takenBack ⟨Nat.le_of_ble_eq_true rfl, Nat.le_of_ble_eq_true rfl⟩ (ci := 0) rfl rfl rfl C.2.2.2.2.2.1 hP hD hS hl.1 rfl rfl (Nat.le_of_ble_eq_true rfl) dX0_wage_96 ⟨Nat.le_of_ble_eq_true rfl, Nat.le_of_ble_eq_true rfl⟩) (fun v w' H locs hv _ _ hP hD hS => ?_)
    obtain ⟨rfl, rfl⟩ := hv
    have hD : va_D A (ra_w cI o ad u) := hD
    exact g_iret C hrt hP hD hS dX0_wage_99 ⟨by skip; rfl, by skip; rfl⟩
  · have hl : lv_has ls 3 [(0, .ref o), (1, .int (nI r)), (2, .int (nI 5))] := hl
    refine lv_iload_n hx hb dX0_wage_0 rfl (lv_at hl 1 rfl) ?_
    refine lv_aload_n hx hb dX0_wage_1 rfl (lv_at hl 0 rfl) ?_
    refine x0_gf C hP 9 (by decide) (v := .int (nI u.2.1)) rfl rfl q66 dX0_wage_2 ?_
    refine g_cv (wr := []) (cells' := 0) (slots' := 0) rfl rfl C rd_nil hD hS (g_runS (wr := []) (n := 2) (As := [.int (nI r), .int (nI u.2.1)]) C (mX0_requireIndex l D t [(cI, .int)] (ra_w cI o ad u) H.size r u.2.1 (by omega) (by omega)) (rw_S q89 q90 q2 q91) kd_X0_requireIndex ⟨Nat.le_of_ble_eq_true rfl, Nat.le_of_ble_eq_true rfl⟩ C.2.2.2.2.2.1 hP hD hS hl.1 rfl rfl (Nat.le_of_ble_eq_true rfl) dX0_wage_5 ⟨Nat.le_of_ble_eq_true rfl, Nat.le_of_ble_eq_true rfl⟩) (fun w' H locs hv _ _ hP hD hS => ?_)
    subst hv
    have hD : va_D A (ra_w cI o ad u) := hD
    refine lv_iload_n hx hb dX0_wage_8 rfl (lv_at hl 2 rfl) ?_
    refine lv_bipush (v := 6) hx hb dX0_wage_9 (by decide) ?_
    refine g_cv (wr := []) (cells' := 0) (slots' := 0) rfl rfl C rd_nil hD hS (g_runS (wr := []) (n := 2) (As := [.int (nI 5), .int 6]) C (mX0_requireIndex l D t [(cI, .int)] (ra_w cI o ad u) H.size 5 6 (by omega) (by omega)) (rw_S q89 q90 q2 q91) kd_X0_requireIndex ⟨Nat.le_of_ble_eq_true rfl, Nat.le_of_ble_eq_true rfl⟩ C.2.2.2.2.2.1 hP hD hS hl.1 rfl rfl (Nat.le_of_ble_eq_true rfl) dX0_wage_11 ⟨Nat.le_of_ble_eq_true rfl, Nat.le_of_ble_eq_true rfl⟩) (fun w' H locs hv _ _ hP hD hS => ?_)
    subst hv
    have hD : va_D A (ra_w cI o ad u) := hD
    refine lv_iload_n hx hb dX0_wage_14 rfl (lv_at hl 2 rfl) ?_
    refine lv_tableOut (tgt := 100) hx hb dX0_wage_15 (by decide) (by decide) ?_
    refine lv_aload_n hx hb dX0_wage_100 rfl (lv_at hl 0 rfl) ?_
    refine lv_iload_n hx hb dX0_wage_101 rfl (lv_at hl 1 rfl) ?_
    refine g_ci (wr := []) (cells' := 0) (slots' := 0) rfl rfl C rd_nil hD hS (g_runV (wr := []) (n := 1) C (mX0_restToPay l D t cI o ad H.size u r (show r < 8 by omega)) (rw_V q215 q216 q217 q2 q218) kd_X0_restToPay ⟨Nat.le_of_ble_eq_true rfl, Nat.le_of_ble_eq_true rfl⟩ (ci := 0) rfl rfl rfl C.2.2.2.2.2.1 hP hD hS hl.1 rfl rfl (Nat.le_of_ble_eq_true rfl) dX0_wage_102 ⟨Nat.le_of_ble_eq_true rfl, Nat.le_of_ble_eq_true rfl⟩) (fun v w' H locs hv _ _ hP hD hS => ?_)
    obtain ⟨rfl, rfl⟩ := hv
    have hD : va_D A (ra_w cI o ad u) := hD
    exact g_iret C hrt hP hD hS dX0_wage_105 ⟨by skip; rfl, by skip; rfl⟩
theorem kd_X0_count : yX0_count.cls = yX0_count.cls ∧ yX0_count.cls ≠ "java/lang/invoke/MethodHandle" ∧ yX0_count.cls ≠ "java/lang/invoke/VarHandle" ∧ (parseMethodDescriptor yX0_count.desc).map (fun d => d.parameters.length) = some 1 := by decide +kernel
set_option maxHeartbeats 4000000 in
set_option maxRecDepth 100000 in
theorem mX0_count (l : Launch) (D : va_G) (t : Nat → Nat) (cI : ClassId) (o : Nat) (ad : Nat → Nat) (sz : Nat) (u : S0) (hh : u.2.1 ≤ 8) (k : Nat) (hk7 : k < 7) : gMi l yX0_count (rw_ yX0_count cX0_count 2 (some .int)) (rm_ 5 0 0 112) [.ref o, .int (nI k)] D [(cI, .int)] t (ra_w cI o ad u) sz (fun v w' => v = rf_cnt u k ∧ w' = ra_w cI o ad u) := by
  refine g_of (cc := cX0_count) (nL := 2) (rt := (some .int)) (Q := fun A => va_Qi _ (fun w' U => gQ D A w' U) A) (by decide) (Nat.le_of_ble_eq_true rfl) (fun p e s m args below meth c A ls H C hrt hnm hS hP hD hl => ?_)
  have hx := C.1
  have hb := C.2.1
  have hown := C.2.2.2.1
  have hts := C.2.2.2.2.1
  have hl : lv_has ls 2 [(0, .ref o), (1, .int (nI k))] := hl
  have hk9 : k = 0 ∨ k = 1 ∨ k = 2 ∨ k = 3 ∨ k = 4 ∨ k = 5 ∨ k = 6 := by omega
  rcases hk9 with rfl | rfl | rfl | rfl | rfl | rfl | rfl
  · have hl : lv_has ls 2 [(0, .ref o), (1, .int (nI 0))] := hl
    refine lv_iload_n hx hb dX0_count_0 rfl (lv_at hl 1 rfl) ?_
    refine lv_bipush (v := 7) hx hb dX0_count_1 (by decide) ?_
    refine g_cv (wr := []) (cells' := 0) (slots' := 0) rfl rfl C rd_nil hD hS (g_runS (wr := []) (n := 2) (As := [.int (nI 0), .int 7]) C (mX0_requireIndex l D t [(cI, .int)] (ra_w cI o ad u) H.size 0 7 (by omega) (by omega)) (rw_S q89 q90 q2 q91) kd_X0_requireIndex ⟨Nat.le_of_ble_eq_true rfl, Nat.le_of_ble_eq_true rfl⟩ C.2.2.2.2.2.1 hP hD hS hl.1 rfl rfl (Nat.le_of_ble_eq_true rfl) dX0_count_3 ⟨Nat.le_of_ble_eq_true rfl, Nat.le_of_ble_eq_true rfl⟩) (fun w' H locs hv _ _ hP hD hS => ?_)
    subst hv
    have hD : va_D A (ra_w cI o ad u) := hD
    refine lv_iload_n hx hb dX0_count_6 rfl (lv_at hl 1 rfl) ?_
    refine lv_tableIn (off := 37) (tgt := 44) hx hb dX0_count_7 (by decide) (by decide) rfl (by decide) ?_
    refine lv_aload_n hx hb dX0_count_44 rfl (lv_at hl 0 rfl) ?_
    refine x0_gf C hP 10 (by decide) (v := .int u.2.2) rfl rfl q110 dX0_count_45 ?_
    exact g_iret C hrt hP hD hS dX0_count_48 ⟨by skip; rfl, by skip; rfl⟩
  · have hl : lv_has ls 2 [(0, .ref o), (1, .int (nI 1))] := hl
    refine lv_iload_n hx hb dX0_count_0 rfl (lv_at hl 1 rfl) ?_
    refine lv_bipush (v := 7) hx hb dX0_count_1 (by decide) ?_
    refine g_cv (wr := []) (cells' := 0) (slots' := 0) rfl rfl C rd_nil hD hS (g_runS (wr := []) (n := 2) (As := [.int (nI 1), .int 7]) C (mX0_requireIndex l D t [(cI, .int)] (ra_w cI o ad u) H.size 1 7 (by omega) (by omega)) (rw_S q89 q90 q2 q91) kd_X0_requireIndex ⟨Nat.le_of_ble_eq_true rfl, Nat.le_of_ble_eq_true rfl⟩ C.2.2.2.2.2.1 hP hD hS hl.1 rfl rfl (Nat.le_of_ble_eq_true rfl) dX0_count_3 ⟨Nat.le_of_ble_eq_true rfl, Nat.le_of_ble_eq_true rfl⟩) (fun w' H locs hv _ _ hP hD hS => ?_)
    subst hv
    have hD : va_D A (ra_w cI o ad u) := hD
    refine lv_iload_n hx hb dX0_count_6 rfl (lv_at hl 1 rfl) ?_
    refine lv_tableIn (off := 42) (tgt := 49) hx hb dX0_count_7 (by decide) (by decide) rfl (by decide) ?_
    refine lv_aload_n hx hb dX0_count_49 rfl (lv_at hl 0 rfl) ?_
    refine x0_gf C hP 9 (by decide) (v := .int (nI u.2.1)) rfl rfl q66 dX0_count_50 ?_
    exact g_iret C hrt hP hD hS dX0_count_53 ⟨by skip; rfl, by skip; rfl⟩
  · have hl : lv_has ls 2 [(0, .ref o), (1, .int (nI 2))] := hl
    refine lv_iload_n hx hb dX0_count_0 rfl (lv_at hl 1 rfl) ?_
    refine lv_bipush (v := 7) hx hb dX0_count_1 (by decide) ?_
    refine g_cv (wr := []) (cells' := 0) (slots' := 0) rfl rfl C rd_nil hD hS (g_runS (wr := []) (n := 2) (As := [.int (nI 2), .int 7]) C (mX0_requireIndex l D t [(cI, .int)] (ra_w cI o ad u) H.size 2 7 (by omega) (by omega)) (rw_S q89 q90 q2 q91) kd_X0_requireIndex ⟨Nat.le_of_ble_eq_true rfl, Nat.le_of_ble_eq_true rfl⟩ C.2.2.2.2.2.1 hP hD hS hl.1 rfl rfl (Nat.le_of_ble_eq_true rfl) dX0_count_3 ⟨Nat.le_of_ble_eq_true rfl, Nat.le_of_ble_eq_true rfl⟩) (fun w' H locs hv _ _ hP hD hS => ?_)
    subst hv
    have hD : va_D A (ra_w cI o ad u) := hD
    refine lv_iload_n hx hb dX0_count_6 rfl (lv_at hl 1 rfl) ?_
    refine lv_tableIn (off := 47) (tgt := 54) hx hb dX0_count_7 (by decide) (by decide) rfl (by decide) ?_
    refine lv_aload_n hx hb dX0_count_54 rfl (lv_at hl 0 rfl) ?_
    refine lv_aload_n hx hb dX0_count_55 rfl (lv_at hl 0 rfl) ?_
    refine x0_gf C hP 4 (by decide) (v := .ref (ad 4)) rfl rfl q15 dX0_count_56 ?_
    refine g_ci (wr := []) (cells' := 0) (slots' := 0) rfl rfl C rd_nil hD hS (g_runV (wr := []) (n := 1) C (mX0_sumOfHired l D t cI o ad H.size u 4 (by decide) hh) (rw_V q196 q197 q198 q2 q199) kd_X0_sumOfHired ⟨Nat.le_of_ble_eq_true rfl, Nat.le_of_ble_eq_true rfl⟩ (ci := 0) rfl rfl rfl C.2.2.2.2.2.1 hP hD hS hl.1 rfl rfl (Nat.le_of_ble_eq_true rfl) dX0_count_59 ⟨Nat.le_of_ble_eq_true rfl, Nat.le_of_ble_eq_true rfl⟩) (fun v w' H locs hv _ _ hP hD hS => ?_)
    obtain ⟨rfl, rfl⟩ := hv
    have hD : va_D A (ra_w cI o ad u) := hD
    exact g_iret C hrt hP hD hS dX0_count_62 ⟨by skip; rfl, by skip; rfl⟩
  · have hl : lv_has ls 2 [(0, .ref o), (1, .int (nI 3))] := hl
    refine lv_iload_n hx hb dX0_count_0 rfl (lv_at hl 1 rfl) ?_
    refine lv_bipush (v := 7) hx hb dX0_count_1 (by decide) ?_
    refine g_cv (wr := []) (cells' := 0) (slots' := 0) rfl rfl C rd_nil hD hS (g_runS (wr := []) (n := 2) (As := [.int (nI 3), .int 7]) C (mX0_requireIndex l D t [(cI, .int)] (ra_w cI o ad u) H.size 3 7 (by omega) (by omega)) (rw_S q89 q90 q2 q91) kd_X0_requireIndex ⟨Nat.le_of_ble_eq_true rfl, Nat.le_of_ble_eq_true rfl⟩ C.2.2.2.2.2.1 hP hD hS hl.1 rfl rfl (Nat.le_of_ble_eq_true rfl) dX0_count_3 ⟨Nat.le_of_ble_eq_true rfl, Nat.le_of_ble_eq_true rfl⟩) (fun w' H locs hv _ _ hP hD hS => ?_)
    subst hv
    have hD : va_D A (ra_w cI o ad u) := hD
    refine lv_iload_n hx hb dX0_count_6 rfl (lv_at hl 1 rfl) ?_
    refine lv_tableIn (off := 56) (tgt := 63) hx hb dX0_count_7 (by decide) (by decide) rfl (by decide) ?_
    refine lv_aload_n hx hb dX0_count_63 rfl (lv_at hl 0 rfl) ?_
    refine lv_aload_n hx hb dX0_count_64 rfl (lv_at hl 0 rfl) ?_
    refine x0_gf C hP 5 (by decide) (v := .ref (ad 5)) rfl rfl q16 dX0_count_65 ?_
    refine g_ci (wr := []) (cells' := 0) (slots' := 0) rfl rfl C rd_nil hD hS (g_runV (wr := []) (n := 1) C (mX0_sumOfHired l D t cI o ad H.size u 5 (by decide) hh) (rw_V q196 q197 q198 q2 q199) kd_X0_sumOfHired ⟨Nat.le_of_ble_eq_true rfl, Nat.le_of_ble_eq_true rfl⟩ (ci := 0) rfl rfl rfl C.2.2.2.2.2.1 hP hD hS hl.1 rfl rfl (Nat.le_of_ble_eq_true rfl) dX0_count_68 ⟨Nat.le_of_ble_eq_true rfl, Nat.le_of_ble_eq_true rfl⟩) (fun v w' H locs hv _ _ hP hD hS => ?_)
    obtain ⟨rfl, rfl⟩ := hv
    have hD : va_D A (ra_w cI o ad u) := hD
    exact g_iret C hrt hP hD hS dX0_count_71 ⟨by skip; rfl, by skip; rfl⟩
  · have hl : lv_has ls 2 [(0, .ref o), (1, .int (nI 4))] := hl
    refine lv_iload_n hx hb dX0_count_0 rfl (lv_at hl 1 rfl) ?_
    refine lv_bipush (v := 7) hx hb dX0_count_1 (by decide) ?_
    refine g_cv (wr := []) (cells' := 0) (slots' := 0) rfl rfl C rd_nil hD hS (g_runS (wr := []) (n := 2) (As := [.int (nI 4), .int 7]) C (mX0_requireIndex l D t [(cI, .int)] (ra_w cI o ad u) H.size 4 7 (by omega) (by omega)) (rw_S q89 q90 q2 q91) kd_X0_requireIndex ⟨Nat.le_of_ble_eq_true rfl, Nat.le_of_ble_eq_true rfl⟩ C.2.2.2.2.2.1 hP hD hS hl.1 rfl rfl (Nat.le_of_ble_eq_true rfl) dX0_count_3 ⟨Nat.le_of_ble_eq_true rfl, Nat.le_of_ble_eq_true rfl⟩) (fun w' H locs hv _ _ hP hD hS => ?_)
    subst hv
    have hD : va_D A (ra_w cI o ad u) := hD
    refine lv_iload_n hx hb dX0_count_6 rfl (lv_at hl 1 rfl) ?_
    refine lv_tableIn (off := 65) (tgt := 72) hx hb dX0_count_7 (by decide) (by decide) rfl (by decide) ?_
    refine lv_aload_n hx hb dX0_count_72 rfl (lv_at hl 0 rfl) ?_
    refine g_ci (wr := []) (cells' := 0) (slots' := 0) rfl rfl C rd_nil hD hS (g_runV (wr := []) (n := 0) C (mX0_worthOfPurse l D t cI o ad H.size u) (rw_V q200 q201 q202 q2 q203) kd_X0_worthOfPurse ⟨Nat.le_of_ble_eq_true rfl, Nat.le_of_ble_eq_true rfl⟩ (ci := 0) rfl rfl rfl C.2.2.2.2.2.1 hP hD hS hl.1 rfl rfl (Nat.le_of_ble_eq_true rfl) dX0_count_73 ⟨Nat.le_of_ble_eq_true rfl, Nat.le_of_ble_eq_true rfl⟩) (fun v w' H locs hv _ _ hP hD hS => ?_)
    obtain ⟨rfl, rfl⟩ := hv
    have hD : va_D A (ra_w cI o ad u) := hD
    exact g_iret C hrt hP hD hS dX0_count_76 ⟨by skip; rfl, by skip; rfl⟩
  · have hl : lv_has ls 2 [(0, .ref o), (1, .int (nI 5))] := hl
    refine lv_iload_n hx hb dX0_count_0 rfl (lv_at hl 1 rfl) ?_
    refine lv_bipush (v := 7) hx hb dX0_count_1 (by decide) ?_
    refine g_cv (wr := []) (cells' := 0) (slots' := 0) rfl rfl C rd_nil hD hS (g_runS (wr := []) (n := 2) (As := [.int (nI 5), .int 7]) C (mX0_requireIndex l D t [(cI, .int)] (ra_w cI o ad u) H.size 5 7 (by omega) (by omega)) (rw_S q89 q90 q2 q91) kd_X0_requireIndex ⟨Nat.le_of_ble_eq_true rfl, Nat.le_of_ble_eq_true rfl⟩ C.2.2.2.2.2.1 hP hD hS hl.1 rfl rfl (Nat.le_of_ble_eq_true rfl) dX0_count_3 ⟨Nat.le_of_ble_eq_true rfl, Nat.le_of_ble_eq_true rfl⟩) (fun w' H locs hv _ _ hP hD hS => ?_)
    subst hv
    have hD : va_D A (ra_w cI o ad u) := hD
    refine lv_iload_n hx hb dX0_count_6 rfl (lv_at hl 1 rfl) ?_
    refine lv_tableIn (off := 70) (tgt := 77) hx hb dX0_count_7 (by decide) (by decide) rfl (by decide) ?_
    refine lv_aload_n hx hb dX0_count_77 rfl (lv_at hl 0 rfl) ?_
    refine lv_aload_n hx hb dX0_count_78 rfl (lv_at hl 0 rfl) ?_
    refine x0_gf C hP 7 (by decide) (v := .ref (ad 7)) rfl rfl q18 dX0_count_79 ?_
    refine g_ci (wr := []) (cells' := 0) (slots' := 0) rfl rfl C rd_nil hD hS (g_runV (wr := []) (n := 1) C (mX0_allWages l D t cI o ad H.size u 7 (Or.inl rfl) hh) (rw_V q204 q205 q206 q2 q207) kd_X0_allWages ⟨Nat.le_of_ble_eq_true rfl, Nat.le_of_ble_eq_true rfl⟩ (ci := 0) rfl rfl rfl C.2.2.2.2.2.1 hP hD hS hl.1 rfl rfl (Nat.le_of_ble_eq_true rfl) dX0_count_82 ⟨Nat.le_of_ble_eq_true rfl, Nat.le_of_ble_eq_true rfl⟩) (fun v w' H locs hv _ _ hP hD hS => ?_)
    obtain ⟨rfl, rfl⟩ := hv
    have hD : va_D A (ra_w cI o ad u) := hD
    exact g_iret C hrt hP hD hS dX0_count_85 ⟨by skip; rfl, by skip; rfl⟩
  · have hl : lv_has ls 2 [(0, .ref o), (1, .int (nI 6))] := hl
    refine lv_iload_n hx hb dX0_count_0 rfl (lv_at hl 1 rfl) ?_
    refine lv_bipush (v := 7) hx hb dX0_count_1 (by decide) ?_
    refine g_cv (wr := []) (cells' := 0) (slots' := 0) rfl rfl C rd_nil hD hS (g_runS (wr := []) (n := 2) (As := [.int (nI 6), .int 7]) C (mX0_requireIndex l D t [(cI, .int)] (ra_w cI o ad u) H.size 6 7 (by omega) (by omega)) (rw_S q89 q90 q2 q91) kd_X0_requireIndex ⟨Nat.le_of_ble_eq_true rfl, Nat.le_of_ble_eq_true rfl⟩ C.2.2.2.2.2.1 hP hD hS hl.1 rfl rfl (Nat.le_of_ble_eq_true rfl) dX0_count_3 ⟨Nat.le_of_ble_eq_true rfl, Nat.le_of_ble_eq_true rfl⟩) (fun w' H locs hv _ _ hP hD hS => ?_)
    subst hv
    have hD : va_D A (ra_w cI o ad u) := hD
    refine lv_iload_n hx hb dX0_count_6 rfl (lv_at hl 1 rfl) ?_
    refine lv_tableOut (tgt := 86) hx hb dX0_count_7 (by decide) (by decide) ?_
    refine lv_aload_n hx hb dX0_count_86 rfl (lv_at hl 0 rfl) ?_
    refine lv_aload_n hx hb dX0_count_87 rfl (lv_at hl 0 rfl) ?_
    refine x0_gf C hP 6 (by decide) (v := .ref (ad 6)) rfl rfl q17 dX0_count_88 ?_
    refine g_ci (wr := []) (cells' := 0) (slots' := 0) rfl rfl C rd_nil hD hS (g_runV (wr := []) (n := 1) C (mX0_sumOfHired l D t cI o ad H.size u 6 (by decide) hh) (rw_V q196 q197 q198 q2 q199) kd_X0_sumOfHired ⟨Nat.le_of_ble_eq_true rfl, Nat.le_of_ble_eq_true rfl⟩ (ci := 0) rfl rfl rfl C.2.2.2.2.2.1 hP hD hS hl.1 rfl rfl (Nat.le_of_ble_eq_true rfl) dX0_count_91 ⟨Nat.le_of_ble_eq_true rfl, Nat.le_of_ble_eq_true rfl⟩) (fun v w' H locs hv _ _ hP hD hS => ?_)
    obtain ⟨rfl, rfl⟩ := hv
    have hD : va_D A (ra_w cI o ad u) := hD
    exact g_iret C hrt hP hD hS dX0_count_94 ⟨by skip; rfl, by skip; rfl⟩
theorem kd_X0_chest : yX0_chest.cls = yX0_chest.cls ∧ yX0_chest.cls ≠ "java/lang/invoke/MethodHandle" ∧ yX0_chest.cls ≠ "java/lang/invoke/VarHandle" ∧ (parseMethodDescriptor yX0_chest.desc).map (fun d => d.parameters.length) = some 1 := by decide +kernel
set_option maxHeartbeats 4000000 in
set_option maxRecDepth 100000 in
theorem mX0_chest (l : Launch) (D : va_G) (t : Nat → Nat) (cI : ClassId) (o : Nat) (ad : Nat → Nat) (sz : Nat) (u : S0) (k : Nat) (hk : k < 3) : gMi l yX0_chest (rw_ yX0_chest cX0_chest 2 (some .int)) (rm_ 1 0 0 21) [.ref o, .int (nI k)] D [(cI, .int)] t (ra_w cI o ad u) sz (fun v w' => v = u.1 8 k ∧ w' = ra_w cI o ad u) := by
  refine g_of (cc := cX0_chest) (nL := 2) (rt := (some .int)) (Q := fun A => va_Qi _ (fun w' U => gQ D A w' U) A) (by decide) (Nat.le_of_ble_eq_true rfl) (fun p e s m args below meth c A ls H C hrt hnm hS hP hD hl => ?_)
  have hx := C.1
  have hb := C.2.1
  have hown := C.2.2.2.1
  have hts := C.2.2.2.2.1
  have hl : lv_has ls 2 [(0, .ref o), (1, .int (nI k))] := hl
  refine lv_iload_n hx hb dX0_chest_0 rfl (lv_at hl 1 rfl) ?_
  refine lv_iconst (v := 3) hx hb dX0_chest_1 (by decide) ?_
  refine g_cv (wr := []) (cells' := 0) (slots' := 0) rfl rfl C rd_nil hD hS (g_runS (wr := []) (n := 2) (As := [.int (nI k), .int 3]) C (mX0_requireIndex l D t [(cI, .int)] (ra_w cI o ad u) H.size k 3 (by omega) (by omega)) (rw_S q89 q90 q2 q91) kd_X0_requireIndex ⟨Nat.le_of_ble_eq_true rfl, Nat.le_of_ble_eq_true rfl⟩ C.2.2.2.2.2.1 hP hD hS hl.1 rfl rfl (Nat.le_of_ble_eq_true rfl) dX0_chest_2 ⟨Nat.le_of_ble_eq_true rfl, Nat.le_of_ble_eq_true rfl⟩) (fun w' H locs hv _ _ hP hD hS => ?_)
  subst hv
  have hD : va_D A (ra_w cI o ad u) := hD
  refine lv_aload_n hx hb dX0_chest_5 rfl (lv_at hl 0 rfl) ?_
  refine x0_gf C hP 8 (by decide) (v := .ref (ad 8)) rfl rfl q19 dX0_chest_6 ?_
  refine lv_iload_n hx hb dX0_chest_9 rfl (lv_at hl 1 rfl) ?_
  refine x0_ld C hP (k := 8) (i := k) (Or.inl (by decide)) hk rfl dX0_chest_10 ?_
  exact g_iret C hrt hP hD hS dX0_chest_11 ⟨by skip; rfl, by skip; rfl⟩
theorem kd_X0_rate : yX0_rate.cls = yX0_rate.cls ∧ yX0_rate.cls ≠ "java/lang/invoke/MethodHandle" ∧ yX0_rate.cls ≠ "java/lang/invoke/VarHandle" ∧ (parseMethodDescriptor yX0_rate.desc).map (fun d => d.parameters.length) = some 1 := by decide +kernel
set_option maxHeartbeats 4000000 in
set_option maxRecDepth 100000 in
theorem mX0_rate (l : Launch) (D : va_G) (t : Nat → Nat) (cI : ClassId) (o : Nat) (ad : Nat → Nat) (sz : Nat) (u : S0) (k : Nat) (hk : k < 5) : gMi l yX0_rate (rw_ yX0_rate cX0_rate 2 (some .int)) (rm_ 1 0 0 21) [.ref o, .int (nI k)] D [(cI, .int)] t (ra_w cI o ad u) sz (fun v w' => v = u.1 7 k ∧ w' = ra_w cI o ad u) := by
  refine g_of (cc := cX0_rate) (nL := 2) (rt := (some .int)) (Q := fun A => va_Qi _ (fun w' U => gQ D A w' U) A) (by decide) (Nat.le_of_ble_eq_true rfl) (fun p e s m args below meth c A ls H C hrt hnm hS hP hD hl => ?_)
  have hx := C.1
  have hb := C.2.1
  have hown := C.2.2.2.1
  have hts := C.2.2.2.2.1
  have hl : lv_has ls 2 [(0, .ref o), (1, .int (nI k))] := hl
  refine lv_iload_n hx hb dX0_rate_0 rfl (lv_at hl 1 rfl) ?_
  refine lv_iconst (v := 5) hx hb dX0_rate_1 (by decide) ?_
  refine g_cv (wr := []) (cells' := 0) (slots' := 0) rfl rfl C rd_nil hD hS (g_runS (wr := []) (n := 2) (As := [.int (nI k), .int 5]) C (mX0_requireIndex l D t [(cI, .int)] (ra_w cI o ad u) H.size k 5 (by omega) (by omega)) (rw_S q89 q90 q2 q91) kd_X0_requireIndex ⟨Nat.le_of_ble_eq_true rfl, Nat.le_of_ble_eq_true rfl⟩ C.2.2.2.2.2.1 hP hD hS hl.1 rfl rfl (Nat.le_of_ble_eq_true rfl) dX0_rate_2 ⟨Nat.le_of_ble_eq_true rfl, Nat.le_of_ble_eq_true rfl⟩) (fun w' H locs hv _ _ hP hD hS => ?_)
  subst hv
  have hD : va_D A (ra_w cI o ad u) := hD
  refine lv_aload_n hx hb dX0_rate_5 rfl (lv_at hl 0 rfl) ?_
  refine x0_gf C hP 7 (by decide) (v := .ref (ad 7)) rfl rfl q18 dX0_rate_6 ?_
  refine lv_iload_n hx hb dX0_rate_9 rfl (lv_at hl 1 rfl) ?_
  refine x0_ld C hP (k := 7) (i := k) (Or.inl (by decide)) hk rfl dX0_rate_10 ?_
  exact g_iret C hrt hP hD hS dX0_rate_11 ⟨by skip; rfl, by skip; rfl⟩
theorem kd_X0_coins : yX0_coins.cls = yX0_coins.cls ∧ yX0_coins.cls ≠ "java/lang/invoke/MethodHandle" ∧ yX0_coins.cls ≠ "java/lang/invoke/VarHandle" ∧ (parseMethodDescriptor yX0_coins.desc).map (fun d => d.parameters.length) = some 2 := by decide +kernel
set_option maxHeartbeats 4000000 in
set_option maxRecDepth 100000 in
theorem lpX0_coins {p : Program} {l : Launch} {e : Env} {s : State} {m : MethodId} {args : Array Value} {below : List Frame} {meth : Method} {c : Code} {Q : State → Prop} {D : va_G} {t : Nat → Nat} {A : Nat → Prop} {cI : ClassId} {o : Nat} {ad : Nat → Nat} {u : S0} {r k : Nat} (C : gC p s m args meth c cX0_coins 4 RX0 D [(cI, .int)] t A) (hr8 : r < 8) (kk : ∀ (H : Heap) (locs : List Loc) (ls : Array Slot), va_P D vwCl (ra_w cI o ad (rf_ci (rf_cp u 8 12 3) (r + 1))) H → va_D A (ra_w cI o ad (rf_ci (rf_cp u 8 12 3) (r + 1))) → va_S A s.heap H locs → lv_has ls 4 [(0, .ref o), (1, .int (nI r)), (2, .int (nI k)), (3, .int (nI (r + 1)))] → W p l e (rm_ 6 0 0 132) s m args below meth c H locs 0 0 Q (F0 m 52 ls [])) :
    ∀ (n i : Nat), i + n = (r + 1) → ∀ (H : Heap) (locs : List Loc) (ls : Array Slot), va_P D vwCl (ra_w cI o ad (rf_ci (rf_cp u 8 12 3) i)) H → va_D A (ra_w cI o ad (rf_ci (rf_cp u 8 12 3) i)) → va_S A s.heap H locs → lv_has ls 4 [(0, .ref o), (1, .int (nI r)), (2, .int (nI k)), (3, .int (nI i))] → W p l e (rm_ 6 0 0 132) s m args below meth c H locs 0 0 Q (F0 m 27 ls []) := by
  have hx := C.1
  have hb := C.2.1
  have hown := C.2.2.2.1
  have hts := C.2.2.2.2.1
  intro n
  induction n with
  | zero =>
    intro i hi H locs ls hP hD hS hl
    have hiN : i = (r + 1) := by omega
    refine lv_iload_n hx hb dX0_coins_27 rfl (lv_at hl 3 rfl) ?_
    refine lv_iload_n hx hb dX0_coins_28 rfl (lv_at hl 1 rfl) ?_
    refine lv_icmp_gt (tgt := 52) hx hb dX0_coins_29 (by decide) (fun c1 => ?_) (fun c1 => absurd ((nI_ltI (a := r) (b := i) (by omega) (by omega)).mpr (by omega)) c1)
    subst hiN
    exact kk _ _ _ hP hD hS (lv_sub hl [0, 1, 2, 3] rfl)
  | succ n ih =>
    intro i hi H locs ls hP hD hS hl
    have hin : i < (r + 1) := by omega
    refine lv_iload_n hx hb dX0_coins_27 rfl (lv_at hl 3 rfl) ?_
    refine lv_iload_n hx hb dX0_coins_28 rfl (lv_at hl 1 rfl) ?_
    refine lv_icmp_gt (tgt := 52) hx hb dX0_coins_29 (by decide) (fun c1 => absurd c1 (fun h9 => absurd ((nI_ltI (a := r) (b := i) (by omega) (by omega)).mp h9) (by omega))) (fun c1 => ?_)
    refine lv_aload_n hx hb dX0_coins_32 rfl (lv_at hl 0 rfl) ?_
    refine lv_aload_n hx hb dX0_coins_33 rfl (lv_at hl 0 rfl) ?_
    refine x0_gf C hP 12 (by decide) (v := .ref (ad 12)) rfl rfl q21 dX0_coins_34 ?_
    refine lv_aload_n hx hb dX0_coins_37 rfl (lv_at hl 0 rfl) ?_
    refine lv_iload_n hx hb dX0_coins_38 rfl (lv_at hl 3 rfl) ?_
    refine g_ci (wr := []) (cells' := 0) (slots' := 0) rfl rfl C rd_nil hD hS (g_runV (wr := []) (n := 1) C (mX0_restToPay l D t cI o ad H.size (rf_ci (rf_cp u 8 12 3) i) i (by omega)) (rw_V q215 q216 q217 q2 q218) kd_X0_restToPay ⟨Nat.le_of_ble_eq_true rfl, Nat.le_of_ble_eq_true rfl⟩ (ci := 0) rfl rfl rfl C.2.2.2.2.2.1 hP hD hS hl.1 rfl rfl (Nat.le_of_ble_eq_true rfl) dX0_coins_39 ⟨Nat.le_of_ble_eq_true rfl, Nat.le_of_ble_eq_true rfl⟩) (fun v w' H locs hv _ _ hP hD hS => ?_)
    obtain ⟨rfl, rfl⟩ := hv
    have hD : va_D A (ra_w cI o ad (rf_ci (rf_cp u 8 12 3) i)) := hD
    refine g_ci (wr := []) (cells' := 0) (slots' := 0) rfl rfl C rd_nil hD hS (g_runV (wr := []) (n := 2) C (mX0_handOut l D t cI o ad H.size (rf_ci (rf_cp u 8 12 3) i) 12 (Or.inr rfl) (rf_re (rf_ci (rf_cp u 8 12 3) i) i)) (rw_V q150 q151 q152 q2 q153) kd_X0_handOut ⟨Nat.le_of_ble_eq_true rfl, Nat.le_of_ble_eq_true rfl⟩ (ci := 0) rfl rfl rfl C.2.2.2.2.2.1 hP hD hS hl.1 rfl rfl (Nat.le_of_ble_eq_true rfl) dX0_coins_42 ⟨Nat.le_of_ble_eq_true rfl, Nat.le_of_ble_eq_true rfl⟩) (fun v w' H locs hv _ _ hP hD hS => ?_)
    obtain ⟨rfl, rfl⟩ := hv
    have hD : va_D A (ra_w cI o ad (rf_hs (rf_ci (rf_cp u 8 12 3) i) 12 (rf_re (rf_ci (rf_cp u 8 12 3) i) i))) := hD
    obtain ⟨u2, eu2⟩ : ∃ z : S0, z = rf_hs (rf_ci (rf_cp u 8 12 3) i) 12 (rf_re (rf_ci (rf_cp u 8 12 3) i) i) := ⟨_, rfl⟩
    have hP : va_P D vwCl (ra_w cI o ad u2) H := by rw [eu2]; exact hP
    have hD : va_D A (ra_w cI o ad u2) := by rw [eu2]; exact hD
    refine lv_pop hx hb dX0_coins_45 rfl ?_
    refine lv_iinc (v := nI (i + 1)) (lv' := [(3, .int (nI (i + 1))), (0, .ref o), (1, .int (nI r)), (2, .int (nI k))]) hx hb dX0_coins_46 hl (k := 3) rfl (nI_1 _) (by decide) rfl (fun ls hl => ?_)
    refine lv_goto (tgt := 27) hx hb dX0_coins_49 (by decide) ?_
    subst eu2
    exact ih (i + 1) (by omega) _ _ _ hP hD hS (lv_sub hl [1, 2, 3, 0] rfl)
set_option maxHeartbeats 4000000 in
set_option maxRecDepth 100000 in
theorem mX0_coins (l : Launch) (D : va_G) (t : Nat → Nat) (cI : ClassId) (o : Nat) (ad : Nat → Nat) (sz : Nat) (u : S0) (hh : u.2.1 ≤ 8) (r : Nat) (hr : r < u.2.1) (k : Nat) (hk3 : k < 3) : gMi l yX0_coins (rw_ yX0_coins cX0_coins 4 (some .int)) (rm_ 6 0 0 132) [.ref o, .int (nI r), .int (nI k)] D [(cI, .int)] t (ra_w cI o ad u) sz (fun v w' => v = rf_co u r k ∧ w' = ra_w cI o ad (rf_cs u r)) := by
  refine g_of (cc := cX0_coins) (nL := 4) (rt := (some .int)) (Q := fun A => va_Qi _ (fun w' U => gQ D A w' U) A) (by decide) (Nat.le_of_ble_eq_true rfl) (fun p e s m args below meth c A ls H C hrt hnm hS hP hD hl => ?_)
  have hx := C.1
  have hb := C.2.1
  have hown := C.2.2.2.1
  have hts := C.2.2.2.2.1
  have hl : lv_has ls 4 [(0, .ref o), (1, .int (nI r)), (2, .int (nI k))] := hl
  refine lv_iload_n hx hb dX0_coins_0 rfl (lv_at hl 1 rfl) ?_
  refine lv_aload_n hx hb dX0_coins_1 rfl (lv_at hl 0 rfl) ?_
  refine x0_gf C hP 9 (by decide) (v := .int (nI u.2.1)) rfl rfl q66 dX0_coins_2 ?_
  refine g_cv (wr := []) (cells' := 0) (slots' := 0) rfl rfl C rd_nil hD hS (g_runS (wr := []) (n := 2) (As := [.int (nI r), .int (nI u.2.1)]) C (mX0_requireIndex l D t [(cI, .int)] (ra_w cI o ad u) H.size r u.2.1 (by omega) (by omega)) (rw_S q89 q90 q2 q91) kd_X0_requireIndex ⟨Nat.le_of_ble_eq_true rfl, Nat.le_of_ble_eq_true rfl⟩ C.2.2.2.2.2.1 hP hD hS hl.1 rfl rfl (Nat.le_of_ble_eq_true rfl) dX0_coins_5 ⟨Nat.le_of_ble_eq_true rfl, Nat.le_of_ble_eq_true rfl⟩) (fun w' H locs hv _ _ hP hD hS => ?_)
  subst hv
  have hD : va_D A (ra_w cI o ad u) := hD
  refine lv_iload_n hx hb dX0_coins_8 rfl (lv_at hl 2 rfl) ?_
  refine lv_iconst (v := 3) hx hb dX0_coins_9 (by decide) ?_
  refine g_cv (wr := []) (cells' := 0) (slots' := 0) rfl rfl C rd_nil hD hS (g_runS (wr := []) (n := 2) (As := [.int (nI k), .int 3]) C (mX0_requireIndex l D t [(cI, .int)] (ra_w cI o ad u) H.size k 3 (by omega) (by omega)) (rw_S q89 q90 q2 q91) kd_X0_requireIndex ⟨Nat.le_of_ble_eq_true rfl, Nat.le_of_ble_eq_true rfl⟩ C.2.2.2.2.2.1 hP hD hS hl.1 rfl rfl (Nat.le_of_ble_eq_true rfl) dX0_coins_10 ⟨Nat.le_of_ble_eq_true rfl, Nat.le_of_ble_eq_true rfl⟩) (fun w' H locs hv _ _ hP hD hS => ?_)
  subst hv
  have hD : va_D A (ra_w cI o ad u) := hD
  refine lv_aload_n hx hb dX0_coins_13 rfl (lv_at hl 0 rfl) ?_
  refine x0_gf C hP 8 (by decide) (v := .ref (ad 8)) rfl rfl q19 dX0_coins_14 ?_
  refine lv_aload_n hx hb dX0_coins_17 rfl (lv_at hl 0 rfl) ?_
  refine x0_gf C hP 12 (by decide) (v := .ref (ad 12)) rfl rfl q21 dX0_coins_18 ?_
  refine lv_iconst (v := 3) hx hb dX0_coins_21 (by decide) ?_
  refine g_cv (wr := []) (cells' := 0) (slots' := 0) rfl rfl C rd_nil hD hS (g_runS (wr := []) (n := 3) (As := [.ref (ad 8), .ref (ad 12), .int 3]) C (mX0_copyRow l D t cI o ad H.size u 8 12 3 (Or.inl (by decide)) (Or.inr ⟨by decide, by decide⟩) (by decide) (by decide) (by decide)) (rw_S q212 q213 q2 q214) kd_X0_copyRow ⟨Nat.le_of_ble_eq_true rfl, Nat.le_of_ble_eq_true rfl⟩ C.2.2.2.2.2.1 hP hD hS hl.1 rfl rfl (Nat.le_of_ble_eq_true rfl) dX0_coins_22 ⟨Nat.le_of_ble_eq_true rfl, Nat.le_of_ble_eq_true rfl⟩) (fun w' H locs hv _ _ hP hD hS => ?_)
  subst hv
  have hD : va_D A (ra_w cI o ad (rf_cp u 8 12 3)) := hD
  obtain ⟨u1, eu1⟩ : ∃ z : S0, z = rf_cp u 8 12 3 := ⟨_, rfl⟩
  have hP : va_P D vwCl (ra_w cI o ad u1) H := by rw [eu1]; exact hP
  have hD : va_D A (ra_w cI o ad u1) := by rw [eu1]; exact hD
  refine lv_iconst (v := 0) hx hb dX0_coins_25 (by decide) ?_
  refine lv_istore_n (lv' := [(3, .int 0), (0, .ref o), (1, .int (nI r)), (2, .int (nI k))]) hx hb dX0_coins_26 rfl hl (by decide) rfl (fun ls hl => ?_)
  subst eu1
  refine lpX0_coins  C (by omega) (fun H locs ls hP hD hS hl => ?_) (r + 1) 0 (by omega) _ _ _ hP hD hS (lv_sub hl [1, 2, 3, 0] rfl)
  refine lv_aload_n hx hb dX0_coins_52 rfl (lv_at hl 0 rfl) ?_
  refine x0_gf C hP 13 (by decide) (v := .ref (ad 13)) rfl rfl q22 dX0_coins_53 ?_
  refine lv_iload_n hx hb dX0_coins_56 rfl (lv_at hl 2 rfl) ?_
  refine x0_ld C hP (k := 13) (i := k) (Or.inr ⟨by decide, by decide⟩) hk3 rfl dX0_coins_57 ?_
  exact g_iret C hrt hP hD hS dX0_coins_58 ⟨by skip; rfl, by skip; rfl⟩
theorem kd_X0_lacks : yX0_lacks.cls = yX0_lacks.cls ∧ yX0_lacks.cls ≠ "java/lang/invoke/MethodHandle" ∧ yX0_lacks.cls ≠ "java/lang/invoke/VarHandle" ∧ (parseMethodDescriptor yX0_lacks.desc).map (fun d => d.parameters.length) = some 0 := by decide +kernel
set_option maxHeartbeats 4000000 in
set_option maxRecDepth 100000 in
theorem lpX0_lacks {p : Program} {l : Launch} {e : Env} {s : State} {m : MethodId} {args : Array Value} {below : List Frame} {meth : Method} {c : Code} {Q : State → Prop} {D : va_G} {t : Nat → Nat} {A : Nat → Prop} {cI : ClassId} {o : Nat} {ad : Nat → Nat} {u : S0} (C : gC p s m args meth c cX0_lacks 4 RX0 D [(cI, .int)] t A) (hh : u.2.1 ≤ 8) (kk : ∀ (H : Heap) (locs : List Loc) (ls : Array Slot), va_P D vwCl (ra_w cI o ad ((rf_lk (rf_cp u 8 12 3) u.2.1).2)) H → va_D A (ra_w cI o ad ((rf_lk (rf_cp u 8 12 3) u.2.1).2)) → va_S A s.heap H locs → lv_has ls 4 [(0, .ref o), (1, .int ((rf_lk (rf_cp u 8 12 3) u.2.1).1)), (2, .int (nI u.2.1))] → W p l e (rm_ 6 0 0 132) s m args below meth c H locs 0 0 Q (F0 m 52 ls [])) :
    ∀ (n i : Nat), i + n = u.2.1 → ∀ (H : Heap) (locs : List Loc) (ls : Array Slot), va_P D vwCl (ra_w cI o ad ((rf_lk (rf_cp u 8 12 3) i).2)) H → va_D A (ra_w cI o ad ((rf_lk (rf_cp u 8 12 3) i).2)) → va_S A s.heap H locs → lv_has ls 4 [(0, .ref o), (1, .int ((rf_lk (rf_cp u 8 12 3) i).1)), (2, .int (nI i))] → W p l e (rm_ 6 0 0 132) s m args below meth c H locs 0 0 Q (F0 m 16 ls []) := by
  have hx := C.1
  have hb := C.2.1
  have hown := C.2.2.2.1
  have hts := C.2.2.2.2.1
  intro n
  induction n with
  | zero =>
    intro i hi H locs ls hP hD hS hl
    have hiN : i = u.2.1 := by omega
    refine lv_iload_n hx hb dX0_lacks_16 rfl (lv_at hl 2 rfl) ?_
    refine lv_aload_n hx hb dX0_lacks_17 rfl (lv_at hl 0 rfl) ?_
    refine x0_gf C hP 9 (by decide) (v := .int (nI (((rf_lk (rf_cp u 8 12 3) i).2).2.1))) rfl rfl q66 dX0_lacks_18 ?_
    refine g_top (congrArg (fun z => nI z.1) ((rf_lk2 _ _).trans (rf_cp2 u 8 12 3))) ?_
    refine lv_icmp_ge (tgt := 52) hx hb dX0_lacks_21 (by decide) (fun c1 => ?_) (fun c1 => absurd ((nI_leI (a := u.2.1) (b := i) (by omega) (by omega)).mpr (by omega)) c1)
    subst hiN
    exact kk _ _ _ hP hD hS (lv_sub hl [0, 1, 2] rfl)
  | succ n ih =>
    intro i hi H locs ls hP hD hS hl
    have hin : i < u.2.1 := by omega
    refine lv_iload_n hx hb dX0_lacks_16 rfl (lv_at hl 2 rfl) ?_
    refine lv_aload_n hx hb dX0_lacks_17 rfl (lv_at hl 0 rfl) ?_
    refine x0_gf C hP 9 (by decide) (v := .int (nI (((rf_lk (rf_cp u 8 12 3) i).2).2.1))) rfl rfl q66 dX0_lacks_18 ?_
    refine g_top (congrArg (fun z => nI z.1) ((rf_lk2 _ _).trans (rf_cp2 u 8 12 3))) ?_
    refine lv_icmp_ge (tgt := 52) hx hb dX0_lacks_21 (by decide) (fun c1 => absurd c1 (fun h9 => absurd ((nI_leI (a := u.2.1) (b := i) (by omega) (by omega)).mp h9) (by omega))) (fun c1 => ?_)
    refine lv_aload_n hx hb dX0_lacks_24 rfl (lv_at hl 0 rfl) ?_
    refine lv_iload_n hx hb dX0_lacks_25 rfl (lv_at hl 2 rfl) ?_
    refine g_ci (wr := []) (cells' := 0) (slots' := 0) rfl rfl C rd_nil hD hS (g_runV (wr := []) (n := 1) C (mX0_restToPay l D t cI o ad H.size ((rf_lk (rf_cp u 8 12 3) i).2) i (by omega)) (rw_V q215 q216 q217 q2 q218) kd_X0_restToPay ⟨Nat.le_of_ble_eq_true rfl, Nat.le_of_ble_eq_true rfl⟩ (ci := 0) rfl rfl rfl C.2.2.2.2.2.1 hP hD hS hl.1 rfl rfl (Nat.le_of_ble_eq_true rfl) dX0_lacks_26 ⟨Nat.le_of_ble_eq_true rfl, Nat.le_of_ble_eq_true rfl⟩) (fun v w' H locs hv _ _ hP hD hS => ?_)
    obtain ⟨rfl, rfl⟩ := hv
    have hD : va_D A (ra_w cI o ad ((rf_lk (rf_cp u 8 12 3) i).2)) := hD
    refine lv_topi (fun v2 ev2 => ?_)
    refine lv_istore_n (lv' := [(3, .int v2), (0, .ref o), (1, .int ((rf_lk (rf_cp u 8 12 3) i).1)), (2, .int (nI i))]) hx hb dX0_lacks_29 rfl hl (by decide) rfl (fun ls hl => ?_)
    refine lv_iload_n hx hb dX0_lacks_30 rfl (lv_at hl 2 rfl) ?_
    refine lv_iload_n hx hb dX0_lacks_31 rfl (lv_at hl 0 rfl) ?_
    refine lv_aload_n hx hb dX0_lacks_32 rfl (lv_at hl 1 rfl) ?_
    refine lv_aload_n hx hb dX0_lacks_33 rfl (lv_at hl 1 rfl) ?_
    refine x0_gf C hP 12 (by decide) (v := .ref (ad 12)) rfl rfl q21 dX0_lacks_34 ?_
    refine lv_iload_n hx hb dX0_lacks_37 rfl (lv_at hl 0 rfl) ?_
    refine g_ci (wr := []) (cells' := 0) (slots' := 0) rfl rfl C rd_nil hD hS (g_runV (wr := []) (n := 2) C (mX0_handOut l D t cI o ad H.size ((rf_lk (rf_cp u 8 12 3) i).2) 12 (Or.inr rfl) v2) (rw_V q150 q151 q152 q2 q153) kd_X0_handOut ⟨Nat.le_of_ble_eq_true rfl, Nat.le_of_ble_eq_true rfl⟩ (ci := 0) rfl rfl rfl C.2.2.2.2.2.1 hP hD hS hl.1 rfl rfl (Nat.le_of_ble_eq_true rfl) dX0_lacks_38 ⟨Nat.le_of_ble_eq_true rfl, Nat.le_of_ble_eq_true rfl⟩) (fun v w' H locs hv _ _ hP hD hS => ?_)
    obtain ⟨rfl, rfl⟩ := hv
    have hD : va_D A (ra_w cI o ad (rf_hs ((rf_lk (rf_cp u 8 12 3) i).2) 12 v2)) := hD
    obtain ⟨u3, eu3⟩ : ∃ z : S0, z = rf_hs ((rf_lk (rf_cp u 8 12 3) i).2) 12 v2 := ⟨_, rfl⟩
    have hP : va_P D vwCl (ra_w cI o ad u3) H := by rw [eu3]; exact hP
    have hD : va_D A (ra_w cI o ad u3) := by rw [eu3]; exact hD
    refine lv_isub hx hb dX0_lacks_41 ?_
    refine lv_iconst (v := 4) hx hb dX0_lacks_42 (by decide) ?_
    refine lv_idiv hx hb dX0_lacks_43 (by decide) ?_
    refine lv_iadd hx hb dX0_lacks_44 ?_
    refine lv_topi (fun v4 ev4 => ?_)
    refine lv_istore_n (lv' := [(1, .int v4), (3, .int v2), (0, .ref o), (2, .int (nI i))]) hx hb dX0_lacks_45 rfl hl (by decide) rfl (fun ls hl => ?_)
    refine lv_iinc (v := nI (i + 1)) (lv' := [(2, .int (nI (i + 1))), (1, .int v4), (3, .int v2), (0, .ref o)]) hx hb dX0_lacks_46 hl (k := 3) rfl (nI_1 _) (by decide) rfl (fun ls hl => ?_)
    refine lv_goto (tgt := 16) hx hb dX0_lacks_49 (by decide) ?_
    subst ev4; subst eu3; subst ev2
    exact ih (i + 1) (by omega) _ _ _ hP hD hS (lv_sub hl [3, 1, 0] rfl)
set_option maxHeartbeats 4000000 in
set_option maxRecDepth 100000 in
theorem mX0_lacks (l : Launch) (D : va_G) (t : Nat → Nat) (cI : ClassId) (o : Nat) (ad : Nat → Nat) (sz : Nat) (u : S0) (hh : u.2.1 ≤ 8) : gMi l yX0_lacks (rw_ yX0_lacks cX0_lacks 4 (some .int)) (rm_ 6 0 0 132) [.ref o] D [(cI, .int)] t (ra_w cI o ad u) sz (fun v w' => v = (rf_lk (rf_cp u 8 12 3) u.2.1).1 ∧ w' = ra_w cI o ad ((rf_lk (rf_cp u 8 12 3) u.2.1).2)) := by
  refine g_of (cc := cX0_lacks) (nL := 4) (rt := (some .int)) (Q := fun A => va_Qi _ (fun w' U => gQ D A w' U) A) (by decide) (Nat.le_of_ble_eq_true rfl) (fun p e s m args below meth c A ls H C hrt hnm hS hP hD hl => ?_)
  have hx := C.1
  have hb := C.2.1
  have hown := C.2.2.2.1
  have hts := C.2.2.2.2.1
  have hl : lv_has ls 4 [(0, .ref o)] := hl
  refine lv_aload_n hx hb dX0_lacks_0 rfl (lv_at hl 0 rfl) ?_
  refine x0_gf C hP 8 (by decide) (v := .ref (ad 8)) rfl rfl q19 dX0_lacks_1 ?_
  refine lv_aload_n hx hb dX0_lacks_4 rfl (lv_at hl 0 rfl) ?_
  refine x0_gf C hP 12 (by decide) (v := .ref (ad 12)) rfl rfl q21 dX0_lacks_5 ?_
  refine lv_iconst (v := 3) hx hb dX0_lacks_8 (by decide) ?_
  refine g_cv (wr := []) (cells' := 0) (slots' := 0) rfl rfl C rd_nil hD hS (g_runS (wr := []) (n := 3) (As := [.ref (ad 8), .ref (ad 12), .int 3]) C (mX0_copyRow l D t cI o ad H.size u 8 12 3 (Or.inl (by decide)) (Or.inr ⟨by decide, by decide⟩) (by decide) (by decide) (by decide)) (rw_S q212 q213 q2 q214) kd_X0_copyRow ⟨Nat.le_of_ble_eq_true rfl, Nat.le_of_ble_eq_true rfl⟩ C.2.2.2.2.2.1 hP hD hS hl.1 rfl rfl (Nat.le_of_ble_eq_true rfl) dX0_lacks_9 ⟨Nat.le_of_ble_eq_true rfl, Nat.le_of_ble_eq_true rfl⟩) (fun w' H locs hv _ _ hP hD hS => ?_)
  subst hv
  have hD : va_D A (ra_w cI o ad (rf_cp u 8 12 3)) := hD
  obtain ⟨u1, eu1⟩ : ∃ z : S0, z = rf_cp u 8 12 3 := ⟨_, rfl⟩
  have hP : va_P D vwCl (ra_w cI o ad u1) H := by rw [eu1]; exact hP
  have hD : va_D A (ra_w cI o ad u1) := by rw [eu1]; exact hD
  refine lv_iconst (v := 0) hx hb dX0_lacks_12 (by decide) ?_
  refine lv_istore_n (lv' := [(1, .int 0), (0, .ref o)]) hx hb dX0_lacks_13 rfl hl (by decide) rfl (fun ls hl => ?_)
  refine lv_iconst (v := 0) hx hb dX0_lacks_14 (by decide) ?_
  refine lv_istore_n (lv' := [(2, .int 0), (1, .int 0), (0, .ref o)]) hx hb dX0_lacks_15 rfl hl (by decide) rfl (fun ls hl => ?_)
  subst eu1
  refine lpX0_lacks  C hh (fun H locs ls hP hD hS hl => ?_) u.2.1 0 (by omega) _ _ _ hP hD hS (lv_sub hl [2, 1, 0] rfl)
  refine lv_iload_n hx hb dX0_lacks_52 rfl (lv_at hl 1 rfl) ?_
  exact g_iret C hrt hP hD hS dX0_lacks_53 ⟨by skip; rfl, by skip; rfl⟩
