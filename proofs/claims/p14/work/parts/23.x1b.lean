theorem rb_in_no {x a b : Int32} (h : rb_in x a b = 0) : x < a ∨ b < x := by
  unfold rb_in at h
  split at h
  · exact Or.inl ‹_›
  · split at h
    · exact Or.inr ‹_›
    · exact absurd h (by decide)
theorem rb_in_yes {x a b : Int32} (h : ¬ rb_in x a b = 0) : ¬ x < a ∧ ¬ b < x := by
  refine ⟨fun q => h (by rw [rb_in, if_pos q]), fun q => h ?_⟩
  unfold rb_in
  split
  · rfl
  · first | rfl | rw [if_pos q]
theorem rb_in_1 {x a b : Int32} (h1 : ¬ x < a) (h2 : ¬ b < x) : rb_in x a b = 1 := by rw [rb_in, if_neg h1, if_neg h2]
theorem rb_in_0 {x a b : Int32} (h : x < a ∨ b < x) : rb_in x a b = 0 := by
  rcases h with h | h
  · rw [rb_in, if_pos h]
  · unfold rb_in
    split
    · rfl
    · first | rfl | rw [if_pos h]
theorem rb_n1 {n : Nat} (h : n ≤ 8) : (nI n - 1).toInt = (n : Int) - 1 := pk_sub_toInt (a := n) (b := 1) (by omega) (by omega)
theorem rb_re {x : Int32} {n : Nat} (hn : n ≤ 8) (h : ¬ rb_in x 0 (nI n - 1) = 0) : ∃ r : Nat, r < n ∧ x = nI r := by
  obtain ⟨h1, h2⟩ := rb_in_yes h
  obtain ⟨j, hj, rfl⟩ := nI_of h1
  refine ⟨j, ?_, rfl⟩
  have h3 : ¬ (nI n - 1).toInt < (nI j).toInt := fun q => h2 (Int32.lt_iff_toInt_lt.mpr q)
  rw [rb_n1 hn, nI_toInt hj] at h3
  omega
theorem rb_reN {x : Int32} {n : Nat} (hn : n ≤ 8) (h : x < 0 ∨ nI n ≤ x) : rb_in x 0 (nI n - 1) = 0 := by
  refine rb_in_0 (h.elim Or.inl (fun q => Or.inr (Int32.lt_iff_toInt_lt.mpr ?_)))
  have h3 := Int32.le_iff_toInt_le.mp q
  rw [nI_toInt (by omega)] at h3
  rw [rb_n1 hn]
  omega
theorem rb_reY {r n : Nat} (hn : n ≤ 8) (h : r < n) : rb_in (nI r) 0 (nI n - 1) = 1 := by
  refine rb_in_1 (nI_pos (by omega)) (fun q => ?_)
  have h3 := Int32.lt_iff_toInt_lt.mp q
  rw [rb_n1 hn, nI_toInt (by omega)] at h3
  omega
theorem rb_k {x : Int32} {n : Nat} (hn : n < 100) (h : ¬ rb_in x 0 (nI n) = 0) : ∃ r : Nat, r < n + 1 ∧ x = nI r := by
  obtain ⟨h1, h2⟩ := rb_in_yes h
  obtain ⟨j, hj, rfl⟩ := nI_of h1
  refine ⟨j, ?_, rfl⟩
  have h3 : ¬ (nI n).toInt < (nI j).toInt := fun q => h2 (Int32.lt_iff_toInt_lt.mpr q)
  rw [nI_toInt (by omega), nI_toInt hj] at h3
  omega
theorem rb_kN {x : Int32} {n : Nat} (hn : n < 100) (h : x < 0 ∨ nI (n + 1) ≤ x) : rb_in x 0 (nI n) = 0 := by
  refine rb_in_0 (h.elim Or.inl (fun q => Or.inr (Int32.lt_iff_toInt_lt.mpr ?_)))
  have h3 := Int32.le_iff_toInt_le.mp q
  rw [nI_toInt (by omega)] at h3
  rw [nI_toInt (by omega)]
  omega
theorem rb_kY {r n : Nat} (hn : n < 100) (h : r < n + 1) : rb_in (nI r) 0 (nI n) = 1 := rb_in_1 (nI_pos (by omega)) (nI_nlt (by omega) (by omega))
/-- alike in what the parts compare: reapers, rates, sheaves and hours -/
def rb_E (v v' : S1) : Prop := v'.2.1 = v.2.1 ∧ v'.1 0 = v.1 0 ∧ ∀ r, r < 8 → v'.1 2 (7 * r + 1) = v.1 2 (7 * r + 1) ∧ v'.1 2 (7 * r + 2) = v.1 2 (7 * r + 2)
theorem rb_E.t {v : S1} {x : Int32} : rb_E v (rb_t v x) := ⟨rfl, rfl, fun _ _ => ⟨rfl, rfl⟩⟩
theorem rb_E.tt {v v' : S1} {x : Int32} (h : rb_E v v') : rb_E v (rb_t v' x) := h
theorem rb_E.tl {v v' : S1} {x : Int32} (h : rb_E (rb_t v x) v') : rb_E v v' := h
theorem rb_E.tr {a b c : S1} (h : rb_E a b) (h2 : rb_E b c) : rb_E a c := ⟨h2.1.trans h.1, h2.2.1.trans h.2.1, fun r hr => ⟨(h2.2.2 r hr).1.trans (h.2.2 r hr).1, (h2.2.2 r hr).2.trans (h.2.2 r hr).2⟩⟩
theorem rb_E.c1 {v : S1} {i : Nat} {x : Int32} : rb_E v (rb_s v 1 i x) := ⟨rfl, rfl, fun _ _ => ⟨rfl, rfl⟩⟩
theorem rb_E.c3 {v : S1} {i : Nat} {x : Int32} : rb_E v (rb_s v 3 i x) := ⟨rfl, rfl, fun _ _ => ⟨rfl, rfl⟩⟩
theorem kd_X1_hire : yX1_hire.cls = yX1_hire.cls ∧ yX1_hire.cls ≠ "java/lang/invoke/MethodHandle" ∧ yX1_hire.cls ≠ "java/lang/invoke/VarHandle" ∧ (parseMethodDescriptor yX1_hire.desc).map (fun d => d.parameters.length) = some 1 := by decide +kernel
set_option maxHeartbeats 4000000 in
set_option maxRecDepth 100000 in
theorem oX1_hire (l : Launch) (D : va_G) (t : Nat → Nat) (cI : ClassId) (o : Nat) (sz : Nat) (v : S1) (x : Int32) (h1 : ¬ x < 0) (h2 : ¬ 2 < x) (h3 : v.2.1 < 8) : gMi l yX1_hire (rw_ yX1_hire cX1_hire 2 (some .int)) (rm_ 1 0 0 23) [.ref o, .int x] D [(cI, .int)] t (rb_w cI o v) sz (fun r9 w' => r9 = nI v.2.1 ∧ w' = rb_w cI o ((rb_s (rb_t v 0) 2 (7 * v.2.1 + 0) x).1, v.2.1 + 1, (rb_t v 0).2.2)) := by
  refine g_of (cc := cX1_hire) (nL := 2) (rt := (some .int)) (Q := fun A => va_Qi _ (fun w' U => gQ D A w' U) A) (by decide) (Nat.le_of_ble_eq_true rfl) (fun p e s m args below meth c A ls H C hrt hnm hS hP hD hl => ?_)
  have hx := C.1
  have hb := C.2.1
  have hown := C.2.2.2.1
  have hts := C.2.2.2.2.1
  have hl : lv_has ls 2 [(0, .ref o), (1, .int x)] := hl
  refine lv_aload_n hx hb dX1_hire_0 rfl (lv_at hl 0 rfl) ?_
  refine lv_iconst (v := 0) hx hb dX1_hire_1 (by decide) ?_
  refine x1_pt C hP hD hS q59 dX1_hire_2 (fun H locs hP hD hS => ?_)
  have hP : va_P D vwCl (rb_w cI o (rb_t v 0)) H := hP
  have hD : va_D A (rb_w cI o (rb_t v 0)) := hD
  refine lv_iload_n hx hb dX1_hire_5 rfl (lv_at hl 1 rfl) ?_
  refine lv_iconst (v := 0) hx hb dX1_hire_6 (by decide) ?_
  refine lv_iconst (v := 2) hx hb dX1_hire_7 (by decide) ?_
  refine g_ci (wr := []) (cells' := 0) (slots' := 0) rfl rfl C rd_nil hD hS (g_runS (wr := []) (n := 3) (As := [.int x, .int 0, .int 2]) C (mX1_isIn l D t [(cI, .int)] (rb_w cI o (rb_t v 0)) H.size x 0 2) (rw_S q61 q62 q5 q63) kd_X1_isIn ⟨Nat.le_of_ble_eq_true rfl, Nat.le_of_ble_eq_true rfl⟩ C.2.2.2.2.2.1 hP hD hS hl.1 rfl rfl (Nat.le_of_ble_eq_true rfl) dX1_hire_8 ⟨Nat.le_of_ble_eq_true rfl, Nat.le_of_ble_eq_true rfl⟩) (fun r1 w' H locs hv _ _ hP hD hS => ?_)
  obtain ⟨rfl, rfl⟩ := hv
  have hD : va_D A (rb_w cI o (rb_t v 0)) := hD
  refine g_top (y := 1) (rb_in_1 h1 h2) ?_
  refine lv_if_ne (tgt := 20) hx hb dX1_hire_11 (by decide) (fun c2 => ?_) (fun c2 => absurd c2 (by decide))
  refine lv_aload_n hx hb dX1_hire_20 rfl (lv_at hl 0 rfl) ?_
  refine x1_gf C hP 1 (by decide) (x := .int (nI v.2.1)) rfl rfl q60 dX1_hire_21 ?_
  refine lv_bipush (v := 8) hx hb dX1_hire_24 (by decide) ?_
  refine lv_icmp_ne (tgt := 35) hx hb dX1_hire_26 (by decide) (fun c3 => ?_) (fun c3 => absurd c3 (fun h9 => absurd ((nI_eq (a := v.2.1) (b := 8) (by omega) (by omega)).mp h9) (by omega)))
  refine lv_aload_n hx hb dX1_hire_35 rfl (lv_at hl 0 rfl) ?_
  refine lv_aload_n hx hb dX1_hire_36 rfl (lv_at hl 0 rfl) ?_
  refine x1_gf C hP 1 (by decide) (x := .int (nI v.2.1)) rfl rfl q60 dX1_hire_37 ?_
  refine lv_iconst (v := 0) hx hb dX1_hire_40 (by decide) ?_
  refine lv_iload_n hx hb dX1_hire_41 rfl (lv_at hl 1 rfl) ?_
  refine g_cv (wr := []) (cells' := 0) (slots' := 0) rfl rfl C rd_nil hD hS (g_runV (wr := []) (n := 3) C (mX1_let l D t cI o H.size (rb_t v 0) v.2.1 0 (by omega) (by omega) x) (rw_V q68 q69 q70 q5 q71) kd_X1_let ⟨Nat.le_of_ble_eq_true rfl, Nat.le_of_ble_eq_true rfl⟩ (ci := 1) rfl rfl rfl C.2.2.2.2.2.1 hP hD hS hl.1 rfl rfl (Nat.le_of_ble_eq_true rfl) dX1_hire_42 ⟨Nat.le_of_ble_eq_true rfl, Nat.le_of_ble_eq_true rfl⟩) (fun w' H locs hv _ _ hP hD hS => ?_)
  subst hv
  have hD : va_D A (rb_w cI o (rb_s (rb_t v 0) 2 (7 * v.2.1 + 0) x)) := hD
  have hP : va_P D vwCl (rb_w cI o (rb_s (rb_t v 0) 2 (7 * v.2.1 + 0) x)) H := hP
  have hD : va_D A (rb_w cI o (rb_s (rb_t v 0) 2 (7 * v.2.1 + 0) x)) := hD
  refine lv_aload_n hx hb dX1_hire_45 rfl (lv_at hl 0 rfl) ?_
  refine lv_dup hx hb dX1_hire_46 rfl ?_
  refine x1_gf C hP 1 (by decide) (x := .int (nI v.2.1)) rfl rfl q60 dX1_hire_47 ?_
  refine lv_iconst (v := 1) hx hb dX1_hire_50 (by decide) ?_
  refine lv_iadd hx hb dX1_hire_51 ?_
  refine g_top (nI_add v.2.1 1) ?_
  refine x1_pn C hP hD hS (v.2.1 + 1) q60 dX1_hire_52 (fun H locs hP hD hS => ?_)
  obtain ⟨s5, es5⟩ : ∃ z : S1, z = ((rb_s (rb_t v 0) 2 (7 * v.2.1 + 0) x).1, v.2.1 + 1, (rb_s (rb_t v 0) 2 (7 * v.2.1 + 0) x).2.2) := ⟨_, rfl⟩
  have hP : va_P D vwCl (rb_w cI o s5) H := by rw [es5]; exact hP
  have hD : va_D A (rb_w cI o s5) := by rw [es5]; exact hD
  refine lv_aload_n hx hb dX1_hire_55 rfl (lv_at hl 0 rfl) ?_
  refine x1_gf C hP 1 (by decide) (x := .int (nI s5.2.1)) rfl rfl q60 dX1_hire_56 ?_
  refine lv_iconst (v := 1) hx hb dX1_hire_59 (by decide) ?_
  refine lv_isub hx hb dX1_hire_60 ?_
  exact g_iret C hrt hP hD hS dX1_hire_61 ⟨by subst es5; exact nI_pred _, by subst es5; rfl⟩
set_option maxHeartbeats 4000000 in
set_option maxRecDepth 100000 in
theorem bX1_hire1 (l : Launch) (D : va_G) (t : Nat → Nat) (cI : ClassId) (o : Nat) (sz : Nat) (v : S1) (x : Int32) (h : x < 0 ∨ 2 < x) : gMi l yX1_hire (rw_ yX1_hire cX1_hire 2 (some .int)) (rm_ 1 0 0 22) [.ref o, .int x] D [(cI, .int)] t (rb_w cI o v) sz (fun r9 w' => r9 = 0 ∧ w' = rb_w cI o (rb_t (rb_t v 0) 1)) := by
  refine g_of (cc := cX1_hire) (nL := 2) (rt := (some .int)) (Q := fun A => va_Qi _ (fun w' U => gQ D A w' U) A) (by decide) (Nat.le_of_ble_eq_true rfl) (fun p e s m args below meth c A ls H C hrt hnm hS hP hD hl => ?_)
  have hx := C.1
  have hb := C.2.1
  have hown := C.2.2.2.1
  have hts := C.2.2.2.2.1
  have hl : lv_has ls 2 [(0, .ref o), (1, .int x)] := hl
  refine lv_aload_n hx hb dX1_hire_0 rfl (lv_at hl 0 rfl) ?_
  refine lv_iconst (v := 0) hx hb dX1_hire_1 (by decide) ?_
  refine x1_pt C hP hD hS q59 dX1_hire_2 (fun H locs hP hD hS => ?_)
  have hP : va_P D vwCl (rb_w cI o (rb_t v 0)) H := hP
  have hD : va_D A (rb_w cI o (rb_t v 0)) := hD
  refine lv_iload_n hx hb dX1_hire_5 rfl (lv_at hl 1 rfl) ?_
  refine lv_iconst (v := 0) hx hb dX1_hire_6 (by decide) ?_
  refine lv_iconst (v := 2) hx hb dX1_hire_7 (by decide) ?_
  refine g_ci (wr := []) (cells' := 0) (slots' := 0) rfl rfl C rd_nil hD hS (g_runS (wr := []) (n := 3) (As := [.int x, .int 0, .int 2]) C (mX1_isIn l D t [(cI, .int)] (rb_w cI o (rb_t v 0)) H.size x 0 2) (rw_S q61 q62 q5 q63) kd_X1_isIn ⟨Nat.le_of_ble_eq_true rfl, Nat.le_of_ble_eq_true rfl⟩ C.2.2.2.2.2.1 hP hD hS hl.1 rfl rfl (Nat.le_of_ble_eq_true rfl) dX1_hire_8 ⟨Nat.le_of_ble_eq_true rfl, Nat.le_of_ble_eq_true rfl⟩) (fun r1 w' H locs hv _ _ hP hD hS => ?_)
  obtain ⟨rfl, rfl⟩ := hv
  have hD : va_D A (rb_w cI o (rb_t v 0)) := hD
  refine g_top (y := 0) (rb_in_0 h) ?_
  refine lv_if_ne (tgt := 20) hx hb dX1_hire_11 (by decide) (fun c2 => absurd c2 (by decide)) (fun c2 => ?_)
  refine lv_aload_n hx hb dX1_hire_14 rfl (lv_at hl 0 rfl) ?_
  refine lv_iconst (v := 1) hx hb dX1_hire_15 (by decide) ?_
  refine g_ci (wr := []) (cells' := 0) (slots' := 0) rfl rfl C rd_nil hD hS (g_runV (wr := []) (n := 1) C (mX1_fail l D t cI o H.size (rb_t v 0) 1) (rw_V q64 q65 q66 q5 q67) kd_X1_fail ⟨Nat.le_of_ble_eq_true rfl, Nat.le_of_ble_eq_true rfl⟩ (ci := 1) rfl rfl rfl C.2.2.2.2.2.1 hP hD hS hl.1 rfl rfl (Nat.le_of_ble_eq_true rfl) dX1_hire_16 ⟨Nat.le_of_ble_eq_true rfl, Nat.le_of_ble_eq_true rfl⟩) (fun r3 w' H locs hv _ _ hP hD hS => ?_)
  obtain ⟨rfl, rfl⟩ := hv
  have hD : va_D A (rb_w cI o (rb_t (rb_t v 0) 1)) := hD
  have hP : va_P D vwCl (rb_w cI o (rb_t (rb_t v 0) 1)) H := hP
  have hD : va_D A (rb_w cI o (rb_t (rb_t v 0) 1)) := hD
  exact g_iret C hrt hP hD hS dX1_hire_19 ⟨by skip; rfl, by skip; rfl⟩
set_option maxHeartbeats 4000000 in
set_option maxRecDepth 100000 in
theorem bX1_hire2 (l : Launch) (D : va_G) (t : Nat → Nat) (cI : ClassId) (o : Nat) (sz : Nat) (v : S1) (x : Int32) (h1 : ¬ x < 0) (h2 : ¬ 2 < x) (hn : v.2.1 = 8) : gMi l yX1_hire (rw_ yX1_hire cX1_hire 2 (some .int)) (rm_ 1 0 0 22) [.ref o, .int x] D [(cI, .int)] t (rb_w cI o v) sz (fun r9 w' => r9 = 0 ∧ w' = rb_w cI o (rb_t (rb_t v 0) 2)) := by
  refine g_of (cc := cX1_hire) (nL := 2) (rt := (some .int)) (Q := fun A => va_Qi _ (fun w' U => gQ D A w' U) A) (by decide) (Nat.le_of_ble_eq_true rfl) (fun p e s m args below meth c A ls H C hrt hnm hS hP hD hl => ?_)
  have hx := C.1
  have hb := C.2.1
  have hown := C.2.2.2.1
  have hts := C.2.2.2.2.1
  have hl : lv_has ls 2 [(0, .ref o), (1, .int x)] := hl
  refine lv_aload_n hx hb dX1_hire_0 rfl (lv_at hl 0 rfl) ?_
  refine lv_iconst (v := 0) hx hb dX1_hire_1 (by decide) ?_
  refine x1_pt C hP hD hS q59 dX1_hire_2 (fun H locs hP hD hS => ?_)
  have hP : va_P D vwCl (rb_w cI o (rb_t v 0)) H := hP
  have hD : va_D A (rb_w cI o (rb_t v 0)) := hD
  refine lv_iload_n hx hb dX1_hire_5 rfl (lv_at hl 1 rfl) ?_
  refine lv_iconst (v := 0) hx hb dX1_hire_6 (by decide) ?_
  refine lv_iconst (v := 2) hx hb dX1_hire_7 (by decide) ?_
  refine g_ci (wr := []) (cells' := 0) (slots' := 0) rfl rfl C rd_nil hD hS (g_runS (wr := []) (n := 3) (As := [.int x, .int 0, .int 2]) C (mX1_isIn l D t [(cI, .int)] (rb_w cI o (rb_t v 0)) H.size x 0 2) (rw_S q61 q62 q5 q63) kd_X1_isIn ⟨Nat.le_of_ble_eq_true rfl, Nat.le_of_ble_eq_true rfl⟩ C.2.2.2.2.2.1 hP hD hS hl.1 rfl rfl (Nat.le_of_ble_eq_true rfl) dX1_hire_8 ⟨Nat.le_of_ble_eq_true rfl, Nat.le_of_ble_eq_true rfl⟩) (fun r1 w' H locs hv _ _ hP hD hS => ?_)
  obtain ⟨rfl, rfl⟩ := hv
  have hD : va_D A (rb_w cI o (rb_t v 0)) := hD
  refine g_top (y := 1) (rb_in_1 h1 h2) ?_
  refine lv_if_ne (tgt := 20) hx hb dX1_hire_11 (by decide) (fun c2 => ?_) (fun c2 => absurd c2 (by decide))
  refine lv_aload_n hx hb dX1_hire_20 rfl (lv_at hl 0 rfl) ?_
  refine x1_gf C hP 1 (by decide) (x := .int (nI v.2.1)) rfl rfl q60 dX1_hire_21 ?_
  refine lv_bipush (v := 8) hx hb dX1_hire_24 (by decide) ?_
  refine lv_icmp_ne (tgt := 35) hx hb dX1_hire_26 (by decide) (fun c3 => absurd ((nI_eq (a := v.2.1) (b := 8) (by omega) (by omega)).mpr (by omega)) c3) (fun c3 => ?_)
  refine lv_aload_n hx hb dX1_hire_29 rfl (lv_at hl 0 rfl) ?_
  refine lv_iconst (v := 2) hx hb dX1_hire_30 (by decide) ?_
  refine g_ci (wr := []) (cells' := 0) (slots' := 0) rfl rfl C rd_nil hD hS (g_runV (wr := []) (n := 1) C (mX1_fail l D t cI o H.size (rb_t v 0) 2) (rw_V q64 q65 q66 q5 q67) kd_X1_fail ⟨Nat.le_of_ble_eq_true rfl, Nat.le_of_ble_eq_true rfl⟩ (ci := 1) rfl rfl rfl C.2.2.2.2.2.1 hP hD hS hl.1 rfl rfl (Nat.le_of_ble_eq_true rfl) dX1_hire_31 ⟨Nat.le_of_ble_eq_true rfl, Nat.le_of_ble_eq_true rfl⟩) (fun r4 w' H locs hv _ _ hP hD hS => ?_)
  obtain ⟨rfl, rfl⟩ := hv
  have hD : va_D A (rb_w cI o (rb_t (rb_t v 0) 2)) := hD
  have hP : va_P D vwCl (rb_w cI o (rb_t (rb_t v 0) 2)) H := hP
  have hD : va_D A (rb_w cI o (rb_t (rb_t v 0) 2)) := hD
  exact g_iret C hrt hP hD hS dX1_hire_34 ⟨by skip; rfl, by skip; rfl⟩
theorem kd_X1_setRate : yX1_setRate.cls = yX1_setRate.cls ∧ yX1_setRate.cls ≠ "java/lang/invoke/MethodHandle" ∧ yX1_setRate.cls ≠ "java/lang/invoke/VarHandle" ∧ (parseMethodDescriptor yX1_setRate.desc).map (fun d => d.parameters.length) = some 2 := by decide +kernel
set_option maxHeartbeats 4000000 in
set_option maxRecDepth 100000 in
theorem oX1_setRate (l : Launch) (D : va_G) (t : Nat → Nat) (cI : ClassId) (o : Nat) (sz : Nat) (v : S1) (k : Nat) (hk5 : k < 5) (x : Int32) (h1 : ¬ x < rt_RX1_LOW k) (h2 : ¬ rt_RX1_HIGH k < x) : gMi l yX1_setRate (rw_ yX1_setRate cX1_setRate 4 (some .int)) (rm_ 2 0 0 42) [.ref o, .int (nI k), .int x] D [(cI, .int)] t (rb_w cI o v) sz (fun r9 w' => r9 = v.1 0 k ∧ w' = rb_w cI o (rb_s (rb_t v 0) 0 k x)) := by
  refine g_of (cc := cX1_setRate) (nL := 4) (rt := (some .int)) (Q := fun A => va_Qi _ (fun w' U => gQ D A w' U) A) (by decide) (Nat.le_of_ble_eq_true rfl) (fun p e s m args below meth c A ls H C hrt hnm hS hP hD hl => ?_)
  have hx := C.1
  have hb := C.2.1
  have hown := C.2.2.2.1
  have hts := C.2.2.2.2.1
  have hl : lv_has ls 4 [(0, .ref o), (1, .int (nI k)), (2, .int x)] := hl
  refine lv_aload_n hx hb dX1_setRate_0 rfl (lv_at hl 0 rfl) ?_
  refine lv_iconst (v := 0) hx hb dX1_setRate_1 (by decide) ?_
  refine x1_pt C hP hD hS q59 dX1_setRate_2 (fun H locs hP hD hS => ?_)
  have hP : va_P D vwCl (rb_w cI o (rb_t v 0)) H := hP
  have hD : va_D A (rb_w cI o (rb_t v 0)) := hD
  refine lv_iload_n hx hb dX1_setRate_5 rfl (lv_at hl 1 rfl) ?_
  refine g_ci (wr := []) (cells' := 0) (slots' := 0) rfl rfl C rd_nil hD hS (g_runS (wr := []) (n := 1) (As := [.int (nI k)]) C (mX1_isRate l D t cI o H.size (rb_t v 0) (nI k)) (rw_S q96 q97 q5 q98) kd_X1_isRate ⟨Nat.le_of_ble_eq_true rfl, Nat.le_of_ble_eq_true rfl⟩ C.2.2.2.2.2.1 hP hD hS hl.1 rfl rfl (Nat.le_of_ble_eq_true rfl) dX1_setRate_6 ⟨Nat.le_of_ble_eq_true rfl, Nat.le_of_ble_eq_true rfl⟩) (fun r1 w' H locs hv _ _ hP hD hS => ?_)
  obtain ⟨rfl, rfl⟩ := hv
  have hD : va_D A (rb_w cI o (rb_t v 0)) := hD
  refine g_top (y := 1) (rb_kY (n := 4) (by decide) hk5) ?_
  refine lv_if_ne (tgt := 18) hx hb dX1_setRate_9 (by decide) (fun c2 => ?_) (fun c2 => absurd c2 (by decide))
  refine lv_iload_n hx hb dX1_setRate_18 rfl (lv_at hl 2 rfl) ?_
  refine g_gs C hS (C.2.2.2.2.2.2.2.1.2.2.2.2.2.2.1) q94 dX1_setRate_19 ?_
  refine lv_iload_n hx hb dX1_setRate_22 rfl (lv_at hl 1 rfl) ?_
  refine g_ti C hS (N := 5) (i := k) (f := rt_RX1_LOW) C.2.2.2.2.2.2.2.1.2.2.2.2.2.2.2.1 (by decide) hk5 rfl dX1_setRate_23 ?_
  refine g_gs C hS (C.2.2.2.2.2.2.2.1.2.2.2.2.2.2.2.2.1) q95 dX1_setRate_24 ?_
  refine lv_iload_n hx hb dX1_setRate_27 rfl (lv_at hl 1 rfl) ?_
  refine g_ti C hS (N := 5) (i := k) (f := rt_RX1_HIGH) C.2.2.2.2.2.2.2.1.2.2.2.2.2.2.2.2.2.1 (by decide) hk5 rfl dX1_setRate_28 ?_
  refine g_ci (wr := []) (cells' := 0) (slots' := 0) rfl rfl C rd_nil hD hS (g_runS (wr := []) (n := 3) (As := [.int x, .int (rt_RX1_LOW k), .int (rt_RX1_HIGH k)]) C (mX1_isIn l D t [(cI, .int)] (rb_w cI o (rb_t v 0)) H.size x (rt_RX1_LOW k) (rt_RX1_HIGH k)) (rw_S q61 q62 q5 q63) kd_X1_isIn ⟨Nat.le_of_ble_eq_true rfl, Nat.le_of_ble_eq_true rfl⟩ C.2.2.2.2.2.1 hP hD hS hl.1 rfl rfl (Nat.le_of_ble_eq_true rfl) dX1_setRate_29 ⟨Nat.le_of_ble_eq_true rfl, Nat.le_of_ble_eq_true rfl⟩) (fun r3 w' H locs hv _ _ hP hD hS => ?_)
  obtain ⟨rfl, rfl⟩ := hv
  have hD : va_D A (rb_w cI o (rb_t v 0)) := hD
  refine g_top (y := 1) (rb_in_1 h1 h2) ?_
  refine lv_if_ne (tgt := 41) hx hb dX1_setRate_32 (by decide) (fun c4 => ?_) (fun c4 => absurd c4 (by decide))
  refine lv_aload_n hx hb dX1_setRate_41 rfl (lv_at hl 0 rfl) ?_
  refine x1_gf C hP 3 (by decide) (x := .ref ((rb_t v 0).2.2.2.2 0)) rfl rfl q30 dX1_setRate_42 ?_
  refine lv_iload_n hx hb dX1_setRate_45 rfl (lv_at hl 1 rfl) ?_
  refine x1_ld C hP (k := 0) (i := k) (by decide) (show k < 5 by omega) rfl dX1_setRate_46 ?_
  refine lv_topi (fun v5 ev5 => ?_)
  refine lv_istore_n (lv' := [(3, .int v5), (0, .ref o), (1, .int (nI k)), (2, .int x)]) hx hb dX1_setRate_47 rfl hl (by decide) rfl (fun ls hl => ?_)
  refine lv_aload_n hx hb dX1_setRate_48 rfl (lv_at hl 1 rfl) ?_
  refine x1_gf C hP 3 (by decide) (x := .ref ((rb_t v 0).2.2.2.2 0)) rfl rfl q30 dX1_setRate_49 ?_
  refine lv_iload_n hx hb dX1_setRate_52 rfl (lv_at hl 2 rfl) ?_
  refine lv_iload_n hx hb dX1_setRate_53 rfl (lv_at hl 3 rfl) ?_
  refine x1_st C hP hD hS (k := 0) (i := k) (by decide) (show k < 5 by omega) rfl dX1_setRate_54 (fun H locs hP hD hS => ?_)
  have hP : va_P D vwCl (rb_w cI o (rb_s (rb_t v 0) 0 k x)) H := hP
  have hD : va_D A (rb_w cI o (rb_s (rb_t v 0) 0 k x)) := hD
  refine lv_iload_n hx hb dX1_setRate_55 rfl (lv_at hl 0 rfl) ?_
  exact g_iret C hrt hP hD hS dX1_setRate_56 ⟨by subst ev5; rfl, by subst ev5; rfl⟩
set_option maxHeartbeats 4000000 in
set_option maxRecDepth 100000 in
theorem bX1_setRate1 (l : Launch) (D : va_G) (t : Nat → Nat) (cI : ClassId) (o : Nat) (sz : Nat) (v : S1) (x0 x : Int32) (h : x0 < 0 ∨ 5 ≤ x0) : gMi l yX1_setRate (rw_ yX1_setRate cX1_setRate 4 (some .int)) (rm_ 2 0 0 42) [.ref o, .int x0, .int x] D [(cI, .int)] t (rb_w cI o v) sz (fun r9 w' => r9 = 0 ∧ w' = rb_w cI o (rb_t (rb_t v 0) 1)) := by
  refine g_of (cc := cX1_setRate) (nL := 4) (rt := (some .int)) (Q := fun A => va_Qi _ (fun w' U => gQ D A w' U) A) (by decide) (Nat.le_of_ble_eq_true rfl) (fun p e s m args below meth c A ls H C hrt hnm hS hP hD hl => ?_)
  have hx := C.1
  have hb := C.2.1
  have hown := C.2.2.2.1
  have hts := C.2.2.2.2.1
  have hl : lv_has ls 4 [(0, .ref o), (1, .int x0), (2, .int x)] := hl
  refine lv_aload_n hx hb dX1_setRate_0 rfl (lv_at hl 0 rfl) ?_
  refine lv_iconst (v := 0) hx hb dX1_setRate_1 (by decide) ?_
  refine x1_pt C hP hD hS q59 dX1_setRate_2 (fun H locs hP hD hS => ?_)
  have hP : va_P D vwCl (rb_w cI o (rb_t v 0)) H := hP
  have hD : va_D A (rb_w cI o (rb_t v 0)) := hD
  refine lv_iload_n hx hb dX1_setRate_5 rfl (lv_at hl 1 rfl) ?_
  refine g_ci (wr := []) (cells' := 0) (slots' := 0) rfl rfl C rd_nil hD hS (g_runS (wr := []) (n := 1) (As := [.int x0]) C (mX1_isRate l D t cI o H.size (rb_t v 0) x0) (rw_S q96 q97 q5 q98) kd_X1_isRate ⟨Nat.le_of_ble_eq_true rfl, Nat.le_of_ble_eq_true rfl⟩ C.2.2.2.2.2.1 hP hD hS hl.1 rfl rfl (Nat.le_of_ble_eq_true rfl) dX1_setRate_6 ⟨Nat.le_of_ble_eq_true rfl, Nat.le_of_ble_eq_true rfl⟩) (fun r1 w' H locs hv _ _ hP hD hS => ?_)
  obtain ⟨rfl, rfl⟩ := hv
  have hD : va_D A (rb_w cI o (rb_t v 0)) := hD
  refine g_top (y := 0) (rb_kN (n := 4) (by decide) h) ?_
  refine lv_if_ne (tgt := 18) hx hb dX1_setRate_9 (by decide) (fun c2 => absurd c2 (by decide)) (fun c2 => ?_)
  refine lv_aload_n hx hb dX1_setRate_12 rfl (lv_at hl 0 rfl) ?_
  refine lv_iconst (v := 1) hx hb dX1_setRate_13 (by decide) ?_
  refine g_ci (wr := []) (cells' := 0) (slots' := 0) rfl rfl C rd_nil hD hS (g_runV (wr := []) (n := 1) C (mX1_fail l D t cI o H.size (rb_t v 0) 1) (rw_V q64 q65 q66 q5 q67) kd_X1_fail ⟨Nat.le_of_ble_eq_true rfl, Nat.le_of_ble_eq_true rfl⟩ (ci := 1) rfl rfl rfl C.2.2.2.2.2.1 hP hD hS hl.1 rfl rfl (Nat.le_of_ble_eq_true rfl) dX1_setRate_14 ⟨Nat.le_of_ble_eq_true rfl, Nat.le_of_ble_eq_true rfl⟩) (fun r3 w' H locs hv _ _ hP hD hS => ?_)
  obtain ⟨rfl, rfl⟩ := hv
  have hD : va_D A (rb_w cI o (rb_t (rb_t v 0) 1)) := hD
  have hP : va_P D vwCl (rb_w cI o (rb_t (rb_t v 0) 1)) H := hP
  have hD : va_D A (rb_w cI o (rb_t (rb_t v 0) 1)) := hD
  exact g_iret C hrt hP hD hS dX1_setRate_17 ⟨by skip; rfl, by skip; rfl⟩
set_option maxHeartbeats 4000000 in
set_option maxRecDepth 100000 in
theorem bX1_setRate2 (l : Launch) (D : va_G) (t : Nat → Nat) (cI : ClassId) (o : Nat) (sz : Nat) (v : S1) (k : Nat) (hk5 : k < 5) (x : Int32) (h : x < rt_RX1_LOW k ∨ rt_RX1_HIGH k < x) : gMi l yX1_setRate (rw_ yX1_setRate cX1_setRate 4 (some .int)) (rm_ 2 0 0 42) [.ref o, .int (nI k), .int x] D [(cI, .int)] t (rb_w cI o v) sz (fun r9 w' => r9 = 0 ∧ w' = rb_w cI o (rb_t (rb_t v 0) 2)) := by
  refine g_of (cc := cX1_setRate) (nL := 4) (rt := (some .int)) (Q := fun A => va_Qi _ (fun w' U => gQ D A w' U) A) (by decide) (Nat.le_of_ble_eq_true rfl) (fun p e s m args below meth c A ls H C hrt hnm hS hP hD hl => ?_)
  have hx := C.1
  have hb := C.2.1
  have hown := C.2.2.2.1
  have hts := C.2.2.2.2.1
  have hl : lv_has ls 4 [(0, .ref o), (1, .int (nI k)), (2, .int x)] := hl
  refine lv_aload_n hx hb dX1_setRate_0 rfl (lv_at hl 0 rfl) ?_
  refine lv_iconst (v := 0) hx hb dX1_setRate_1 (by decide) ?_
  refine x1_pt C hP hD hS q59 dX1_setRate_2 (fun H locs hP hD hS => ?_)
  have hP : va_P D vwCl (rb_w cI o (rb_t v 0)) H := hP
  have hD : va_D A (rb_w cI o (rb_t v 0)) := hD
  refine lv_iload_n hx hb dX1_setRate_5 rfl (lv_at hl 1 rfl) ?_
  refine g_ci (wr := []) (cells' := 0) (slots' := 0) rfl rfl C rd_nil hD hS (g_runS (wr := []) (n := 1) (As := [.int (nI k)]) C (mX1_isRate l D t cI o H.size (rb_t v 0) (nI k)) (rw_S q96 q97 q5 q98) kd_X1_isRate ⟨Nat.le_of_ble_eq_true rfl, Nat.le_of_ble_eq_true rfl⟩ C.2.2.2.2.2.1 hP hD hS hl.1 rfl rfl (Nat.le_of_ble_eq_true rfl) dX1_setRate_6 ⟨Nat.le_of_ble_eq_true rfl, Nat.le_of_ble_eq_true rfl⟩) (fun r1 w' H locs hv _ _ hP hD hS => ?_)
  obtain ⟨rfl, rfl⟩ := hv
  have hD : va_D A (rb_w cI o (rb_t v 0)) := hD
  refine g_top (y := 1) (rb_kY (n := 4) (by decide) hk5) ?_
  refine lv_if_ne (tgt := 18) hx hb dX1_setRate_9 (by decide) (fun c2 => ?_) (fun c2 => absurd c2 (by decide))
  refine lv_iload_n hx hb dX1_setRate_18 rfl (lv_at hl 2 rfl) ?_
  refine g_gs C hS (C.2.2.2.2.2.2.2.1.2.2.2.2.2.2.1) q94 dX1_setRate_19 ?_
  refine lv_iload_n hx hb dX1_setRate_22 rfl (lv_at hl 1 rfl) ?_
  refine g_ti C hS (N := 5) (i := k) (f := rt_RX1_LOW) C.2.2.2.2.2.2.2.1.2.2.2.2.2.2.2.1 (by decide) hk5 rfl dX1_setRate_23 ?_
  refine g_gs C hS (C.2.2.2.2.2.2.2.1.2.2.2.2.2.2.2.2.1) q95 dX1_setRate_24 ?_
  refine lv_iload_n hx hb dX1_setRate_27 rfl (lv_at hl 1 rfl) ?_
  refine g_ti C hS (N := 5) (i := k) (f := rt_RX1_HIGH) C.2.2.2.2.2.2.2.1.2.2.2.2.2.2.2.2.2.1 (by decide) hk5 rfl dX1_setRate_28 ?_
  refine g_ci (wr := []) (cells' := 0) (slots' := 0) rfl rfl C rd_nil hD hS (g_runS (wr := []) (n := 3) (As := [.int x, .int (rt_RX1_LOW k), .int (rt_RX1_HIGH k)]) C (mX1_isIn l D t [(cI, .int)] (rb_w cI o (rb_t v 0)) H.size x (rt_RX1_LOW k) (rt_RX1_HIGH k)) (rw_S q61 q62 q5 q63) kd_X1_isIn ⟨Nat.le_of_ble_eq_true rfl, Nat.le_of_ble_eq_true rfl⟩ C.2.2.2.2.2.1 hP hD hS hl.1 rfl rfl (Nat.le_of_ble_eq_true rfl) dX1_setRate_29 ⟨Nat.le_of_ble_eq_true rfl, Nat.le_of_ble_eq_true rfl⟩) (fun r3 w' H locs hv _ _ hP hD hS => ?_)
  obtain ⟨rfl, rfl⟩ := hv
  have hD : va_D A (rb_w cI o (rb_t v 0)) := hD
  refine g_top (y := 0) (rb_in_0 h) ?_
  refine lv_if_ne (tgt := 41) hx hb dX1_setRate_32 (by decide) (fun c4 => absurd c4 (by decide)) (fun c4 => ?_)
  refine lv_aload_n hx hb dX1_setRate_35 rfl (lv_at hl 0 rfl) ?_
  refine lv_iconst (v := 2) hx hb dX1_setRate_36 (by decide) ?_
  refine g_ci (wr := []) (cells' := 0) (slots' := 0) rfl rfl C rd_nil hD hS (g_runV (wr := []) (n := 1) C (mX1_fail l D t cI o H.size (rb_t v 0) 2) (rw_V q64 q65 q66 q5 q67) kd_X1_fail ⟨Nat.le_of_ble_eq_true rfl, Nat.le_of_ble_eq_true rfl⟩ (ci := 1) rfl rfl rfl C.2.2.2.2.2.1 hP hD hS hl.1 rfl rfl (Nat.le_of_ble_eq_true rfl) dX1_setRate_37 ⟨Nat.le_of_ble_eq_true rfl, Nat.le_of_ble_eq_true rfl⟩) (fun r5 w' H locs hv _ _ hP hD hS => ?_)
  obtain ⟨rfl, rfl⟩ := hv
  have hD : va_D A (rb_w cI o (rb_t (rb_t v 0) 2)) := hD
  have hP : va_P D vwCl (rb_w cI o (rb_t (rb_t v 0) 2)) H := hP
  have hD : va_D A (rb_w cI o (rb_t (rb_t v 0) 2)) := hD
  exact g_iret C hrt hP hD hS dX1_setRate_40 ⟨by skip; rfl, by skip; rfl⟩
theorem kd_X1_rate : yX1_rate.cls = yX1_rate.cls ∧ yX1_rate.cls ≠ "java/lang/invoke/MethodHandle" ∧ yX1_rate.cls ≠ "java/lang/invoke/VarHandle" ∧ (parseMethodDescriptor yX1_rate.desc).map (fun d => d.parameters.length) = some 1 := by decide +kernel
set_option maxHeartbeats 4000000 in
set_option maxRecDepth 100000 in
theorem oX1_rate (l : Launch) (D : va_G) (t : Nat → Nat) (cI : ClassId) (o : Nat) (sz : Nat) (v : S1) (k : Nat) (hk5 : k < 5) : gMi l yX1_rate (rw_ yX1_rate cX1_rate 2 (some .int)) (rm_ 2 0 0 42) [.ref o, .int (nI k)] D [(cI, .int)] t (rb_w cI o v) sz (fun r9 w' => r9 = v.1 0 k ∧ w' = rb_w cI o (rb_t v 0)) := by
  refine g_of (cc := cX1_rate) (nL := 2) (rt := (some .int)) (Q := fun A => va_Qi _ (fun w' U => gQ D A w' U) A) (by decide) (Nat.le_of_ble_eq_true rfl) (fun p e s m args below meth c A ls H C hrt hnm hS hP hD hl => ?_)
  have hx := C.1
  have hb := C.2.1
  have hown := C.2.2.2.1
  have hts := C.2.2.2.2.1
  have hl : lv_has ls 2 [(0, .ref o), (1, .int (nI k))] := hl
  refine lv_aload_n hx hb dX1_rate_0 rfl (lv_at hl 0 rfl) ?_
  refine lv_iconst (v := 0) hx hb dX1_rate_1 (by decide) ?_
  refine x1_pt C hP hD hS q59 dX1_rate_2 (fun H locs hP hD hS => ?_)
  have hP : va_P D vwCl (rb_w cI o (rb_t v 0)) H := hP
  have hD : va_D A (rb_w cI o (rb_t v 0)) := hD
  refine lv_iload_n hx hb dX1_rate_5 rfl (lv_at hl 1 rfl) ?_
  refine g_ci (wr := []) (cells' := 0) (slots' := 0) rfl rfl C rd_nil hD hS (g_runS (wr := []) (n := 1) (As := [.int (nI k)]) C (mX1_isRate l D t cI o H.size (rb_t v 0) (nI k)) (rw_S q96 q97 q5 q98) kd_X1_isRate ⟨Nat.le_of_ble_eq_true rfl, Nat.le_of_ble_eq_true rfl⟩ C.2.2.2.2.2.1 hP hD hS hl.1 rfl rfl (Nat.le_of_ble_eq_true rfl) dX1_rate_6 ⟨Nat.le_of_ble_eq_true rfl, Nat.le_of_ble_eq_true rfl⟩) (fun r1 w' H locs hv _ _ hP hD hS => ?_)
  obtain ⟨rfl, rfl⟩ := hv
  have hD : va_D A (rb_w cI o (rb_t v 0)) := hD
  refine g_top (y := 1) (rb_kY (n := 4) (by decide) hk5) ?_
  refine lv_if_eq (tgt := 21) hx hb dX1_rate_9 (by decide) (fun c2 => absurd c2 (by decide)) (fun c2 => ?_)
  refine lv_aload_n hx hb dX1_rate_12 rfl (lv_at hl 0 rfl) ?_
  refine x1_gf C hP 3 (by decide) (x := .ref ((rb_t v 0).2.2.2.2 0)) rfl rfl q30 dX1_rate_13 ?_
  refine lv_iload_n hx hb dX1_rate_16 rfl (lv_at hl 1 rfl) ?_
  refine x1_ld C hP (k := 0) (i := k) (by decide) (show k < 5 by omega) rfl dX1_rate_17 ?_
  refine lv_goto (tgt := 26) hx hb dX1_rate_18 (by decide) ?_
  exact g_iret C hrt hP hD hS dX1_rate_26 ⟨by skip; rfl, by skip; rfl⟩
set_option maxHeartbeats 4000000 in
set_option maxRecDepth 100000 in
theorem bX1_rate1 (l : Launch) (D : va_G) (t : Nat → Nat) (cI : ClassId) (o : Nat) (sz : Nat) (v : S1) (x0 : Int32) (h : x0 < 0 ∨ 5 ≤ x0) : gMi l yX1_rate (rw_ yX1_rate cX1_rate 2 (some .int)) (rm_ 2 0 0 42) [.ref o, .int x0] D [(cI, .int)] t (rb_w cI o v) sz (fun r9 w' => r9 = 0 ∧ w' = rb_w cI o (rb_t (rb_t v 0) 1)) := by
  refine g_of (cc := cX1_rate) (nL := 2) (rt := (some .int)) (Q := fun A => va_Qi _ (fun w' U => gQ D A w' U) A) (by decide) (Nat.le_of_ble_eq_true rfl) (fun p e s m args below meth c A ls H C hrt hnm hS hP hD hl => ?_)
  have hx := C.1
  have hb := C.2.1
  have hown := C.2.2.2.1
  have hts := C.2.2.2.2.1
  have hl : lv_has ls 2 [(0, .ref o), (1, .int x0)] := hl
  refine lv_aload_n hx hb dX1_rate_0 rfl (lv_at hl 0 rfl) ?_
  refine lv_iconst (v := 0) hx hb dX1_rate_1 (by decide) ?_
  refine x1_pt C hP hD hS q59 dX1_rate_2 (fun H locs hP hD hS => ?_)
  have hP : va_P D vwCl (rb_w cI o (rb_t v 0)) H := hP
  have hD : va_D A (rb_w cI o (rb_t v 0)) := hD
  refine lv_iload_n hx hb dX1_rate_5 rfl (lv_at hl 1 rfl) ?_
  refine g_ci (wr := []) (cells' := 0) (slots' := 0) rfl rfl C rd_nil hD hS (g_runS (wr := []) (n := 1) (As := [.int x0]) C (mX1_isRate l D t cI o H.size (rb_t v 0) x0) (rw_S q96 q97 q5 q98) kd_X1_isRate ⟨Nat.le_of_ble_eq_true rfl, Nat.le_of_ble_eq_true rfl⟩ C.2.2.2.2.2.1 hP hD hS hl.1 rfl rfl (Nat.le_of_ble_eq_true rfl) dX1_rate_6 ⟨Nat.le_of_ble_eq_true rfl, Nat.le_of_ble_eq_true rfl⟩) (fun r1 w' H locs hv _ _ hP hD hS => ?_)
  obtain ⟨rfl, rfl⟩ := hv
  have hD : va_D A (rb_w cI o (rb_t v 0)) := hD
  refine g_top (y := 0) (rb_kN (n := 4) (by decide) h) ?_
  refine lv_if_eq (tgt := 21) hx hb dX1_rate_9 (by decide) (fun c2 => ?_) (fun c2 => absurd (by decide) c2)
  refine lv_aload_n hx hb dX1_rate_21 rfl (lv_at hl 0 rfl) ?_
  refine lv_iconst (v := 1) hx hb dX1_rate_22 (by decide) ?_
  refine g_ci (wr := []) (cells' := 0) (slots' := 0) rfl rfl C rd_nil hD hS (g_runV (wr := []) (n := 1) C (mX1_fail l D t cI o H.size (rb_t v 0) 1) (rw_V q64 q65 q66 q5 q67) kd_X1_fail ⟨Nat.le_of_ble_eq_true rfl, Nat.le_of_ble_eq_true rfl⟩ (ci := 1) rfl rfl rfl C.2.2.2.2.2.1 hP hD hS hl.1 rfl rfl (Nat.le_of_ble_eq_true rfl) dX1_rate_23 ⟨Nat.le_of_ble_eq_true rfl, Nat.le_of_ble_eq_true rfl⟩) (fun r3 w' H locs hv _ _ hP hD hS => ?_)
  obtain ⟨rfl, rfl⟩ := hv
  have hD : va_D A (rb_w cI o (rb_t (rb_t v 0) 1)) := hD
  have hP : va_P D vwCl (rb_w cI o (rb_t (rb_t v 0) 1)) H := hP
  have hD : va_D A (rb_w cI o (rb_t (rb_t v 0) 1)) := hD
  exact g_iret C hrt hP hD hS dX1_rate_26 ⟨by skip; rfl, by skip; rfl⟩
theorem kd_X1_bind : yX1_bind.cls = yX1_bind.cls ∧ yX1_bind.cls ≠ "java/lang/invoke/MethodHandle" ∧ yX1_bind.cls ≠ "java/lang/invoke/VarHandle" ∧ (parseMethodDescriptor yX1_bind.desc).map (fun d => d.parameters.length) = some 2 := by decide +kernel
set_option maxHeartbeats 4000000 in
set_option maxRecDepth 100000 in
theorem oX1_bind (l : Launch) (D : va_G) (t : Nat → Nat) (cI : ClassId) (o : Nat) (sz : Nat) (v : S1) (hn : v.2.1 ≤ 8) (r : Nat) (hr : r < v.2.1) (x : Int32) (h1 : ¬ x < 1) (h2 : ¬ 999 < x) : gMi l yX1_bind (rw_ yX1_bind cX1_bind 3 (some .int)) (rm_ 2 0 0 43) [.ref o, .int (nI r), .int x] D [(cI, .int)] t (rb_w cI o v) sz (fun r9 w' => r9 = v.1 2 (7 * r + 1) + x ∧ w' = rb_w cI o (rb_s (rb_t v 0) 2 (7 * r + 1) (v.1 2 (7 * r + 1) + x))) := by
  refine g_of (cc := cX1_bind) (nL := 3) (rt := (some .int)) (Q := fun A => va_Qi _ (fun w' U => gQ D A w' U) A) (by decide) (Nat.le_of_ble_eq_true rfl) (fun p e s m args below meth c A ls H C hrt hnm hS hP hD hl => ?_)
  have hx := C.1
  have hb := C.2.1
  have hown := C.2.2.2.1
  have hts := C.2.2.2.2.1
  have hl : lv_has ls 3 [(0, .ref o), (1, .int (nI r)), (2, .int x)] := hl
  refine lv_aload_n hx hb dX1_bind_0 rfl (lv_at hl 0 rfl) ?_
  refine lv_iconst (v := 0) hx hb dX1_bind_1 (by decide) ?_
  refine x1_pt C hP hD hS q59 dX1_bind_2 (fun H locs hP hD hS => ?_)
  have hP : va_P D vwCl (rb_w cI o (rb_t v 0)) H := hP
  have hD : va_D A (rb_w cI o (rb_t v 0)) := hD
  refine lv_aload_n hx hb dX1_bind_5 rfl (lv_at hl 0 rfl) ?_
  refine lv_iload_n hx hb dX1_bind_6 rfl (lv_at hl 1 rfl) ?_
  refine g_ci (wr := []) (cells' := 0) (slots' := 0) rfl rfl C rd_nil hD hS (g_runV (wr := []) (n := 1) C (mX1_isReaper l D t cI o H.size (rb_t v 0) (nI r)) (rw_V q124 q125 q126 q5 q127) kd_X1_isReaper ⟨Nat.le_of_ble_eq_true rfl, Nat.le_of_ble_eq_true rfl⟩ (ci := 1) rfl rfl rfl C.2.2.2.2.2.1 hP hD hS hl.1 rfl rfl (Nat.le_of_ble_eq_true rfl) dX1_bind_7 ⟨Nat.le_of_ble_eq_true rfl, Nat.le_of_ble_eq_true rfl⟩) (fun r1 w' H locs hv _ _ hP hD hS => ?_)
  obtain ⟨rfl, rfl⟩ := hv
  have hD : va_D A (rb_w cI o (rb_t v 0)) := hD
  refine g_top (y := 1) (rb_reY hn hr) ?_
  refine lv_if_ne (tgt := 19) hx hb dX1_bind_10 (by decide) (fun c2 => ?_) (fun c2 => absurd c2 (by decide))
  refine lv_iload_n hx hb dX1_bind_19 rfl (lv_at hl 2 rfl) ?_
  refine lv_iconst (v := 1) hx hb dX1_bind_20 (by decide) ?_
  refine lv_sipush (v := 999) hx hb dX1_bind_21 (by decide) ?_
  refine g_ci (wr := []) (cells' := 0) (slots' := 0) rfl rfl C rd_nil hD hS (g_runS (wr := []) (n := 3) (As := [.int x, .int 1, .int 999]) C (mX1_isIn l D t [(cI, .int)] (rb_w cI o (rb_t v 0)) H.size x 1 999) (rw_S q61 q62 q5 q63) kd_X1_isIn ⟨Nat.le_of_ble_eq_true rfl, Nat.le_of_ble_eq_true rfl⟩ C.2.2.2.2.2.1 hP hD hS hl.1 rfl rfl (Nat.le_of_ble_eq_true rfl) dX1_bind_24 ⟨Nat.le_of_ble_eq_true rfl, Nat.le_of_ble_eq_true rfl⟩) (fun r3 w' H locs hv _ _ hP hD hS => ?_)
  obtain ⟨rfl, rfl⟩ := hv
  have hD : va_D A (rb_w cI o (rb_t v 0)) := hD
  refine g_top (y := 1) (rb_in_1 h1 h2) ?_
  refine lv_if_ne (tgt := 36) hx hb dX1_bind_27 (by decide) (fun c4 => ?_) (fun c4 => absurd c4 (by decide))
  refine lv_aload_n hx hb dX1_bind_36 rfl (lv_at hl 0 rfl) ?_
  refine lv_iload_n hx hb dX1_bind_37 rfl (lv_at hl 1 rfl) ?_
  refine lv_iconst (v := 1) hx hb dX1_bind_38 (by decide) ?_
  refine lv_aload_n hx hb dX1_bind_39 rfl (lv_at hl 0 rfl) ?_
  refine lv_iload_n hx hb dX1_bind_40 rfl (lv_at hl 1 rfl) ?_
  refine lv_iconst (v := 1) hx hb dX1_bind_41 (by decide) ?_
  refine g_ci (wr := []) (cells' := 0) (slots' := 0) rfl rfl C rd_nil hD hS (g_runV (wr := []) (n := 2) C (mX1_re l D t cI o H.size (rb_t v 0) r 1 (by omega) (by omega)) (rw_V q128 q129 q130 q5 q131) kd_X1_re ⟨Nat.le_of_ble_eq_true rfl, Nat.le_of_ble_eq_true rfl⟩ (ci := 1) rfl rfl rfl C.2.2.2.2.2.1 hP hD hS hl.1 rfl rfl (Nat.le_of_ble_eq_true rfl) dX1_bind_42 ⟨Nat.le_of_ble_eq_true rfl, Nat.le_of_ble_eq_true rfl⟩) (fun r5 w' H locs hv _ _ hP hD hS => ?_)
  obtain ⟨rfl, rfl⟩ := hv
  have hD : va_D A (rb_w cI o (rb_t v 0)) := hD
  refine lv_iload_n hx hb dX1_bind_45 rfl (lv_at hl 2 rfl) ?_
  refine lv_iadd hx hb dX1_bind_46 ?_
  refine g_cv (wr := []) (cells' := 0) (slots' := 0) rfl rfl C rd_nil hD hS (g_runV (wr := []) (n := 3) C (mX1_let l D t cI o H.size (rb_t v 0) r 1 (by omega) (by omega) (((rb_t v 0).1 2 (7 * r + 1)) + x)) (rw_V q68 q69 q70 q5 q71) kd_X1_let ⟨Nat.le_of_ble_eq_true rfl, Nat.le_of_ble_eq_true rfl⟩ (ci := 1) rfl rfl rfl C.2.2.2.2.2.1 hP hD hS hl.1 rfl rfl (Nat.le_of_ble_eq_true rfl) dX1_bind_47 ⟨Nat.le_of_ble_eq_true rfl, Nat.le_of_ble_eq_true rfl⟩) (fun w' H locs hv _ _ hP hD hS => ?_)
  subst hv
  have hD : va_D A (rb_w cI o (rb_s (rb_t v 0) 2 (7 * r + 1) (((rb_t v 0).1 2 (7 * r + 1)) + x))) := hD
  have hP : va_P D vwCl (rb_w cI o (rb_s (rb_t v 0) 2 (7 * r + 1) (((rb_t v 0).1 2 (7 * r + 1)) + x))) H := hP
  have hD : va_D A (rb_w cI o (rb_s (rb_t v 0) 2 (7 * r + 1) (((rb_t v 0).1 2 (7 * r + 1)) + x))) := hD
  refine lv_aload_n hx hb dX1_bind_50 rfl (lv_at hl 0 rfl) ?_
  refine lv_iload_n hx hb dX1_bind_51 rfl (lv_at hl 1 rfl) ?_
  refine lv_iconst (v := 1) hx hb dX1_bind_52 (by decide) ?_
  refine g_ci (wr := []) (cells' := 0) (slots' := 0) rfl rfl C rd_nil hD hS (g_runV (wr := []) (n := 2) C (mX1_re l D t cI o H.size (rb_s (rb_t v 0) 2 (7 * r + 1) (((rb_t v 0).1 2 (7 * r + 1)) + x)) r 1 (by omega) (by omega)) (rw_V q128 q129 q130 q5 q131) kd_X1_re ⟨Nat.le_of_ble_eq_true rfl, Nat.le_of_ble_eq_true rfl⟩ (ci := 1) rfl rfl rfl C.2.2.2.2.2.1 hP hD hS hl.1 rfl rfl (Nat.le_of_ble_eq_true rfl) dX1_bind_53 ⟨Nat.le_of_ble_eq_true rfl, Nat.le_of_ble_eq_true rfl⟩) (fun r7 w' H locs hv _ _ hP hD hS => ?_)
  obtain ⟨rfl, rfl⟩ := hv
  have hD : va_D A (rb_w cI o (rb_s (rb_t v 0) 2 (7 * r + 1) (((rb_t v 0).1 2 (7 * r + 1)) + x))) := hD
  exact g_iret C hrt hP hD hS dX1_bind_56 ⟨by skip; exact rb_sS, by skip; rfl⟩
set_option maxHeartbeats 4000000 in
set_option maxRecDepth 100000 in
theorem bX1_bind1 (l : Launch) (D : va_G) (t : Nat → Nat) (cI : ClassId) (o : Nat) (sz : Nat) (v : S1) (hn : v.2.1 ≤ 8) (x0 x : Int32) (h : x0 < 0 ∨ nI v.2.1 ≤ x0) : gMi l yX1_bind (rw_ yX1_bind cX1_bind 3 (some .int)) (rm_ 2 0 0 43) [.ref o, .int x0, .int x] D [(cI, .int)] t (rb_w cI o v) sz (fun r9 w' => r9 = 0 ∧ w' = rb_w cI o (rb_t (rb_t v 0) 1)) := by
  refine g_of (cc := cX1_bind) (nL := 3) (rt := (some .int)) (Q := fun A => va_Qi _ (fun w' U => gQ D A w' U) A) (by decide) (Nat.le_of_ble_eq_true rfl) (fun p e s m args below meth c A ls H C hrt hnm hS hP hD hl => ?_)
  have hx := C.1
  have hb := C.2.1
  have hown := C.2.2.2.1
  have hts := C.2.2.2.2.1
  have hl : lv_has ls 3 [(0, .ref o), (1, .int x0), (2, .int x)] := hl
  refine lv_aload_n hx hb dX1_bind_0 rfl (lv_at hl 0 rfl) ?_
  refine lv_iconst (v := 0) hx hb dX1_bind_1 (by decide) ?_
  refine x1_pt C hP hD hS q59 dX1_bind_2 (fun H locs hP hD hS => ?_)
  have hP : va_P D vwCl (rb_w cI o (rb_t v 0)) H := hP
  have hD : va_D A (rb_w cI o (rb_t v 0)) := hD
  refine lv_aload_n hx hb dX1_bind_5 rfl (lv_at hl 0 rfl) ?_
  refine lv_iload_n hx hb dX1_bind_6 rfl (lv_at hl 1 rfl) ?_
  refine g_ci (wr := []) (cells' := 0) (slots' := 0) rfl rfl C rd_nil hD hS (g_runV (wr := []) (n := 1) C (mX1_isReaper l D t cI o H.size (rb_t v 0) x0) (rw_V q124 q125 q126 q5 q127) kd_X1_isReaper ⟨Nat.le_of_ble_eq_true rfl, Nat.le_of_ble_eq_true rfl⟩ (ci := 1) rfl rfl rfl C.2.2.2.2.2.1 hP hD hS hl.1 rfl rfl (Nat.le_of_ble_eq_true rfl) dX1_bind_7 ⟨Nat.le_of_ble_eq_true rfl, Nat.le_of_ble_eq_true rfl⟩) (fun r1 w' H locs hv _ _ hP hD hS => ?_)
  obtain ⟨rfl, rfl⟩ := hv
  have hD : va_D A (rb_w cI o (rb_t v 0)) := hD
  refine g_top (y := 0) (rb_reN hn h) ?_
  refine lv_if_ne (tgt := 19) hx hb dX1_bind_10 (by decide) (fun c2 => absurd c2 (by decide)) (fun c2 => ?_)
  refine lv_aload_n hx hb dX1_bind_13 rfl (lv_at hl 0 rfl) ?_
  refine lv_iconst (v := 1) hx hb dX1_bind_14 (by decide) ?_
  refine g_ci (wr := []) (cells' := 0) (slots' := 0) rfl rfl C rd_nil hD hS (g_runV (wr := []) (n := 1) C (mX1_fail l D t cI o H.size (rb_t v 0) 1) (rw_V q64 q65 q66 q5 q67) kd_X1_fail ⟨Nat.le_of_ble_eq_true rfl, Nat.le_of_ble_eq_true rfl⟩ (ci := 1) rfl rfl rfl C.2.2.2.2.2.1 hP hD hS hl.1 rfl rfl (Nat.le_of_ble_eq_true rfl) dX1_bind_15 ⟨Nat.le_of_ble_eq_true rfl, Nat.le_of_ble_eq_true rfl⟩) (fun r3 w' H locs hv _ _ hP hD hS => ?_)
  obtain ⟨rfl, rfl⟩ := hv
  have hD : va_D A (rb_w cI o (rb_t (rb_t v 0) 1)) := hD
  have hP : va_P D vwCl (rb_w cI o (rb_t (rb_t v 0) 1)) H := hP
  have hD : va_D A (rb_w cI o (rb_t (rb_t v 0) 1)) := hD
  exact g_iret C hrt hP hD hS dX1_bind_18 ⟨by skip; rfl, by skip; rfl⟩
set_option maxHeartbeats 4000000 in
set_option maxRecDepth 100000 in
theorem bX1_bind2 (l : Launch) (D : va_G) (t : Nat → Nat) (cI : ClassId) (o : Nat) (sz : Nat) (v : S1) (hn : v.2.1 ≤ 8) (r : Nat) (hr : r < v.2.1) (x : Int32) (h : x < 1 ∨ 999 < x) : gMi l yX1_bind (rw_ yX1_bind cX1_bind 3 (some .int)) (rm_ 2 0 0 43) [.ref o, .int (nI r), .int x] D [(cI, .int)] t (rb_w cI o v) sz (fun r9 w' => r9 = 0 ∧ w' = rb_w cI o (rb_t (rb_t v 0) 2)) := by
  refine g_of (cc := cX1_bind) (nL := 3) (rt := (some .int)) (Q := fun A => va_Qi _ (fun w' U => gQ D A w' U) A) (by decide) (Nat.le_of_ble_eq_true rfl) (fun p e s m args below meth c A ls H C hrt hnm hS hP hD hl => ?_)
  have hx := C.1
  have hb := C.2.1
  have hown := C.2.2.2.1
  have hts := C.2.2.2.2.1
  have hl : lv_has ls 3 [(0, .ref o), (1, .int (nI r)), (2, .int x)] := hl
  refine lv_aload_n hx hb dX1_bind_0 rfl (lv_at hl 0 rfl) ?_
  refine lv_iconst (v := 0) hx hb dX1_bind_1 (by decide) ?_
  refine x1_pt C hP hD hS q59 dX1_bind_2 (fun H locs hP hD hS => ?_)
  have hP : va_P D vwCl (rb_w cI o (rb_t v 0)) H := hP
  have hD : va_D A (rb_w cI o (rb_t v 0)) := hD
  refine lv_aload_n hx hb dX1_bind_5 rfl (lv_at hl 0 rfl) ?_
  refine lv_iload_n hx hb dX1_bind_6 rfl (lv_at hl 1 rfl) ?_
  refine g_ci (wr := []) (cells' := 0) (slots' := 0) rfl rfl C rd_nil hD hS (g_runV (wr := []) (n := 1) C (mX1_isReaper l D t cI o H.size (rb_t v 0) (nI r)) (rw_V q124 q125 q126 q5 q127) kd_X1_isReaper ⟨Nat.le_of_ble_eq_true rfl, Nat.le_of_ble_eq_true rfl⟩ (ci := 1) rfl rfl rfl C.2.2.2.2.2.1 hP hD hS hl.1 rfl rfl (Nat.le_of_ble_eq_true rfl) dX1_bind_7 ⟨Nat.le_of_ble_eq_true rfl, Nat.le_of_ble_eq_true rfl⟩) (fun r1 w' H locs hv _ _ hP hD hS => ?_)
  obtain ⟨rfl, rfl⟩ := hv
  have hD : va_D A (rb_w cI o (rb_t v 0)) := hD
  refine g_top (y := 1) (rb_reY hn hr) ?_
  refine lv_if_ne (tgt := 19) hx hb dX1_bind_10 (by decide) (fun c2 => ?_) (fun c2 => absurd c2 (by decide))
  refine lv_iload_n hx hb dX1_bind_19 rfl (lv_at hl 2 rfl) ?_
  refine lv_iconst (v := 1) hx hb dX1_bind_20 (by decide) ?_
  refine lv_sipush (v := 999) hx hb dX1_bind_21 (by decide) ?_
  refine g_ci (wr := []) (cells' := 0) (slots' := 0) rfl rfl C rd_nil hD hS (g_runS (wr := []) (n := 3) (As := [.int x, .int 1, .int 999]) C (mX1_isIn l D t [(cI, .int)] (rb_w cI o (rb_t v 0)) H.size x 1 999) (rw_S q61 q62 q5 q63) kd_X1_isIn ⟨Nat.le_of_ble_eq_true rfl, Nat.le_of_ble_eq_true rfl⟩ C.2.2.2.2.2.1 hP hD hS hl.1 rfl rfl (Nat.le_of_ble_eq_true rfl) dX1_bind_24 ⟨Nat.le_of_ble_eq_true rfl, Nat.le_of_ble_eq_true rfl⟩) (fun r3 w' H locs hv _ _ hP hD hS => ?_)
  obtain ⟨rfl, rfl⟩ := hv
  have hD : va_D A (rb_w cI o (rb_t v 0)) := hD
  refine g_top (y := 0) (rb_in_0 h) ?_
  refine lv_if_ne (tgt := 36) hx hb dX1_bind_27 (by decide) (fun c4 => absurd c4 (by decide)) (fun c4 => ?_)
  refine lv_aload_n hx hb dX1_bind_30 rfl (lv_at hl 0 rfl) ?_
  refine lv_iconst (v := 2) hx hb dX1_bind_31 (by decide) ?_
  refine g_ci (wr := []) (cells' := 0) (slots' := 0) rfl rfl C rd_nil hD hS (g_runV (wr := []) (n := 1) C (mX1_fail l D t cI o H.size (rb_t v 0) 2) (rw_V q64 q65 q66 q5 q67) kd_X1_fail ⟨Nat.le_of_ble_eq_true rfl, Nat.le_of_ble_eq_true rfl⟩ (ci := 1) rfl rfl rfl C.2.2.2.2.2.1 hP hD hS hl.1 rfl rfl (Nat.le_of_ble_eq_true rfl) dX1_bind_32 ⟨Nat.le_of_ble_eq_true rfl, Nat.le_of_ble_eq_true rfl⟩) (fun r5 w' H locs hv _ _ hP hD hS => ?_)
  obtain ⟨rfl, rfl⟩ := hv
  have hD : va_D A (rb_w cI o (rb_t (rb_t v 0) 2)) := hD
  have hP : va_P D vwCl (rb_w cI o (rb_t (rb_t v 0) 2)) H := hP
  have hD : va_D A (rb_w cI o (rb_t (rb_t v 0) 2)) := hD
  exact g_iret C hrt hP hD hS dX1_bind_35 ⟨by skip; rfl, by skip; rfl⟩
theorem kd_X1_work : yX1_work.cls = yX1_work.cls ∧ yX1_work.cls ≠ "java/lang/invoke/MethodHandle" ∧ yX1_work.cls ≠ "java/lang/invoke/VarHandle" ∧ (parseMethodDescriptor yX1_work.desc).map (fun d => d.parameters.length) = some 3 := by decide +kernel
set_option maxHeartbeats 4000000 in
set_option maxRecDepth 100000 in
theorem bX1_work1 (l : Launch) (D : va_G) (t : Nat → Nat) (cI : ClassId) (o : Nat) (sz : Nat) (v : S1) (hn : v.2.1 ≤ 8) (x0 x : Int32) (b : Int32) (h : x0 < 0 ∨ nI v.2.1 ≤ x0) : gMi l yX1_work (rw_ yX1_work cX1_work 4 (some .int)) (rm_ 2 0 0 43) [.ref o, .int x0, .int x, .int b] D [(cI, .int)] t (rb_w cI o v) sz (fun r9 w' => r9 = 0 ∧ w' = rb_w cI o (rb_t (rb_t v 0) 1)) := by
  refine g_of (cc := cX1_work) (nL := 4) (rt := (some .int)) (Q := fun A => va_Qi _ (fun w' U => gQ D A w' U) A) (by decide) (Nat.le_of_ble_eq_true rfl) (fun p e s m args below meth c A ls H C hrt hnm hS hP hD hl => ?_)
  have hx := C.1
  have hb := C.2.1
  have hown := C.2.2.2.1
  have hts := C.2.2.2.2.1
  have hl : lv_has ls 4 [(0, .ref o), (1, .int x0), (2, .int x), (3, .int b)] := hl
  refine lv_aload_n hx hb dX1_work_0 rfl (lv_at hl 0 rfl) ?_
  refine lv_iconst (v := 0) hx hb dX1_work_1 (by decide) ?_
  refine x1_pt C hP hD hS q59 dX1_work_2 (fun H locs hP hD hS => ?_)
  have hP : va_P D vwCl (rb_w cI o (rb_t v 0)) H := hP
  have hD : va_D A (rb_w cI o (rb_t v 0)) := hD
  refine lv_aload_n hx hb dX1_work_5 rfl (lv_at hl 0 rfl) ?_
  refine lv_iload_n hx hb dX1_work_6 rfl (lv_at hl 1 rfl) ?_
  refine g_ci (wr := []) (cells' := 0) (slots' := 0) rfl rfl C rd_nil hD hS (g_runV (wr := []) (n := 1) C (mX1_isReaper l D t cI o H.size (rb_t v 0) x0) (rw_V q124 q125 q126 q5 q127) kd_X1_isReaper ⟨Nat.le_of_ble_eq_true rfl, Nat.le_of_ble_eq_true rfl⟩ (ci := 1) rfl rfl rfl C.2.2.2.2.2.1 hP hD hS hl.1 rfl rfl (Nat.le_of_ble_eq_true rfl) dX1_work_7 ⟨Nat.le_of_ble_eq_true rfl, Nat.le_of_ble_eq_true rfl⟩) (fun r1 w' H locs hv _ _ hP hD hS => ?_)
  obtain ⟨rfl, rfl⟩ := hv
  have hD : va_D A (rb_w cI o (rb_t v 0)) := hD
  refine g_top (y := 0) (rb_reN hn h) ?_
  refine lv_if_ne (tgt := 19) hx hb dX1_work_10 (by decide) (fun c2 => absurd c2 (by decide)) (fun c2 => ?_)
  refine lv_aload_n hx hb dX1_work_13 rfl (lv_at hl 0 rfl) ?_
  refine lv_iconst (v := 1) hx hb dX1_work_14 (by decide) ?_
  refine g_ci (wr := []) (cells' := 0) (slots' := 0) rfl rfl C rd_nil hD hS (g_runV (wr := []) (n := 1) C (mX1_fail l D t cI o H.size (rb_t v 0) 1) (rw_V q64 q65 q66 q5 q67) kd_X1_fail ⟨Nat.le_of_ble_eq_true rfl, Nat.le_of_ble_eq_true rfl⟩ (ci := 1) rfl rfl rfl C.2.2.2.2.2.1 hP hD hS hl.1 rfl rfl (Nat.le_of_ble_eq_true rfl) dX1_work_15 ⟨Nat.le_of_ble_eq_true rfl, Nat.le_of_ble_eq_true rfl⟩) (fun r3 w' H locs hv _ _ hP hD hS => ?_)
  obtain ⟨rfl, rfl⟩ := hv
  have hD : va_D A (rb_w cI o (rb_t (rb_t v 0) 1)) := hD
  have hP : va_P D vwCl (rb_w cI o (rb_t (rb_t v 0) 1)) H := hP
  have hD : va_D A (rb_w cI o (rb_t (rb_t v 0) 1)) := hD
  exact g_iret C hrt hP hD hS dX1_work_18 ⟨by skip; rfl, by skip; rfl⟩
set_option maxHeartbeats 4000000 in
set_option maxRecDepth 100000 in
theorem bX1_work2 (l : Launch) (D : va_G) (t : Nat → Nat) (cI : ClassId) (o : Nat) (sz : Nat) (v : S1) (hn : v.2.1 ≤ 8) (r : Nat) (hr : r < v.2.1) (x : Int32) (b : Int32) (h : x < 0 ∨ 16 < x) : gMi l yX1_work (rw_ yX1_work cX1_work 4 (some .int)) (rm_ 2 0 0 43) [.ref o, .int (nI r), .int x, .int b] D [(cI, .int)] t (rb_w cI o v) sz (fun r9 w' => r9 = 0 ∧ w' = rb_w cI o (rb_t (rb_t v 0) 2)) := by
  refine g_of (cc := cX1_work) (nL := 4) (rt := (some .int)) (Q := fun A => va_Qi _ (fun w' U => gQ D A w' U) A) (by decide) (Nat.le_of_ble_eq_true rfl) (fun p e s m args below meth c A ls H C hrt hnm hS hP hD hl => ?_)
  have hx := C.1
  have hb := C.2.1
  have hown := C.2.2.2.1
  have hts := C.2.2.2.2.1
  have hl : lv_has ls 4 [(0, .ref o), (1, .int (nI r)), (2, .int x), (3, .int b)] := hl
  refine lv_aload_n hx hb dX1_work_0 rfl (lv_at hl 0 rfl) ?_
  refine lv_iconst (v := 0) hx hb dX1_work_1 (by decide) ?_
  refine x1_pt C hP hD hS q59 dX1_work_2 (fun H locs hP hD hS => ?_)
  have hP : va_P D vwCl (rb_w cI o (rb_t v 0)) H := hP
  have hD : va_D A (rb_w cI o (rb_t v 0)) := hD
  refine lv_aload_n hx hb dX1_work_5 rfl (lv_at hl 0 rfl) ?_
  refine lv_iload_n hx hb dX1_work_6 rfl (lv_at hl 1 rfl) ?_
  refine g_ci (wr := []) (cells' := 0) (slots' := 0) rfl rfl C rd_nil hD hS (g_runV (wr := []) (n := 1) C (mX1_isReaper l D t cI o H.size (rb_t v 0) (nI r)) (rw_V q124 q125 q126 q5 q127) kd_X1_isReaper ⟨Nat.le_of_ble_eq_true rfl, Nat.le_of_ble_eq_true rfl⟩ (ci := 1) rfl rfl rfl C.2.2.2.2.2.1 hP hD hS hl.1 rfl rfl (Nat.le_of_ble_eq_true rfl) dX1_work_7 ⟨Nat.le_of_ble_eq_true rfl, Nat.le_of_ble_eq_true rfl⟩) (fun r1 w' H locs hv _ _ hP hD hS => ?_)
  obtain ⟨rfl, rfl⟩ := hv
  have hD : va_D A (rb_w cI o (rb_t v 0)) := hD
  refine g_top (y := 1) (rb_reY hn hr) ?_
  refine lv_if_ne (tgt := 19) hx hb dX1_work_10 (by decide) (fun c2 => ?_) (fun c2 => absurd c2 (by decide))
  refine lv_iload_n hx hb dX1_work_19 rfl (lv_at hl 2 rfl) ?_
  refine lv_iconst (v := 0) hx hb dX1_work_20 (by decide) ?_
  refine lv_bipush (v := 16) hx hb dX1_work_21 (by decide) ?_
  refine g_ci (wr := []) (cells' := 0) (slots' := 0) rfl rfl C rd_nil hD hS (g_runS (wr := []) (n := 3) (As := [.int x, .int 0, .int 16]) C (mX1_isIn l D t [(cI, .int)] (rb_w cI o (rb_t v 0)) H.size x 0 16) (rw_S q61 q62 q5 q63) kd_X1_isIn ⟨Nat.le_of_ble_eq_true rfl, Nat.le_of_ble_eq_true rfl⟩ C.2.2.2.2.2.1 hP hD hS hl.1 rfl rfl (Nat.le_of_ble_eq_true rfl) dX1_work_23 ⟨Nat.le_of_ble_eq_true rfl, Nat.le_of_ble_eq_true rfl⟩) (fun r3 w' H locs hv _ _ hP hD hS => ?_)
  obtain ⟨rfl, rfl⟩ := hv
  have hD : va_D A (rb_w cI o (rb_t v 0)) := hD
  refine g_top (y := 0) (rb_in_0 h) ?_
  refine lv_if_ne (tgt := 35) hx hb dX1_work_26 (by decide) (fun c4 => absurd c4 (by decide)) (fun c4 => ?_)
  refine lv_aload_n hx hb dX1_work_29 rfl (lv_at hl 0 rfl) ?_
  refine lv_iconst (v := 2) hx hb dX1_work_30 (by decide) ?_
  refine g_ci (wr := []) (cells' := 0) (slots' := 0) rfl rfl C rd_nil hD hS (g_runV (wr := []) (n := 1) C (mX1_fail l D t cI o H.size (rb_t v 0) 2) (rw_V q64 q65 q66 q5 q67) kd_X1_fail ⟨Nat.le_of_ble_eq_true rfl, Nat.le_of_ble_eq_true rfl⟩ (ci := 1) rfl rfl rfl C.2.2.2.2.2.1 hP hD hS hl.1 rfl rfl (Nat.le_of_ble_eq_true rfl) dX1_work_31 ⟨Nat.le_of_ble_eq_true rfl, Nat.le_of_ble_eq_true rfl⟩) (fun r5 w' H locs hv _ _ hP hD hS => ?_)
  obtain ⟨rfl, rfl⟩ := hv
  have hD : va_D A (rb_w cI o (rb_t (rb_t v 0) 2)) := hD
  have hP : va_P D vwCl (rb_w cI o (rb_t (rb_t v 0) 2)) H := hP
  have hD : va_D A (rb_w cI o (rb_t (rb_t v 0) 2)) := hD
  exact g_iret C hrt hP hD hS dX1_work_34 ⟨by skip; rfl, by skip; rfl⟩
set_option maxHeartbeats 4000000 in
set_option maxRecDepth 100000 in
theorem bX1_work3 (l : Launch) (D : va_G) (t : Nat → Nat) (cI : ClassId) (o : Nat) (sz : Nat) (v : S1) (hn : v.2.1 ≤ 8) (r : Nat) (hr : r < v.2.1) (x : Int32) (b : Int32) (h1 : ¬ x < 0) (h2 : ¬ 16 < x) (h3 : ¬ v.1 2 (7 * r + 2) + x ≤ 99) : gMi l yX1_work (rw_ yX1_work cX1_work 4 (some .int)) (rm_ 2 0 0 43) [.ref o, .int (nI r), .int x, .int b] D [(cI, .int)] t (rb_w cI o v) sz (fun r9 w' => r9 = 0 ∧ w' = rb_w cI o (rb_t (rb_t v 0) 3)) := by
  refine g_of (cc := cX1_work) (nL := 4) (rt := (some .int)) (Q := fun A => va_Qi _ (fun w' U => gQ D A w' U) A) (by decide) (Nat.le_of_ble_eq_true rfl) (fun p e s m args below meth c A ls H C hrt hnm hS hP hD hl => ?_)
  have hx := C.1
  have hb := C.2.1
  have hown := C.2.2.2.1
  have hts := C.2.2.2.2.1
  have hl : lv_has ls 4 [(0, .ref o), (1, .int (nI r)), (2, .int x), (3, .int b)] := hl
  refine lv_aload_n hx hb dX1_work_0 rfl (lv_at hl 0 rfl) ?_
  refine lv_iconst (v := 0) hx hb dX1_work_1 (by decide) ?_
  refine x1_pt C hP hD hS q59 dX1_work_2 (fun H locs hP hD hS => ?_)
  have hP : va_P D vwCl (rb_w cI o (rb_t v 0)) H := hP
  have hD : va_D A (rb_w cI o (rb_t v 0)) := hD
  refine lv_aload_n hx hb dX1_work_5 rfl (lv_at hl 0 rfl) ?_
  refine lv_iload_n hx hb dX1_work_6 rfl (lv_at hl 1 rfl) ?_
  refine g_ci (wr := []) (cells' := 0) (slots' := 0) rfl rfl C rd_nil hD hS (g_runV (wr := []) (n := 1) C (mX1_isReaper l D t cI o H.size (rb_t v 0) (nI r)) (rw_V q124 q125 q126 q5 q127) kd_X1_isReaper ⟨Nat.le_of_ble_eq_true rfl, Nat.le_of_ble_eq_true rfl⟩ (ci := 1) rfl rfl rfl C.2.2.2.2.2.1 hP hD hS hl.1 rfl rfl (Nat.le_of_ble_eq_true rfl) dX1_work_7 ⟨Nat.le_of_ble_eq_true rfl, Nat.le_of_ble_eq_true rfl⟩) (fun r1 w' H locs hv _ _ hP hD hS => ?_)
  obtain ⟨rfl, rfl⟩ := hv
  have hD : va_D A (rb_w cI o (rb_t v 0)) := hD
  refine g_top (y := 1) (rb_reY hn hr) ?_
  refine lv_if_ne (tgt := 19) hx hb dX1_work_10 (by decide) (fun c2 => ?_) (fun c2 => absurd c2 (by decide))
  refine lv_iload_n hx hb dX1_work_19 rfl (lv_at hl 2 rfl) ?_
  refine lv_iconst (v := 0) hx hb dX1_work_20 (by decide) ?_
  refine lv_bipush (v := 16) hx hb dX1_work_21 (by decide) ?_
  refine g_ci (wr := []) (cells' := 0) (slots' := 0) rfl rfl C rd_nil hD hS (g_runS (wr := []) (n := 3) (As := [.int x, .int 0, .int 16]) C (mX1_isIn l D t [(cI, .int)] (rb_w cI o (rb_t v 0)) H.size x 0 16) (rw_S q61 q62 q5 q63) kd_X1_isIn ⟨Nat.le_of_ble_eq_true rfl, Nat.le_of_ble_eq_true rfl⟩ C.2.2.2.2.2.1 hP hD hS hl.1 rfl rfl (Nat.le_of_ble_eq_true rfl) dX1_work_23 ⟨Nat.le_of_ble_eq_true rfl, Nat.le_of_ble_eq_true rfl⟩) (fun r3 w' H locs hv _ _ hP hD hS => ?_)
  obtain ⟨rfl, rfl⟩ := hv
  have hD : va_D A (rb_w cI o (rb_t v 0)) := hD
  refine g_top (y := 1) (rb_in_1 h1 h2) ?_
  refine lv_if_ne (tgt := 35) hx hb dX1_work_26 (by decide) (fun c4 => ?_) (fun c4 => absurd c4 (by decide))
  refine lv_aload_n hx hb dX1_work_35 rfl (lv_at hl 0 rfl) ?_
  refine lv_iload_n hx hb dX1_work_36 rfl (lv_at hl 1 rfl) ?_
  refine lv_iconst (v := 2) hx hb dX1_work_37 (by decide) ?_
  refine g_ci (wr := []) (cells' := 0) (slots' := 0) rfl rfl C rd_nil hD hS (g_runV (wr := []) (n := 2) C (mX1_re l D t cI o H.size (rb_t v 0) r 2 (by omega) (by omega)) (rw_V q128 q129 q130 q5 q131) kd_X1_re ⟨Nat.le_of_ble_eq_true rfl, Nat.le_of_ble_eq_true rfl⟩ (ci := 1) rfl rfl rfl C.2.2.2.2.2.1 hP hD hS hl.1 rfl rfl (Nat.le_of_ble_eq_true rfl) dX1_work_38 ⟨Nat.le_of_ble_eq_true rfl, Nat.le_of_ble_eq_true rfl⟩) (fun r5 w' H locs hv _ _ hP hD hS => ?_)
  obtain ⟨rfl, rfl⟩ := hv
  have hD : va_D A (rb_w cI o (rb_t v 0)) := hD
  refine lv_iload_n hx hb dX1_work_41 rfl (lv_at hl 2 rfl) ?_
  refine lv_iadd hx hb dX1_work_42 ?_
  refine lv_bipush (v := 99) hx hb dX1_work_43 (by decide) ?_
  refine lv_icmp_le (tgt := 54) hx hb dX1_work_45 (by decide) (fun c6 => absurd c6 h3) (fun c6 => ?_)
  refine lv_aload_n hx hb dX1_work_48 rfl (lv_at hl 0 rfl) ?_
  refine lv_iconst (v := 3) hx hb dX1_work_49 (by decide) ?_
  refine g_ci (wr := []) (cells' := 0) (slots' := 0) rfl rfl C rd_nil hD hS (g_runV (wr := []) (n := 1) C (mX1_fail l D t cI o H.size (rb_t v 0) 3) (rw_V q64 q65 q66 q5 q67) kd_X1_fail ⟨Nat.le_of_ble_eq_true rfl, Nat.le_of_ble_eq_true rfl⟩ (ci := 1) rfl rfl rfl C.2.2.2.2.2.1 hP hD hS hl.1 rfl rfl (Nat.le_of_ble_eq_true rfl) dX1_work_50 ⟨Nat.le_of_ble_eq_true rfl, Nat.le_of_ble_eq_true rfl⟩) (fun r7 w' H locs hv _ _ hP hD hS => ?_)
  obtain ⟨rfl, rfl⟩ := hv
  have hD : va_D A (rb_w cI o (rb_t (rb_t v 0) 3)) := hD
  have hP : va_P D vwCl (rb_w cI o (rb_t (rb_t v 0) 3)) H := hP
  have hD : va_D A (rb_w cI o (rb_t (rb_t v 0) 3)) := hD
  exact g_iret C hrt hP hD hS dX1_work_53 ⟨by skip; rfl, by skip; rfl⟩
set_option maxHeartbeats 4000000 in
set_option maxRecDepth 100000 in
theorem oX1_work (l : Launch) (D : va_G) (t : Nat → Nat) (cI : ClassId) (o : Nat) (sz : Nat) (v : S1) (hn : v.2.1 ≤ 8) (r : Nat) (hr : r < v.2.1) (x : Int32) (b : Int32) (h1 : ¬ x < 0) (h2 : ¬ 16 < x) (h3 : v.1 2 (7 * r + 2) + x ≤ 99) : gMi l yX1_work (rw_ yX1_work cX1_work 4 (some .int)) (rm_ 2 0 0 43) [.ref o, .int (nI r), .int x, .int b] D [(cI, .int)] t (rb_w cI o v) sz (fun r9 w' => r9 = v.1 2 (7 * r + 2) + x ∧ ∃ y : Int32, w' = rb_w cI o (rb_s (rb_s (rb_t v 0) 2 (7 * r + 2) (v.1 2 (7 * r + 2) + x)) 2 (7 * r + 3) y)) := by
  refine g_of (cc := cX1_work) (nL := 4) (rt := (some .int)) (Q := fun A => va_Qi _ (fun w' U => gQ D A w' U) A) (by decide) (Nat.le_of_ble_eq_true rfl) (fun p e s m args below meth c A ls H C hrt hnm hS hP hD hl => ?_)
  have hx := C.1
  have hb := C.2.1
  have hown := C.2.2.2.1
  have hts := C.2.2.2.2.1
  have hl : lv_has ls 4 [(0, .ref o), (1, .int (nI r)), (2, .int x), (3, .int b)] := hl
  refine lv_aload_n hx hb dX1_work_0 rfl (lv_at hl 0 rfl) ?_
  refine lv_iconst (v := 0) hx hb dX1_work_1 (by decide) ?_
  refine x1_pt C hP hD hS q59 dX1_work_2 (fun H locs hP hD hS => ?_)
  have hP : va_P D vwCl (rb_w cI o (rb_t v 0)) H := hP
  have hD : va_D A (rb_w cI o (rb_t v 0)) := hD
  refine lv_aload_n hx hb dX1_work_5 rfl (lv_at hl 0 rfl) ?_
  refine lv_iload_n hx hb dX1_work_6 rfl (lv_at hl 1 rfl) ?_
  refine g_ci (wr := []) (cells' := 0) (slots' := 0) rfl rfl C rd_nil hD hS (g_runV (wr := []) (n := 1) C (mX1_isReaper l D t cI o H.size (rb_t v 0) (nI r)) (rw_V q124 q125 q126 q5 q127) kd_X1_isReaper ⟨Nat.le_of_ble_eq_true rfl, Nat.le_of_ble_eq_true rfl⟩ (ci := 1) rfl rfl rfl C.2.2.2.2.2.1 hP hD hS hl.1 rfl rfl (Nat.le_of_ble_eq_true rfl) dX1_work_7 ⟨Nat.le_of_ble_eq_true rfl, Nat.le_of_ble_eq_true rfl⟩) (fun r1 w' H locs hv _ _ hP hD hS => ?_)
  obtain ⟨rfl, rfl⟩ := hv
  have hD : va_D A (rb_w cI o (rb_t v 0)) := hD
  refine g_top (y := 1) (rb_reY hn hr) ?_
  refine lv_if_ne (tgt := 19) hx hb dX1_work_10 (by decide) (fun c2 => ?_) (fun c2 => absurd c2 (by decide))
  refine lv_iload_n hx hb dX1_work_19 rfl (lv_at hl 2 rfl) ?_
  refine lv_iconst (v := 0) hx hb dX1_work_20 (by decide) ?_
  refine lv_bipush (v := 16) hx hb dX1_work_21 (by decide) ?_
  refine g_ci (wr := []) (cells' := 0) (slots' := 0) rfl rfl C rd_nil hD hS (g_runS (wr := []) (n := 3) (As := [.int x, .int 0, .int 16]) C (mX1_isIn l D t [(cI, .int)] (rb_w cI o (rb_t v 0)) H.size x 0 16) (rw_S q61 q62 q5 q63) kd_X1_isIn ⟨Nat.le_of_ble_eq_true rfl, Nat.le_of_ble_eq_true rfl⟩ C.2.2.2.2.2.1 hP hD hS hl.1 rfl rfl (Nat.le_of_ble_eq_true rfl) dX1_work_23 ⟨Nat.le_of_ble_eq_true rfl, Nat.le_of_ble_eq_true rfl⟩) (fun r3 w' H locs hv _ _ hP hD hS => ?_)
  obtain ⟨rfl, rfl⟩ := hv
  have hD : va_D A (rb_w cI o (rb_t v 0)) := hD
  refine g_top (y := 1) (rb_in_1 h1 h2) ?_
  refine lv_if_ne (tgt := 35) hx hb dX1_work_26 (by decide) (fun c4 => ?_) (fun c4 => absurd c4 (by decide))
  refine lv_aload_n hx hb dX1_work_35 rfl (lv_at hl 0 rfl) ?_
  refine lv_iload_n hx hb dX1_work_36 rfl (lv_at hl 1 rfl) ?_
  refine lv_iconst (v := 2) hx hb dX1_work_37 (by decide) ?_
  refine g_ci (wr := []) (cells' := 0) (slots' := 0) rfl rfl C rd_nil hD hS (g_runV (wr := []) (n := 2) C (mX1_re l D t cI o H.size (rb_t v 0) r 2 (by omega) (by omega)) (rw_V q128 q129 q130 q5 q131) kd_X1_re ⟨Nat.le_of_ble_eq_true rfl, Nat.le_of_ble_eq_true rfl⟩ (ci := 1) rfl rfl rfl C.2.2.2.2.2.1 hP hD hS hl.1 rfl rfl (Nat.le_of_ble_eq_true rfl) dX1_work_38 ⟨Nat.le_of_ble_eq_true rfl, Nat.le_of_ble_eq_true rfl⟩) (fun r5 w' H locs hv _ _ hP hD hS => ?_)
  obtain ⟨rfl, rfl⟩ := hv
  have hD : va_D A (rb_w cI o (rb_t v 0)) := hD
  refine lv_iload_n hx hb dX1_work_41 rfl (lv_at hl 2 rfl) ?_
  refine lv_iadd hx hb dX1_work_42 ?_
  refine lv_bipush (v := 99) hx hb dX1_work_43 (by decide) ?_
  refine lv_icmp_le (tgt := 54) hx hb dX1_work_45 (by decide) (fun c6 => ?_) (fun c6 => absurd h3 c6)
  refine lv_aload_n hx hb dX1_work_54 rfl (lv_at hl 0 rfl) ?_
  refine lv_iload_n hx hb dX1_work_55 rfl (lv_at hl 1 rfl) ?_
  refine lv_iconst (v := 2) hx hb dX1_work_56 (by decide) ?_
  refine lv_aload_n hx hb dX1_work_57 rfl (lv_at hl 0 rfl) ?_
  refine lv_iload_n hx hb dX1_work_58 rfl (lv_at hl 1 rfl) ?_
  refine lv_iconst (v := 2) hx hb dX1_work_59 (by decide) ?_
  refine g_ci (wr := []) (cells' := 0) (slots' := 0) rfl rfl C rd_nil hD hS (g_runV (wr := []) (n := 2) C (mX1_re l D t cI o H.size (rb_t v 0) r 2 (by omega) (by omega)) (rw_V q128 q129 q130 q5 q131) kd_X1_re ⟨Nat.le_of_ble_eq_true rfl, Nat.le_of_ble_eq_true rfl⟩ (ci := 1) rfl rfl rfl C.2.2.2.2.2.1 hP hD hS hl.1 rfl rfl (Nat.le_of_ble_eq_true rfl) dX1_work_60 ⟨Nat.le_of_ble_eq_true rfl, Nat.le_of_ble_eq_true rfl⟩) (fun r7 w' H locs hv _ _ hP hD hS => ?_)
  obtain ⟨rfl, rfl⟩ := hv
  have hD : va_D A (rb_w cI o (rb_t v 0)) := hD
  refine lv_iload_n hx hb dX1_work_63 rfl (lv_at hl 2 rfl) ?_
  refine lv_iadd hx hb dX1_work_64 ?_
  refine g_cv (wr := []) (cells' := 0) (slots' := 0) rfl rfl C rd_nil hD hS (g_runV (wr := []) (n := 3) C (mX1_let l D t cI o H.size (rb_t v 0) r 2 (by omega) (by omega) (((rb_t v 0).1 2 (7 * r + 2)) + x)) (rw_V q68 q69 q70 q5 q71) kd_X1_let ⟨Nat.le_of_ble_eq_true rfl, Nat.le_of_ble_eq_true rfl⟩ (ci := 1) rfl rfl rfl C.2.2.2.2.2.1 hP hD hS hl.1 rfl rfl (Nat.le_of_ble_eq_true rfl) dX1_work_65 ⟨Nat.le_of_ble_eq_true rfl, Nat.le_of_ble_eq_true rfl⟩) (fun w' H locs hv _ _ hP hD hS => ?_)
  subst hv
  have hD : va_D A (rb_w cI o (rb_s (rb_t v 0) 2 (7 * r + 2) (((rb_t v 0).1 2 (7 * r + 2)) + x))) := hD
  have hP : va_P D vwCl (rb_w cI o (rb_s (rb_t v 0) 2 (7 * r + 2) (((rb_t v 0).1 2 (7 * r + 2)) + x))) H := hP
  have hD : va_D A (rb_w cI o (rb_s (rb_t v 0) 2 (7 * r + 2) (((rb_t v 0).1 2 (7 * r + 2)) + x))) := hD
  refine lv_aload_n hx hb dX1_work_68 rfl (lv_at hl 0 rfl) ?_
  refine lv_iload_n hx hb dX1_work_69 rfl (lv_at hl 1 rfl) ?_
  refine lv_iconst (v := 3) hx hb dX1_work_70 (by decide) ?_
  refine lv_aload_n hx hb dX1_work_71 rfl (lv_at hl 0 rfl) ?_
  refine lv_iload_n hx hb dX1_work_72 rfl (lv_at hl 1 rfl) ?_
  refine lv_iconst (v := 3) hx hb dX1_work_73 (by decide) ?_
  refine g_ci (wr := []) (cells' := 0) (slots' := 0) rfl rfl C rd_nil hD hS (g_runV (wr := []) (n := 2) C (mX1_re l D t cI o H.size (rb_s (rb_t v 0) 2 (7 * r + 2) (((rb_t v 0).1 2 (7 * r + 2)) + x)) r 3 (by omega) (by omega)) (rw_V q128 q129 q130 q5 q131) kd_X1_re ⟨Nat.le_of_ble_eq_true rfl, Nat.le_of_ble_eq_true rfl⟩ (ci := 1) rfl rfl rfl C.2.2.2.2.2.1 hP hD hS hl.1 rfl rfl (Nat.le_of_ble_eq_true rfl) dX1_work_74 ⟨Nat.le_of_ble_eq_true rfl, Nat.le_of_ble_eq_true rfl⟩) (fun r9 w' H locs hv _ _ hP hD hS => ?_)
  obtain ⟨rfl, rfl⟩ := hv
  have hD : va_D A (rb_w cI o (rb_s (rb_t v 0) 2 (7 * r + 2) (((rb_t v 0).1 2 (7 * r + 2)) + x))) := hD
  refine lv_iload_n hx hb dX1_work_77 rfl (lv_at hl 3 rfl) ?_
  refine lv_if_eq (tgt := 85) hx hb dX1_work_78 (by decide) (fun c10 => ?_) (fun c10 => ?_)
  · refine lv_iconst (v := 0) hx hb dX1_work_85 (by decide) ?_
    refine lv_iadd hx hb dX1_work_86 ?_
    refine g_cv (wr := []) (cells' := 0) (slots' := 0) rfl rfl C rd_nil hD hS (g_runV (wr := []) (n := 3) C (mX1_let l D t cI o H.size (rb_s (rb_t v 0) 2 (7 * r + 2) (((rb_t v 0).1 2 (7 * r + 2)) + x)) r 3 (by omega) (by omega) (((rb_s (rb_t v 0) 2 (7 * r + 2) (((rb_t v 0).1 2 (7 * r + 2)) + x)).1 2 (7 * r + 3)) + 0)) (rw_V q68 q69 q70 q5 q71) kd_X1_let ⟨Nat.le_of_ble_eq_true rfl, Nat.le_of_ble_eq_true rfl⟩ (ci := 1) rfl rfl rfl C.2.2.2.2.2.1 hP hD hS hl.1 rfl rfl (Nat.le_of_ble_eq_true rfl) dX1_work_87 ⟨Nat.le_of_ble_eq_true rfl, Nat.le_of_ble_eq_true rfl⟩) (fun w' H locs hv _ _ hP hD hS => ?_)
    subst hv
    have hD : va_D A (rb_w cI o (rb_s (rb_s (rb_t v 0) 2 (7 * r + 2) (((rb_t v 0).1 2 (7 * r + 2)) + x)) 2 (7 * r + 3) (((rb_s (rb_t v 0) 2 (7 * r + 2) (((rb_t v 0).1 2 (7 * r + 2)) + x)).1 2 (7 * r + 3)) + 0))) := hD
    have hP : va_P D vwCl (rb_w cI o (rb_s (rb_s (rb_t v 0) 2 (7 * r + 2) (((rb_t v 0).1 2 (7 * r + 2)) + x)) 2 (7 * r + 3) (((rb_s (rb_t v 0) 2 (7 * r + 2) (((rb_t v 0).1 2 (7 * r + 2)) + x)).1 2 (7 * r + 3)) + 0))) H := hP
    have hD : va_D A (rb_w cI o (rb_s (rb_s (rb_t v 0) 2 (7 * r + 2) (((rb_t v 0).1 2 (7 * r + 2)) + x)) 2 (7 * r + 3) (((rb_s (rb_t v 0) 2 (7 * r + 2) (((rb_t v 0).1 2 (7 * r + 2)) + x)).1 2 (7 * r + 3)) + 0))) := hD
    refine lv_aload_n hx hb dX1_work_90 rfl (lv_at hl 0 rfl) ?_
    refine lv_iload_n hx hb dX1_work_91 rfl (lv_at hl 1 rfl) ?_
    refine lv_iconst (v := 2) hx hb dX1_work_92 (by decide) ?_
    refine g_ci (wr := []) (cells' := 0) (slots' := 0) rfl rfl C rd_nil hD hS (g_runV (wr := []) (n := 2) C (mX1_re l D t cI o H.size (rb_s (rb_s (rb_t v 0) 2 (7 * r + 2) (((rb_t v 0).1 2 (7 * r + 2)) + x)) 2 (7 * r + 3) (((rb_s (rb_t v 0) 2 (7 * r + 2) (((rb_t v 0).1 2 (7 * r + 2)) + x)).1 2 (7 * r + 3)) + 0)) r 2 (by omega) (by omega)) (rw_V q128 q129 q130 q5 q131) kd_X1_re ⟨Nat.le_of_ble_eq_true rfl, Nat.le_of_ble_eq_true rfl⟩ (ci := 1) rfl rfl rfl C.2.2.2.2.2.1 hP hD hS hl.1 rfl rfl (Nat.le_of_ble_eq_true rfl) dX1_work_93 ⟨Nat.le_of_ble_eq_true rfl, Nat.le_of_ble_eq_true rfl⟩) (fun r12 w' H locs hv _ _ hP hD hS => ?_)
    obtain ⟨rfl, rfl⟩ := hv
    have hD : va_D A (rb_w cI o (rb_s (rb_s (rb_t v 0) 2 (7 * r + 2) (((rb_t v 0).1 2 (7 * r + 2)) + x)) 2 (7 * r + 3) (((rb_s (rb_t v 0) 2 (7 * r + 2) (((rb_t v 0).1 2 (7 * r + 2)) + x)).1 2 (7 * r + 3)) + 0))) := hD
    exact g_iret C hrt hP hD hS dX1_work_96 ⟨by skip; exact (rb_sO (by omega)).trans rb_sS, by skip; exact ⟨_, rfl⟩⟩
  · refine lv_iconst (v := 1) hx hb dX1_work_81 (by decide) ?_
    refine lv_goto (tgt := 86) hx hb dX1_work_82 (by decide) ?_
    refine lv_iadd hx hb dX1_work_86 ?_
    refine g_cv (wr := []) (cells' := 0) (slots' := 0) rfl rfl C rd_nil hD hS (g_runV (wr := []) (n := 3) C (mX1_let l D t cI o H.size (rb_s (rb_t v 0) 2 (7 * r + 2) (((rb_t v 0).1 2 (7 * r + 2)) + x)) r 3 (by omega) (by omega) (((rb_s (rb_t v 0) 2 (7 * r + 2) (((rb_t v 0).1 2 (7 * r + 2)) + x)).1 2 (7 * r + 3)) + 1)) (rw_V q68 q69 q70 q5 q71) kd_X1_let ⟨Nat.le_of_ble_eq_true rfl, Nat.le_of_ble_eq_true rfl⟩ (ci := 1) rfl rfl rfl C.2.2.2.2.2.1 hP hD hS hl.1 rfl rfl (Nat.le_of_ble_eq_true rfl) dX1_work_87 ⟨Nat.le_of_ble_eq_true rfl, Nat.le_of_ble_eq_true rfl⟩) (fun w' H locs hv _ _ hP hD hS => ?_)
    subst hv
    have hD : va_D A (rb_w cI o (rb_s (rb_s (rb_t v 0) 2 (7 * r + 2) (((rb_t v 0).1 2 (7 * r + 2)) + x)) 2 (7 * r + 3) (((rb_s (rb_t v 0) 2 (7 * r + 2) (((rb_t v 0).1 2 (7 * r + 2)) + x)).1 2 (7 * r + 3)) + 1))) := hD
    have hP : va_P D vwCl (rb_w cI o (rb_s (rb_s (rb_t v 0) 2 (7 * r + 2) (((rb_t v 0).1 2 (7 * r + 2)) + x)) 2 (7 * r + 3) (((rb_s (rb_t v 0) 2 (7 * r + 2) (((rb_t v 0).1 2 (7 * r + 2)) + x)).1 2 (7 * r + 3)) + 1))) H := hP
    have hD : va_D A (rb_w cI o (rb_s (rb_s (rb_t v 0) 2 (7 * r + 2) (((rb_t v 0).1 2 (7 * r + 2)) + x)) 2 (7 * r + 3) (((rb_s (rb_t v 0) 2 (7 * r + 2) (((rb_t v 0).1 2 (7 * r + 2)) + x)).1 2 (7 * r + 3)) + 1))) := hD
    refine lv_aload_n hx hb dX1_work_90 rfl (lv_at hl 0 rfl) ?_
    refine lv_iload_n hx hb dX1_work_91 rfl (lv_at hl 1 rfl) ?_
    refine lv_iconst (v := 2) hx hb dX1_work_92 (by decide) ?_
    refine g_ci (wr := []) (cells' := 0) (slots' := 0) rfl rfl C rd_nil hD hS (g_runV (wr := []) (n := 2) C (mX1_re l D t cI o H.size (rb_s (rb_s (rb_t v 0) 2 (7 * r + 2) (((rb_t v 0).1 2 (7 * r + 2)) + x)) 2 (7 * r + 3) (((rb_s (rb_t v 0) 2 (7 * r + 2) (((rb_t v 0).1 2 (7 * r + 2)) + x)).1 2 (7 * r + 3)) + 1)) r 2 (by omega) (by omega)) (rw_V q128 q129 q130 q5 q131) kd_X1_re ⟨Nat.le_of_ble_eq_true rfl, Nat.le_of_ble_eq_true rfl⟩ (ci := 1) rfl rfl rfl C.2.2.2.2.2.1 hP hD hS hl.1 rfl rfl (Nat.le_of_ble_eq_true rfl) dX1_work_93 ⟨Nat.le_of_ble_eq_true rfl, Nat.le_of_ble_eq_true rfl⟩) (fun r14 w' H locs hv _ _ hP hD hS => ?_)
    obtain ⟨rfl, rfl⟩ := hv
    have hD : va_D A (rb_w cI o (rb_s (rb_s (rb_t v 0) 2 (7 * r + 2) (((rb_t v 0).1 2 (7 * r + 2)) + x)) 2 (7 * r + 3) (((rb_s (rb_t v 0) 2 (7 * r + 2) (((rb_t v 0).1 2 (7 * r + 2)) + x)).1 2 (7 * r + 3)) + 1))) := hD
    exact g_iret C hrt hP hD hS dX1_work_96 ⟨by skip; exact (rb_sO (by omega)).trans rb_sS, by skip; exact ⟨_, rfl⟩⟩
