theorem rb_ss {v : S1} {k i : Nat} {x : Int32} : (rb_s (rb_s v k i x) k i (v.1 k i)).1 k = v.1 k := by
  unfold rb_s
  rw [rb_uS, rb_uS]
  funext j
  by_cases h : j = i
  · subst h
    simp [upd]
  · simp [upd, h]
set_option maxHeartbeats 4000000 in
set_option maxRecDepth 100000 in
theorem wX1_told (l : Launch) (D : va_G) (t : Nat → Nat) (cI : ClassId) (o : Nat) (sz : Nat) (v : S1) (hn : v.2.1 ≤ 8) (r : Nat) (hr : r < v.2.1) (k : Nat) (hk : k < 8) : gMi l yX1_told (rw_ yX1_told cX1_told 3 (some .int)) (rm_ 3 0 0 66) [.ref o, .int (nI r), .int (nI k)] D [(cI, .int)] t (rb_w cI o v) sz (fun _ w' => ∃ v', rb_E v v' ∧ w' = rb_w cI o v') := by
  refine g_of (cc := cX1_told) (nL := 3) (rt := (some .int)) (Q := fun A => va_Qi _ (fun w' U => gQ D A w' U) A) (by decide) (Nat.le_of_ble_eq_true rfl) (fun p e s m args below meth c A ls H C hrt hnm hS hP hD hl => ?_)
  have hx := C.1
  have hb := C.2.1
  have hown := C.2.2.2.1
  have hts := C.2.2.2.2.1
  have hl : lv_has ls 3 [(0, .ref o), (1, .int (nI r)), (2, .int (nI k))] := hl
  refine lv_aload_n hx hb dX1_told_0 rfl (lv_at hl 0 rfl) ?_
  refine lv_iconst (v := 0) hx hb dX1_told_1 (by decide) ?_
  refine x1_pt C hP hD hS q59 dX1_told_2 (fun H locs hP hD hS => ?_)
  have hP : va_P D vwCl (rb_w cI o (rb_t v 0)) H := hP
  have hD : va_D A (rb_w cI o (rb_t v 0)) := hD
  refine lv_aload_n hx hb dX1_told_5 rfl (lv_at hl 0 rfl) ?_
  refine lv_iload_n hx hb dX1_told_6 rfl (lv_at hl 1 rfl) ?_
  refine g_ci (wr := []) (cells' := 0) (slots' := 0) rfl rfl C rd_nil hD hS (g_runV (wr := []) (n := 1) C (mX1_isReaper l D t cI o H.size (rb_t v 0) (nI r)) (rw_V q124 q125 q126 q5 q127) kd_X1_isReaper ⟨Nat.le_of_ble_eq_true rfl, Nat.le_of_ble_eq_true rfl⟩ (ci := 1) rfl rfl rfl C.2.2.2.2.2.1 hP hD hS hl.1 rfl rfl (Nat.le_of_ble_eq_true rfl) dX1_told_7 ⟨Nat.le_of_ble_eq_true rfl, Nat.le_of_ble_eq_true rfl⟩) (fun r1 w' H locs hv _ _ hP hD hS => ?_)
  obtain ⟨rfl, rfl⟩ := hv
  have hD : va_D A (rb_w cI o (rb_t v 0)) := hD
  refine g_top (y := 1) (rb_reY hn hr) ?_
  refine lv_if_eq (tgt := 32) hx hb dX1_told_10 (by decide) (fun c2 => absurd c2 (by decide)) (fun c2 => ?_)
  refine lv_iload_n hx hb dX1_told_13 rfl (lv_at hl 2 rfl) ?_
  refine lv_iconst (v := 0) hx hb dX1_told_14 (by decide) ?_
  refine lv_bipush (v := 7) hx hb dX1_told_15 (by decide) ?_
  refine g_ci (wr := []) (cells' := 0) (slots' := 0) rfl rfl C rd_nil hD hS (g_runS (wr := []) (n := 3) (As := [.int (nI k), .int 0, .int 7]) C (mX1_isIn l D t [(cI, .int)] (rb_w cI o (rb_t v 0)) H.size (nI k) 0 7) (rw_S q61 q62 q5 q63) kd_X1_isIn ⟨Nat.le_of_ble_eq_true rfl, Nat.le_of_ble_eq_true rfl⟩ C.2.2.2.2.2.1 hP hD hS hl.1 rfl rfl (Nat.le_of_ble_eq_true rfl) dX1_told_17 ⟨Nat.le_of_ble_eq_true rfl, Nat.le_of_ble_eq_true rfl⟩) (fun r3 w' H locs hv _ _ hP hD hS => ?_)
  obtain ⟨rfl, rfl⟩ := hv
  have hD : va_D A (rb_w cI o (rb_t v 0)) := hD
  refine g_top (y := 1) (rb_kY (n := 7) (by decide) hk) ?_
  refine lv_if_eq (tgt := 32) hx hb dX1_told_20 (by decide) (fun c4 => absurd c4 (by decide)) (fun c4 => ?_)
  refine lv_aload_n hx hb dX1_told_23 rfl (lv_at hl 0 rfl) ?_
  refine lv_iload_n hx hb dX1_told_24 rfl (lv_at hl 1 rfl) ?_
  refine lv_iload_n hx hb dX1_told_25 rfl (lv_at hl 2 rfl) ?_
  refine g_ci (wr := []) (cells' := 0) (slots' := 0) rfl rfl C rd_nil hD hS (g_runV (wr := []) (n := 2) C (mX1_reaperTold l D t cI o H.size (rb_t v 0) r (by omega) k (by omega)) (rw_V q254 q255 q256 q5 q257) kd_X1_reaperTold ⟨Nat.le_of_ble_eq_true rfl, Nat.le_of_ble_eq_true rfl⟩ (ci := 1) rfl rfl rfl C.2.2.2.2.2.1 hP hD hS hl.1 rfl rfl (Nat.le_of_ble_eq_true rfl) dX1_told_26 ⟨Nat.le_of_ble_eq_true rfl, Nat.le_of_ble_eq_true rfl⟩) (fun r5 w' H locs hv _ _ hP hD hS => ?_)
  subst hv
  have hD : va_D A (rb_w cI o (rb_t v 0)) := hD
  refine lv_goto (tgt := 37) hx hb dX1_told_29 (by decide) ?_
  exact g_iret C hrt hP hD hS dX1_told_37 (by skip; refine ⟨_, ?_, rfl⟩; exact ⟨rfl, rfl, fun _ _ => ⟨rfl, rfl⟩⟩)
set_option maxHeartbeats 4000000 in
set_option maxRecDepth 100000 in
theorem wbX1_told1 (l : Launch) (D : va_G) (t : Nat → Nat) (cI : ClassId) (o : Nat) (sz : Nat) (v : S1) (hn : v.2.1 ≤ 8) (x0 x1 : Int32) (h : x0 < 0 ∨ nI v.2.1 ≤ x0) : gMi l yX1_told (rw_ yX1_told cX1_told 3 (some .int)) (rm_ 2 0 0 43) [.ref o, .int x0, .int x1] D [(cI, .int)] t (rb_w cI o v) sz (fun _ w' => ∃ v', rb_E v v' ∧ w' = rb_w cI o v') := by
  refine g_of (cc := cX1_told) (nL := 3) (rt := (some .int)) (Q := fun A => va_Qi _ (fun w' U => gQ D A w' U) A) (by decide) (Nat.le_of_ble_eq_true rfl) (fun p e s m args below meth c A ls H C hrt hnm hS hP hD hl => ?_)
  have hx := C.1
  have hb := C.2.1
  have hown := C.2.2.2.1
  have hts := C.2.2.2.2.1
  have hl : lv_has ls 3 [(0, .ref o), (1, .int x0), (2, .int x1)] := hl
  refine lv_aload_n hx hb dX1_told_0 rfl (lv_at hl 0 rfl) ?_
  refine lv_iconst (v := 0) hx hb dX1_told_1 (by decide) ?_
  refine x1_pt C hP hD hS q59 dX1_told_2 (fun H locs hP hD hS => ?_)
  have hP : va_P D vwCl (rb_w cI o (rb_t v 0)) H := hP
  have hD : va_D A (rb_w cI o (rb_t v 0)) := hD
  refine lv_aload_n hx hb dX1_told_5 rfl (lv_at hl 0 rfl) ?_
  refine lv_iload_n hx hb dX1_told_6 rfl (lv_at hl 1 rfl) ?_
  refine g_ci (wr := []) (cells' := 0) (slots' := 0) rfl rfl C rd_nil hD hS (g_runV (wr := []) (n := 1) C (mX1_isReaper l D t cI o H.size (rb_t v 0) x0) (rw_V q124 q125 q126 q5 q127) kd_X1_isReaper ⟨Nat.le_of_ble_eq_true rfl, Nat.le_of_ble_eq_true rfl⟩ (ci := 1) rfl rfl rfl C.2.2.2.2.2.1 hP hD hS hl.1 rfl rfl (Nat.le_of_ble_eq_true rfl) dX1_told_7 ⟨Nat.le_of_ble_eq_true rfl, Nat.le_of_ble_eq_true rfl⟩) (fun r1 w' H locs hv _ _ hP hD hS => ?_)
  obtain ⟨rfl, rfl⟩ := hv
  have hD : va_D A (rb_w cI o (rb_t v 0)) := hD
  refine g_top (y := 0) (rb_reN hn h) ?_
  refine lv_if_eq (tgt := 32) hx hb dX1_told_10 (by decide) (fun c2 => ?_) (fun c2 => absurd (by decide) c2)
  refine lv_aload_n hx hb dX1_told_32 rfl (lv_at hl 0 rfl) ?_
  refine lv_iconst (v := 1) hx hb dX1_told_33 (by decide) ?_
  refine g_ci (wr := []) (cells' := 0) (slots' := 0) rfl rfl C rd_nil hD hS (g_runV (wr := []) (n := 1) C (mX1_fail l D t cI o H.size (rb_t v 0) 1) (rw_V q64 q65 q66 q5 q67) kd_X1_fail ⟨Nat.le_of_ble_eq_true rfl, Nat.le_of_ble_eq_true rfl⟩ (ci := 1) rfl rfl rfl C.2.2.2.2.2.1 hP hD hS hl.1 rfl rfl (Nat.le_of_ble_eq_true rfl) dX1_told_34 ⟨Nat.le_of_ble_eq_true rfl, Nat.le_of_ble_eq_true rfl⟩) (fun r3 w' H locs hv _ _ hP hD hS => ?_)
  obtain ⟨rfl, rfl⟩ := hv
  have hD : va_D A (rb_w cI o (rb_t (rb_t v 0) 1)) := hD
  have hP : va_P D vwCl (rb_w cI o (rb_t (rb_t v 0) 1)) H := hP
  have hD : va_D A (rb_w cI o (rb_t (rb_t v 0) 1)) := hD
  exact g_iret C hrt hP hD hS dX1_told_37 (by skip; refine ⟨_, ?_, rfl⟩; exact ⟨rfl, rfl, fun _ _ => ⟨rfl, rfl⟩⟩)
set_option maxHeartbeats 4000000 in
set_option maxRecDepth 100000 in
theorem wbX1_told2 (l : Launch) (D : va_G) (t : Nat → Nat) (cI : ClassId) (o : Nat) (sz : Nat) (v : S1) (hn : v.2.1 ≤ 8) (r : Nat) (hr : r < v.2.1) (x1 : Int32) (h : x1 < 0 ∨ 8 ≤ x1) : gMi l yX1_told (rw_ yX1_told cX1_told 3 (some .int)) (rm_ 2 0 0 43) [.ref o, .int (nI r), .int x1] D [(cI, .int)] t (rb_w cI o v) sz (fun _ w' => ∃ v', rb_E v v' ∧ w' = rb_w cI o v') := by
  refine g_of (cc := cX1_told) (nL := 3) (rt := (some .int)) (Q := fun A => va_Qi _ (fun w' U => gQ D A w' U) A) (by decide) (Nat.le_of_ble_eq_true rfl) (fun p e s m args below meth c A ls H C hrt hnm hS hP hD hl => ?_)
  have hx := C.1
  have hb := C.2.1
  have hown := C.2.2.2.1
  have hts := C.2.2.2.2.1
  have hl : lv_has ls 3 [(0, .ref o), (1, .int (nI r)), (2, .int x1)] := hl
  refine lv_aload_n hx hb dX1_told_0 rfl (lv_at hl 0 rfl) ?_
  refine lv_iconst (v := 0) hx hb dX1_told_1 (by decide) ?_
  refine x1_pt C hP hD hS q59 dX1_told_2 (fun H locs hP hD hS => ?_)
  have hP : va_P D vwCl (rb_w cI o (rb_t v 0)) H := hP
  have hD : va_D A (rb_w cI o (rb_t v 0)) := hD
  refine lv_aload_n hx hb dX1_told_5 rfl (lv_at hl 0 rfl) ?_
  refine lv_iload_n hx hb dX1_told_6 rfl (lv_at hl 1 rfl) ?_
  refine g_ci (wr := []) (cells' := 0) (slots' := 0) rfl rfl C rd_nil hD hS (g_runV (wr := []) (n := 1) C (mX1_isReaper l D t cI o H.size (rb_t v 0) (nI r)) (rw_V q124 q125 q126 q5 q127) kd_X1_isReaper ⟨Nat.le_of_ble_eq_true rfl, Nat.le_of_ble_eq_true rfl⟩ (ci := 1) rfl rfl rfl C.2.2.2.2.2.1 hP hD hS hl.1 rfl rfl (Nat.le_of_ble_eq_true rfl) dX1_told_7 ⟨Nat.le_of_ble_eq_true rfl, Nat.le_of_ble_eq_true rfl⟩) (fun r1 w' H locs hv _ _ hP hD hS => ?_)
  obtain ⟨rfl, rfl⟩ := hv
  have hD : va_D A (rb_w cI o (rb_t v 0)) := hD
  refine g_top (y := 1) (rb_reY hn hr) ?_
  refine lv_if_eq (tgt := 32) hx hb dX1_told_10 (by decide) (fun c2 => absurd c2 (by decide)) (fun c2 => ?_)
  refine lv_iload_n hx hb dX1_told_13 rfl (lv_at hl 2 rfl) ?_
  refine lv_iconst (v := 0) hx hb dX1_told_14 (by decide) ?_
  refine lv_bipush (v := 7) hx hb dX1_told_15 (by decide) ?_
  refine g_ci (wr := []) (cells' := 0) (slots' := 0) rfl rfl C rd_nil hD hS (g_runS (wr := []) (n := 3) (As := [.int x1, .int 0, .int 7]) C (mX1_isIn l D t [(cI, .int)] (rb_w cI o (rb_t v 0)) H.size x1 0 7) (rw_S q61 q62 q5 q63) kd_X1_isIn ⟨Nat.le_of_ble_eq_true rfl, Nat.le_of_ble_eq_true rfl⟩ C.2.2.2.2.2.1 hP hD hS hl.1 rfl rfl (Nat.le_of_ble_eq_true rfl) dX1_told_17 ⟨Nat.le_of_ble_eq_true rfl, Nat.le_of_ble_eq_true rfl⟩) (fun r3 w' H locs hv _ _ hP hD hS => ?_)
  obtain ⟨rfl, rfl⟩ := hv
  have hD : va_D A (rb_w cI o (rb_t v 0)) := hD
  refine g_top (y := 0) (rb_kN (n := 7) (by decide) h) ?_
  refine lv_if_eq (tgt := 32) hx hb dX1_told_20 (by decide) (fun c4 => ?_) (fun c4 => absurd (by decide) c4)
  refine lv_aload_n hx hb dX1_told_32 rfl (lv_at hl 0 rfl) ?_
  refine lv_iconst (v := 1) hx hb dX1_told_33 (by decide) ?_
  refine g_ci (wr := []) (cells' := 0) (slots' := 0) rfl rfl C rd_nil hD hS (g_runV (wr := []) (n := 1) C (mX1_fail l D t cI o H.size (rb_t v 0) 1) (rw_V q64 q65 q66 q5 q67) kd_X1_fail ⟨Nat.le_of_ble_eq_true rfl, Nat.le_of_ble_eq_true rfl⟩ (ci := 1) rfl rfl rfl C.2.2.2.2.2.1 hP hD hS hl.1 rfl rfl (Nat.le_of_ble_eq_true rfl) dX1_told_34 ⟨Nat.le_of_ble_eq_true rfl, Nat.le_of_ble_eq_true rfl⟩) (fun r5 w' H locs hv _ _ hP hD hS => ?_)
  obtain ⟨rfl, rfl⟩ := hv
  have hD : va_D A (rb_w cI o (rb_t (rb_t v 0) 1)) := hD
  have hP : va_P D vwCl (rb_w cI o (rb_t (rb_t v 0) 1)) H := hP
  have hD : va_D A (rb_w cI o (rb_t (rb_t v 0) 1)) := hD
  exact g_iret C hrt hP hD hS dX1_told_37 (by skip; refine ⟨_, ?_, rfl⟩; exact ⟨rfl, rfl, fun _ _ => ⟨rfl, rfl⟩⟩)
set_option maxHeartbeats 4000000 in
set_option maxRecDepth 100000 in
theorem wX1_wage (l : Launch) (D : va_G) (t : Nat → Nat) (cI : ClassId) (o : Nat) (sz : Nat) (v : S1) (hn : v.2.1 ≤ 8) (hp : ¬ v.1 0 4 = 0) (r : Nat) (hr : r < v.2.1) (k : Nat) (hk : k < 6) : gMi l yX1_wage (rw_ yX1_wage cX1_wage 3 (some .int)) (rm_ 7 0 0 150) [.ref o, .int (nI r), .int (nI k)] D [(cI, .int)] t (rb_w cI o v) sz (fun _ w' => ∃ v', rb_E v v' ∧ w' = rb_w cI o v') := by
  refine g_of (cc := cX1_wage) (nL := 3) (rt := (some .int)) (Q := fun A => va_Qi _ (fun w' U => gQ D A w' U) A) (by decide) (Nat.le_of_ble_eq_true rfl) (fun p e s m args below meth c A ls H C hrt hnm hS hP hD hl => ?_)
  have hx := C.1
  have hb := C.2.1
  have hown := C.2.2.2.1
  have hts := C.2.2.2.2.1
  have hl : lv_has ls 3 [(0, .ref o), (1, .int (nI r)), (2, .int (nI k))] := hl
  refine lv_aload_n hx hb dX1_wage_0 rfl (lv_at hl 0 rfl) ?_
  refine lv_iconst (v := 0) hx hb dX1_wage_1 (by decide) ?_
  refine x1_pt C hP hD hS q59 dX1_wage_2 (fun H locs hP hD hS => ?_)
  have hP : va_P D vwCl (rb_w cI o (rb_t v 0)) H := hP
  have hD : va_D A (rb_w cI o (rb_t v 0)) := hD
  refine lv_aload_n hx hb dX1_wage_5 rfl (lv_at hl 0 rfl) ?_
  refine lv_iload_n hx hb dX1_wage_6 rfl (lv_at hl 1 rfl) ?_
  refine g_ci (wr := []) (cells' := 0) (slots' := 0) rfl rfl C rd_nil hD hS (g_runV (wr := []) (n := 1) C (mX1_isReaper l D t cI o H.size (rb_t v 0) (nI r)) (rw_V q124 q125 q126 q5 q127) kd_X1_isReaper ⟨Nat.le_of_ble_eq_true rfl, Nat.le_of_ble_eq_true rfl⟩ (ci := 1) rfl rfl rfl C.2.2.2.2.2.1 hP hD hS hl.1 rfl rfl (Nat.le_of_ble_eq_true rfl) dX1_wage_7 ⟨Nat.le_of_ble_eq_true rfl, Nat.le_of_ble_eq_true rfl⟩) (fun r1 w' H locs hv _ _ hP hD hS => ?_)
  obtain ⟨rfl, rfl⟩ := hv
  have hD : va_D A (rb_w cI o (rb_t v 0)) := hD
  refine g_top (y := 1) (rb_reY hn hr) ?_
  refine lv_if_eq (tgt := 31) hx hb dX1_wage_10 (by decide) (fun c2 => absurd c2 (by decide)) (fun c2 => ?_)
  refine lv_iload_n hx hb dX1_wage_13 rfl (lv_at hl 2 rfl) ?_
  refine lv_iconst (v := 0) hx hb dX1_wage_14 (by decide) ?_
  refine lv_iconst (v := 5) hx hb dX1_wage_15 (by decide) ?_
  refine g_ci (wr := []) (cells' := 0) (slots' := 0) rfl rfl C rd_nil hD hS (g_runS (wr := []) (n := 3) (As := [.int (nI k), .int 0, .int 5]) C (mX1_isIn l D t [(cI, .int)] (rb_w cI o (rb_t v 0)) H.size (nI k) 0 5) (rw_S q61 q62 q5 q63) kd_X1_isIn ⟨Nat.le_of_ble_eq_true rfl, Nat.le_of_ble_eq_true rfl⟩ C.2.2.2.2.2.1 hP hD hS hl.1 rfl rfl (Nat.le_of_ble_eq_true rfl) dX1_wage_16 ⟨Nat.le_of_ble_eq_true rfl, Nat.le_of_ble_eq_true rfl⟩) (fun r3 w' H locs hv _ _ hP hD hS => ?_)
  obtain ⟨rfl, rfl⟩ := hv
  have hD : va_D A (rb_w cI o (rb_t v 0)) := hD
  refine g_top (y := 1) (rb_kY (n := 5) (by decide) hk) ?_
  refine lv_if_eq (tgt := 31) hx hb dX1_wage_19 (by decide) (fun c4 => absurd c4 (by decide)) (fun c4 => ?_)
  refine lv_aload_n hx hb dX1_wage_22 rfl (lv_at hl 0 rfl) ?_
  refine lv_iload_n hx hb dX1_wage_23 rfl (lv_at hl 1 rfl) ?_
  refine lv_iload_n hx hb dX1_wage_24 rfl (lv_at hl 2 rfl) ?_
  refine g_ci (wr := []) (cells' := 0) (slots' := 0) rfl rfl C rd_nil hD hS (g_runV (wr := []) (n := 2) C (mX1_wageTold l D t cI o H.size (rb_t v 0) hp r (by omega) k (by omega)) (rw_V q273 q274 q275 q5 q276) kd_X1_wageTold ⟨Nat.le_of_ble_eq_true rfl, Nat.le_of_ble_eq_true rfl⟩ (ci := 1) rfl rfl rfl C.2.2.2.2.2.1 hP hD hS hl.1 rfl rfl (Nat.le_of_ble_eq_true rfl) dX1_wage_25 ⟨Nat.le_of_ble_eq_true rfl, Nat.le_of_ble_eq_true rfl⟩) (fun r5 w' H locs hv _ _ hP hD hS => ?_)
  subst hv
  have hD : va_D A (rb_w cI o (rb_t v 0)) := hD
  refine lv_goto (tgt := 36) hx hb dX1_wage_28 (by decide) ?_
  exact g_iret C hrt hP hD hS dX1_wage_36 (by skip; refine ⟨_, ?_, rfl⟩; exact ⟨rfl, rfl, fun _ _ => ⟨rfl, rfl⟩⟩)
set_option maxHeartbeats 4000000 in
set_option maxRecDepth 100000 in
theorem wbX1_wage1 (l : Launch) (D : va_G) (t : Nat → Nat) (cI : ClassId) (o : Nat) (sz : Nat) (v : S1) (hn : v.2.1 ≤ 8) (x0 x1 : Int32) (h : x0 < 0 ∨ nI v.2.1 ≤ x0) : gMi l yX1_wage (rw_ yX1_wage cX1_wage 3 (some .int)) (rm_ 2 0 0 43) [.ref o, .int x0, .int x1] D [(cI, .int)] t (rb_w cI o v) sz (fun _ w' => ∃ v', rb_E v v' ∧ w' = rb_w cI o v') := by
  refine g_of (cc := cX1_wage) (nL := 3) (rt := (some .int)) (Q := fun A => va_Qi _ (fun w' U => gQ D A w' U) A) (by decide) (Nat.le_of_ble_eq_true rfl) (fun p e s m args below meth c A ls H C hrt hnm hS hP hD hl => ?_)
  have hx := C.1
  have hb := C.2.1
  have hown := C.2.2.2.1
  have hts := C.2.2.2.2.1
  have hl : lv_has ls 3 [(0, .ref o), (1, .int x0), (2, .int x1)] := hl
  refine lv_aload_n hx hb dX1_wage_0 rfl (lv_at hl 0 rfl) ?_
  refine lv_iconst (v := 0) hx hb dX1_wage_1 (by decide) ?_
  refine x1_pt C hP hD hS q59 dX1_wage_2 (fun H locs hP hD hS => ?_)
  have hP : va_P D vwCl (rb_w cI o (rb_t v 0)) H := hP
  have hD : va_D A (rb_w cI o (rb_t v 0)) := hD
  refine lv_aload_n hx hb dX1_wage_5 rfl (lv_at hl 0 rfl) ?_
  refine lv_iload_n hx hb dX1_wage_6 rfl (lv_at hl 1 rfl) ?_
  refine g_ci (wr := []) (cells' := 0) (slots' := 0) rfl rfl C rd_nil hD hS (g_runV (wr := []) (n := 1) C (mX1_isReaper l D t cI o H.size (rb_t v 0) x0) (rw_V q124 q125 q126 q5 q127) kd_X1_isReaper ⟨Nat.le_of_ble_eq_true rfl, Nat.le_of_ble_eq_true rfl⟩ (ci := 1) rfl rfl rfl C.2.2.2.2.2.1 hP hD hS hl.1 rfl rfl (Nat.le_of_ble_eq_true rfl) dX1_wage_7 ⟨Nat.le_of_ble_eq_true rfl, Nat.le_of_ble_eq_true rfl⟩) (fun r1 w' H locs hv _ _ hP hD hS => ?_)
  obtain ⟨rfl, rfl⟩ := hv
  have hD : va_D A (rb_w cI o (rb_t v 0)) := hD
  refine g_top (y := 0) (rb_reN hn h) ?_
  refine lv_if_eq (tgt := 31) hx hb dX1_wage_10 (by decide) (fun c2 => ?_) (fun c2 => absurd (by decide) c2)
  refine lv_aload_n hx hb dX1_wage_31 rfl (lv_at hl 0 rfl) ?_
  refine lv_iconst (v := 1) hx hb dX1_wage_32 (by decide) ?_
  refine g_ci (wr := []) (cells' := 0) (slots' := 0) rfl rfl C rd_nil hD hS (g_runV (wr := []) (n := 1) C (mX1_fail l D t cI o H.size (rb_t v 0) 1) (rw_V q64 q65 q66 q5 q67) kd_X1_fail ⟨Nat.le_of_ble_eq_true rfl, Nat.le_of_ble_eq_true rfl⟩ (ci := 1) rfl rfl rfl C.2.2.2.2.2.1 hP hD hS hl.1 rfl rfl (Nat.le_of_ble_eq_true rfl) dX1_wage_33 ⟨Nat.le_of_ble_eq_true rfl, Nat.le_of_ble_eq_true rfl⟩) (fun r3 w' H locs hv _ _ hP hD hS => ?_)
  obtain ⟨rfl, rfl⟩ := hv
  have hD : va_D A (rb_w cI o (rb_t (rb_t v 0) 1)) := hD
  have hP : va_P D vwCl (rb_w cI o (rb_t (rb_t v 0) 1)) H := hP
  have hD : va_D A (rb_w cI o (rb_t (rb_t v 0) 1)) := hD
  exact g_iret C hrt hP hD hS dX1_wage_36 (by skip; refine ⟨_, ?_, rfl⟩; exact ⟨rfl, rfl, fun _ _ => ⟨rfl, rfl⟩⟩)
set_option maxHeartbeats 4000000 in
set_option maxRecDepth 100000 in
theorem wbX1_wage2 (l : Launch) (D : va_G) (t : Nat → Nat) (cI : ClassId) (o : Nat) (sz : Nat) (v : S1) (hn : v.2.1 ≤ 8) (r : Nat) (hr : r < v.2.1) (x1 : Int32) (h : x1 < 0 ∨ 6 ≤ x1) : gMi l yX1_wage (rw_ yX1_wage cX1_wage 3 (some .int)) (rm_ 2 0 0 43) [.ref o, .int (nI r), .int x1] D [(cI, .int)] t (rb_w cI o v) sz (fun _ w' => ∃ v', rb_E v v' ∧ w' = rb_w cI o v') := by
  refine g_of (cc := cX1_wage) (nL := 3) (rt := (some .int)) (Q := fun A => va_Qi _ (fun w' U => gQ D A w' U) A) (by decide) (Nat.le_of_ble_eq_true rfl) (fun p e s m args below meth c A ls H C hrt hnm hS hP hD hl => ?_)
  have hx := C.1
  have hb := C.2.1
  have hown := C.2.2.2.1
  have hts := C.2.2.2.2.1
  have hl : lv_has ls 3 [(0, .ref o), (1, .int (nI r)), (2, .int x1)] := hl
  refine lv_aload_n hx hb dX1_wage_0 rfl (lv_at hl 0 rfl) ?_
  refine lv_iconst (v := 0) hx hb dX1_wage_1 (by decide) ?_
  refine x1_pt C hP hD hS q59 dX1_wage_2 (fun H locs hP hD hS => ?_)
  have hP : va_P D vwCl (rb_w cI o (rb_t v 0)) H := hP
  have hD : va_D A (rb_w cI o (rb_t v 0)) := hD
  refine lv_aload_n hx hb dX1_wage_5 rfl (lv_at hl 0 rfl) ?_
  refine lv_iload_n hx hb dX1_wage_6 rfl (lv_at hl 1 rfl) ?_
  refine g_ci (wr := []) (cells' := 0) (slots' := 0) rfl rfl C rd_nil hD hS (g_runV (wr := []) (n := 1) C (mX1_isReaper l D t cI o H.size (rb_t v 0) (nI r)) (rw_V q124 q125 q126 q5 q127) kd_X1_isReaper ⟨Nat.le_of_ble_eq_true rfl, Nat.le_of_ble_eq_true rfl⟩ (ci := 1) rfl rfl rfl C.2.2.2.2.2.1 hP hD hS hl.1 rfl rfl (Nat.le_of_ble_eq_true rfl) dX1_wage_7 ⟨Nat.le_of_ble_eq_true rfl, Nat.le_of_ble_eq_true rfl⟩) (fun r1 w' H locs hv _ _ hP hD hS => ?_)
  obtain ⟨rfl, rfl⟩ := hv
  have hD : va_D A (rb_w cI o (rb_t v 0)) := hD
  refine g_top (y := 1) (rb_reY hn hr) ?_
  refine lv_if_eq (tgt := 31) hx hb dX1_wage_10 (by decide) (fun c2 => absurd c2 (by decide)) (fun c2 => ?_)
  refine lv_iload_n hx hb dX1_wage_13 rfl (lv_at hl 2 rfl) ?_
  refine lv_iconst (v := 0) hx hb dX1_wage_14 (by decide) ?_
  refine lv_iconst (v := 5) hx hb dX1_wage_15 (by decide) ?_
  refine g_ci (wr := []) (cells' := 0) (slots' := 0) rfl rfl C rd_nil hD hS (g_runS (wr := []) (n := 3) (As := [.int x1, .int 0, .int 5]) C (mX1_isIn l D t [(cI, .int)] (rb_w cI o (rb_t v 0)) H.size x1 0 5) (rw_S q61 q62 q5 q63) kd_X1_isIn ⟨Nat.le_of_ble_eq_true rfl, Nat.le_of_ble_eq_true rfl⟩ C.2.2.2.2.2.1 hP hD hS hl.1 rfl rfl (Nat.le_of_ble_eq_true rfl) dX1_wage_16 ⟨Nat.le_of_ble_eq_true rfl, Nat.le_of_ble_eq_true rfl⟩) (fun r3 w' H locs hv _ _ hP hD hS => ?_)
  obtain ⟨rfl, rfl⟩ := hv
  have hD : va_D A (rb_w cI o (rb_t v 0)) := hD
  refine g_top (y := 0) (rb_kN (n := 5) (by decide) h) ?_
  refine lv_if_eq (tgt := 31) hx hb dX1_wage_19 (by decide) (fun c4 => ?_) (fun c4 => absurd (by decide) c4)
  refine lv_aload_n hx hb dX1_wage_31 rfl (lv_at hl 0 rfl) ?_
  refine lv_iconst (v := 1) hx hb dX1_wage_32 (by decide) ?_
  refine g_ci (wr := []) (cells' := 0) (slots' := 0) rfl rfl C rd_nil hD hS (g_runV (wr := []) (n := 1) C (mX1_fail l D t cI o H.size (rb_t v 0) 1) (rw_V q64 q65 q66 q5 q67) kd_X1_fail ⟨Nat.le_of_ble_eq_true rfl, Nat.le_of_ble_eq_true rfl⟩ (ci := 1) rfl rfl rfl C.2.2.2.2.2.1 hP hD hS hl.1 rfl rfl (Nat.le_of_ble_eq_true rfl) dX1_wage_33 ⟨Nat.le_of_ble_eq_true rfl, Nat.le_of_ble_eq_true rfl⟩) (fun r5 w' H locs hv _ _ hP hD hS => ?_)
  obtain ⟨rfl, rfl⟩ := hv
  have hD : va_D A (rb_w cI o (rb_t (rb_t v 0) 1)) := hD
  have hP : va_P D vwCl (rb_w cI o (rb_t (rb_t v 0) 1)) H := hP
  have hD : va_D A (rb_w cI o (rb_t (rb_t v 0) 1)) := hD
  exact g_iret C hrt hP hD hS dX1_wage_36 (by skip; refine ⟨_, ?_, rfl⟩; exact ⟨rfl, rfl, fun _ _ => ⟨rfl, rfl⟩⟩)
set_option maxHeartbeats 4000000 in
set_option maxRecDepth 100000 in
theorem wbX1_coins1 (l : Launch) (D : va_G) (t : Nat → Nat) (cI : ClassId) (o : Nat) (sz : Nat) (v : S1) (hn : v.2.1 ≤ 8) (x0 x1 : Int32) (h : x0 < 0 ∨ nI v.2.1 ≤ x0) : gMi l yX1_coins (rw_ yX1_coins cX1_coins 3 (some .int)) (rm_ 2 0 0 43) [.ref o, .int x0, .int x1] D [(cI, .int)] t (rb_w cI o v) sz (fun _ w' => ∃ v', rb_E v v' ∧ w' = rb_w cI o v') := by
  refine g_of (cc := cX1_coins) (nL := 3) (rt := (some .int)) (Q := fun A => va_Qi _ (fun w' U => gQ D A w' U) A) (by decide) (Nat.le_of_ble_eq_true rfl) (fun p e s m args below meth c A ls H C hrt hnm hS hP hD hl => ?_)
  have hx := C.1
  have hb := C.2.1
  have hown := C.2.2.2.1
  have hts := C.2.2.2.2.1
  have hl : lv_has ls 3 [(0, .ref o), (1, .int x0), (2, .int x1)] := hl
  refine lv_aload_n hx hb dX1_coins_0 rfl (lv_at hl 0 rfl) ?_
  refine lv_iconst (v := 0) hx hb dX1_coins_1 (by decide) ?_
  refine x1_pt C hP hD hS q59 dX1_coins_2 (fun H locs hP hD hS => ?_)
  have hP : va_P D vwCl (rb_w cI o (rb_t v 0)) H := hP
  have hD : va_D A (rb_w cI o (rb_t v 0)) := hD
  refine lv_aload_n hx hb dX1_coins_5 rfl (lv_at hl 0 rfl) ?_
  refine lv_iload_n hx hb dX1_coins_6 rfl (lv_at hl 1 rfl) ?_
  refine g_ci (wr := []) (cells' := 0) (slots' := 0) rfl rfl C rd_nil hD hS (g_runV (wr := []) (n := 1) C (mX1_isReaper l D t cI o H.size (rb_t v 0) x0) (rw_V q124 q125 q126 q5 q127) kd_X1_isReaper ⟨Nat.le_of_ble_eq_true rfl, Nat.le_of_ble_eq_true rfl⟩ (ci := 1) rfl rfl rfl C.2.2.2.2.2.1 hP hD hS hl.1 rfl rfl (Nat.le_of_ble_eq_true rfl) dX1_coins_7 ⟨Nat.le_of_ble_eq_true rfl, Nat.le_of_ble_eq_true rfl⟩) (fun r1 w' H locs hv _ _ hP hD hS => ?_)
  obtain ⟨rfl, rfl⟩ := hv
  have hD : va_D A (rb_w cI o (rb_t v 0)) := hD
  refine g_top (y := 0) (rb_reN hn h) ?_
  refine lv_if_eq (tgt := 20) hx hb dX1_coins_10 (by decide) (fun c2 => ?_) (fun c2 => absurd (by decide) c2)
  refine lv_aload_n hx hb dX1_coins_20 rfl (lv_at hl 0 rfl) ?_
  refine lv_iconst (v := 1) hx hb dX1_coins_21 (by decide) ?_
  refine g_ci (wr := []) (cells' := 0) (slots' := 0) rfl rfl C rd_nil hD hS (g_runV (wr := []) (n := 1) C (mX1_fail l D t cI o H.size (rb_t v 0) 1) (rw_V q64 q65 q66 q5 q67) kd_X1_fail ⟨Nat.le_of_ble_eq_true rfl, Nat.le_of_ble_eq_true rfl⟩ (ci := 1) rfl rfl rfl C.2.2.2.2.2.1 hP hD hS hl.1 rfl rfl (Nat.le_of_ble_eq_true rfl) dX1_coins_22 ⟨Nat.le_of_ble_eq_true rfl, Nat.le_of_ble_eq_true rfl⟩) (fun r3 w' H locs hv _ _ hP hD hS => ?_)
  obtain ⟨rfl, rfl⟩ := hv
  have hD : va_D A (rb_w cI o (rb_t (rb_t v 0) 1)) := hD
  have hP : va_P D vwCl (rb_w cI o (rb_t (rb_t v 0) 1)) H := hP
  have hD : va_D A (rb_w cI o (rb_t (rb_t v 0) 1)) := hD
  exact g_iret C hrt hP hD hS dX1_coins_25 (by skip; refine ⟨_, ?_, rfl⟩; exact ⟨rfl, rfl, fun _ _ => ⟨rfl, rfl⟩⟩)
set_option maxHeartbeats 4000000 in
set_option maxRecDepth 100000 in
theorem wbX1_coins2 (l : Launch) (D : va_G) (t : Nat → Nat) (cI : ClassId) (o : Nat) (sz : Nat) (v : S1) (hn : v.2.1 ≤ 8) (r : Nat) (hr : r < v.2.1) (x1 : Int32) (h : x1 < 0 ∨ 3 ≤ x1) : gMi l yX1_coins (rw_ yX1_coins cX1_coins 3 (some .int)) (rm_ 2 0 0 43) [.ref o, .int (nI r), .int x1] D [(cI, .int)] t (rb_w cI o v) sz (fun _ w' => ∃ v', rb_E v v' ∧ w' = rb_w cI o v') := by
  refine g_of (cc := cX1_coins) (nL := 3) (rt := (some .int)) (Q := fun A => va_Qi _ (fun w' U => gQ D A w' U) A) (by decide) (Nat.le_of_ble_eq_true rfl) (fun p e s m args below meth c A ls H C hrt hnm hS hP hD hl => ?_)
  have hx := C.1
  have hb := C.2.1
  have hown := C.2.2.2.1
  have hts := C.2.2.2.2.1
  have hl : lv_has ls 3 [(0, .ref o), (1, .int (nI r)), (2, .int x1)] := hl
  refine lv_aload_n hx hb dX1_coins_0 rfl (lv_at hl 0 rfl) ?_
  refine lv_iconst (v := 0) hx hb dX1_coins_1 (by decide) ?_
  refine x1_pt C hP hD hS q59 dX1_coins_2 (fun H locs hP hD hS => ?_)
  have hP : va_P D vwCl (rb_w cI o (rb_t v 0)) H := hP
  have hD : va_D A (rb_w cI o (rb_t v 0)) := hD
  refine lv_aload_n hx hb dX1_coins_5 rfl (lv_at hl 0 rfl) ?_
  refine lv_iload_n hx hb dX1_coins_6 rfl (lv_at hl 1 rfl) ?_
  refine g_ci (wr := []) (cells' := 0) (slots' := 0) rfl rfl C rd_nil hD hS (g_runV (wr := []) (n := 1) C (mX1_isReaper l D t cI o H.size (rb_t v 0) (nI r)) (rw_V q124 q125 q126 q5 q127) kd_X1_isReaper ⟨Nat.le_of_ble_eq_true rfl, Nat.le_of_ble_eq_true rfl⟩ (ci := 1) rfl rfl rfl C.2.2.2.2.2.1 hP hD hS hl.1 rfl rfl (Nat.le_of_ble_eq_true rfl) dX1_coins_7 ⟨Nat.le_of_ble_eq_true rfl, Nat.le_of_ble_eq_true rfl⟩) (fun r1 w' H locs hv _ _ hP hD hS => ?_)
  obtain ⟨rfl, rfl⟩ := hv
  have hD : va_D A (rb_w cI o (rb_t v 0)) := hD
  refine g_top (y := 1) (rb_reY hn hr) ?_
  refine lv_if_eq (tgt := 20) hx hb dX1_coins_10 (by decide) (fun c2 => absurd c2 (by decide)) (fun c2 => ?_)
  refine lv_iload_n hx hb dX1_coins_13 rfl (lv_at hl 2 rfl) ?_
  refine g_ci (wr := []) (cells' := 0) (slots' := 0) rfl rfl C rd_nil hD hS (g_runS (wr := []) (n := 1) (As := [.int x1]) C (mX1_isCoin l D t cI o H.size (rb_t v 0) x1) (rw_S q110 q111 q5 q112) kd_X1_isCoin ⟨Nat.le_of_ble_eq_true rfl, Nat.le_of_ble_eq_true rfl⟩ C.2.2.2.2.2.1 hP hD hS hl.1 rfl rfl (Nat.le_of_ble_eq_true rfl) dX1_coins_14 ⟨Nat.le_of_ble_eq_true rfl, Nat.le_of_ble_eq_true rfl⟩) (fun r3 w' H locs hv _ _ hP hD hS => ?_)
  obtain ⟨rfl, rfl⟩ := hv
  have hD : va_D A (rb_w cI o (rb_t v 0)) := hD
  refine g_top (y := 0) (rb_kN (n := 2) (by decide) h) ?_
  refine lv_if_ne (tgt := 26) hx hb dX1_coins_17 (by decide) (fun c4 => absurd c4 (by decide)) (fun c4 => ?_)
  refine lv_aload_n hx hb dX1_coins_20 rfl (lv_at hl 0 rfl) ?_
  refine lv_iconst (v := 1) hx hb dX1_coins_21 (by decide) ?_
  refine g_ci (wr := []) (cells' := 0) (slots' := 0) rfl rfl C rd_nil hD hS (g_runV (wr := []) (n := 1) C (mX1_fail l D t cI o H.size (rb_t v 0) 1) (rw_V q64 q65 q66 q5 q67) kd_X1_fail ⟨Nat.le_of_ble_eq_true rfl, Nat.le_of_ble_eq_true rfl⟩ (ci := 1) rfl rfl rfl C.2.2.2.2.2.1 hP hD hS hl.1 rfl rfl (Nat.le_of_ble_eq_true rfl) dX1_coins_22 ⟨Nat.le_of_ble_eq_true rfl, Nat.le_of_ble_eq_true rfl⟩) (fun r5 w' H locs hv _ _ hP hD hS => ?_)
  obtain ⟨rfl, rfl⟩ := hv
  have hD : va_D A (rb_w cI o (rb_t (rb_t v 0) 1)) := hD
  have hP : va_P D vwCl (rb_w cI o (rb_t (rb_t v 0) 1)) H := hP
  have hD : va_D A (rb_w cI o (rb_t (rb_t v 0) 1)) := hD
  exact g_iret C hrt hP hD hS dX1_coins_25 (by skip; refine ⟨_, ?_, rfl⟩; exact ⟨rfl, rfl, fun _ _ => ⟨rfl, rfl⟩⟩)
set_option maxHeartbeats 4000000 in
set_option maxRecDepth 100000 in
theorem wX1_coins (l : Launch) (D : va_G) (t : Nat → Nat) (cI : ClassId) (o : Nat) (sz : Nat) (v : S1) (hn : v.2.1 ≤ 8) (hp : ¬ v.1 0 4 = 0) (r : Nat) (hr : r < v.2.1) (k : Nat) (hk : k < 3) : gMi l yX1_coins (rw_ yX1_coins cX1_coins 3 (some .int)) (rm_ 8 10 115 177) [.ref o, .int (nI r), .int (nI k)] D [(cI, .int)] t (rb_w cI o v) sz (fun _ w' => ∃ v', rb_E v v' ∧ w' = rb_w cI o v') := by
  refine g_of (cc := cX1_coins) (nL := 3) (rt := (some .int)) (Q := fun A => va_Qi _ (fun w' U => gQ D A w' U) A) (by decide) (Nat.le_of_ble_eq_true rfl) (fun p e s m args below meth c A ls H C hrt hnm hS hP hD hl => ?_)
  have hx := C.1
  have hb := C.2.1
  have hown := C.2.2.2.1
  have hts := C.2.2.2.2.1
  have hl : lv_has ls 3 [(0, .ref o), (1, .int (nI r)), (2, .int (nI k))] := hl
  refine lv_aload_n hx hb dX1_coins_0 rfl (lv_at hl 0 rfl) ?_
  refine lv_iconst (v := 0) hx hb dX1_coins_1 (by decide) ?_
  refine x1_pt C hP hD hS q59 dX1_coins_2 (fun H locs hP hD hS => ?_)
  have hP : va_P D vwCl (rb_w cI o (rb_t v 0)) H := hP
  have hD : va_D A (rb_w cI o (rb_t v 0)) := hD
  refine lv_aload_n hx hb dX1_coins_5 rfl (lv_at hl 0 rfl) ?_
  refine lv_iload_n hx hb dX1_coins_6 rfl (lv_at hl 1 rfl) ?_
  refine g_ci (wr := []) (cells' := 0) (slots' := 0) rfl rfl C rd_nil hD hS (g_runV (wr := []) (n := 1) C (mX1_isReaper l D t cI o H.size (rb_t v 0) (nI r)) (rw_V q124 q125 q126 q5 q127) kd_X1_isReaper ⟨Nat.le_of_ble_eq_true rfl, Nat.le_of_ble_eq_true rfl⟩ (ci := 1) rfl rfl rfl C.2.2.2.2.2.1 hP hD hS hl.1 rfl rfl (Nat.le_of_ble_eq_true rfl) dX1_coins_7 ⟨Nat.le_of_ble_eq_true rfl, Nat.le_of_ble_eq_true rfl⟩) (fun r1 w' H locs hv _ _ hP hD hS => ?_)
  obtain ⟨rfl, rfl⟩ := hv
  have hD : va_D A (rb_w cI o (rb_t v 0)) := hD
  refine g_top (y := 1) (rb_reY hn hr) ?_
  refine lv_if_eq (tgt := 20) hx hb dX1_coins_10 (by decide) (fun c2 => absurd c2 (by decide)) (fun c2 => ?_)
  refine lv_iload_n hx hb dX1_coins_13 rfl (lv_at hl 2 rfl) ?_
  refine g_ci (wr := []) (cells' := 0) (slots' := 0) rfl rfl C rd_nil hD hS (g_runS (wr := []) (n := 1) (As := [.int (nI k)]) C (mX1_isCoin l D t cI o H.size (rb_t v 0) (nI k)) (rw_S q110 q111 q5 q112) kd_X1_isCoin ⟨Nat.le_of_ble_eq_true rfl, Nat.le_of_ble_eq_true rfl⟩ C.2.2.2.2.2.1 hP hD hS hl.1 rfl rfl (Nat.le_of_ble_eq_true rfl) dX1_coins_14 ⟨Nat.le_of_ble_eq_true rfl, Nat.le_of_ble_eq_true rfl⟩) (fun r3 w' H locs hv _ _ hP hD hS => ?_)
  obtain ⟨rfl, rfl⟩ := hv
  have hD : va_D A (rb_w cI o (rb_t v 0)) := hD
  refine g_top (y := 1) (rb_kY (n := 2) (by decide) hk) ?_
  refine lv_if_ne (tgt := 26) hx hb dX1_coins_17 (by decide) (fun c4 => ?_) (fun c4 => absurd c4 (by decide))
  refine lv_aload_n hx hb dX1_coins_26 rfl (lv_at hl 0 rfl) ?_
  refine g_cv (wr := []) (cells' := 10) (slots' := 115) rfl rfl C rd_nil hD hS (g_runV (wr := []) (n := 0) C (mX1_look l D t cI o H.size (rb_t v 0) (show v.2.1 ≤ 8 by omega) hp) (rw_V q302 q303 q304 q5 q305) kd_X1_look ⟨Nat.le_of_ble_eq_true rfl, Nat.le_of_ble_eq_true rfl⟩ (ci := 1) rfl rfl rfl C.2.2.2.2.2.1 hP hD hS hl.1 rfl rfl (Nat.le_of_ble_eq_true rfl) dX1_coins_27 ⟨Nat.le_of_ble_eq_true rfl, Nat.le_of_ble_eq_true rfl⟩) (fun w' H locs hv _ _ hP hD hS => ?_)
  obtain ⟨y6, hLy6, rfl⟩ := hv
  have hD : va_D A (rb_w cI o y6) := hD
  refine lv_aload_n hx hb dX1_coins_30 rfl (lv_at hl 0 rfl) ?_
  refine x1_gf C hP 6 (by decide) (x := .ref (y6.2.2.2.2 3)) rfl rfl q33 dX1_coins_31 ?_
  refine lv_iconst (v := 3) hx hb dX1_coins_34 (by decide) ?_
  refine lv_iload_n hx hb dX1_coins_35 rfl (lv_at hl 1 rfl) ?_
  refine lv_imul hx hb dX1_coins_36 ?_
  refine g_top (pk_mul 3 r) ?_
  refine lv_iload_n hx hb dX1_coins_37 rfl (lv_at hl 2 rfl) ?_
  refine lv_iadd hx hb dX1_coins_38 ?_
  refine g_top (nI_add (3 * r) k) ?_
  refine x1_ld C hP (k := 3) (i := (3 * r) + k) (by decide) (show (3 * r) + k < 24 by omega) rfl dX1_coins_39 ?_
  exact g_iret C hrt hP hD hS dX1_coins_40 (by skip; refine ⟨_, ?_, rfl⟩; exact (rb_E.tl hLy6.e))
set_option maxHeartbeats 4000000 in
set_option maxRecDepth 100000 in
theorem wX1_count (l : Launch) (D : va_G) (t : Nat → Nat) (cI : ClassId) (o : Nat) (sz : Nat) (v : S1) (hn : v.2.1 ≤ 8) (k : Nat) (hk : k < 7) : gMi l yX1_count (rw_ yX1_count cX1_count 2 (some .int)) (rm_ 6 0 0 129) [.ref o, .int (nI k)] D [(cI, .int)] t (rb_w cI o v) sz (fun _ w' => ∃ v', rb_E v v' ∧ w' = rb_w cI o v') := by
  refine g_of (cc := cX1_count) (nL := 2) (rt := (some .int)) (Q := fun A => va_Qi _ (fun w' U => gQ D A w' U) A) (by decide) (Nat.le_of_ble_eq_true rfl) (fun p e s m args below meth c A ls H C hrt hnm hS hP hD hl => ?_)
  have hx := C.1
  have hb := C.2.1
  have hown := C.2.2.2.1
  have hts := C.2.2.2.2.1
  have hl : lv_has ls 2 [(0, .ref o), (1, .int (nI k))] := hl
  refine lv_aload_n hx hb dX1_count_0 rfl (lv_at hl 0 rfl) ?_
  refine lv_iconst (v := 0) hx hb dX1_count_1 (by decide) ?_
  refine x1_pt C hP hD hS q59 dX1_count_2 (fun H locs hP hD hS => ?_)
  have hP : va_P D vwCl (rb_w cI o (rb_t v 0)) H := hP
  have hD : va_D A (rb_w cI o (rb_t v 0)) := hD
  refine lv_iload_n hx hb dX1_count_5 rfl (lv_at hl 1 rfl) ?_
  refine lv_iconst (v := 0) hx hb dX1_count_6 (by decide) ?_
  refine lv_bipush (v := 6) hx hb dX1_count_7 (by decide) ?_
  refine g_ci (wr := []) (cells' := 0) (slots' := 0) rfl rfl C rd_nil hD hS (g_runS (wr := []) (n := 3) (As := [.int (nI k), .int 0, .int 6]) C (mX1_isIn l D t [(cI, .int)] (rb_w cI o (rb_t v 0)) H.size (nI k) 0 6) (rw_S q61 q62 q5 q63) kd_X1_isIn ⟨Nat.le_of_ble_eq_true rfl, Nat.le_of_ble_eq_true rfl⟩ C.2.2.2.2.2.1 hP hD hS hl.1 rfl rfl (Nat.le_of_ble_eq_true rfl) dX1_count_9 ⟨Nat.le_of_ble_eq_true rfl, Nat.le_of_ble_eq_true rfl⟩) (fun r1 w' H locs hv _ _ hP hD hS => ?_)
  obtain ⟨rfl, rfl⟩ := hv
  have hD : va_D A (rb_w cI o (rb_t v 0)) := hD
  refine g_top (y := 1) (rb_kY (n := 6) (by decide) hk) ?_
  refine lv_if_eq (tgt := 23) hx hb dX1_count_12 (by decide) (fun c2 => absurd c2 (by decide)) (fun c2 => ?_)
  refine lv_aload_n hx hb dX1_count_15 rfl (lv_at hl 0 rfl) ?_
  refine lv_iload_n hx hb dX1_count_16 rfl (lv_at hl 1 rfl) ?_
  refine g_ci (wr := []) (cells' := 0) (slots' := 0) rfl rfl C rd_nil hD hS (g_runV (wr := []) (n := 1) C (mX1_counted l D t cI o H.size (rb_t v 0) hn k (by omega)) (rw_V q332 q333 q334 q5 q335) kd_X1_counted ⟨Nat.le_of_ble_eq_true rfl, Nat.le_of_ble_eq_true rfl⟩ (ci := 1) rfl rfl rfl C.2.2.2.2.2.1 hP hD hS hl.1 rfl rfl (Nat.le_of_ble_eq_true rfl) dX1_count_17 ⟨Nat.le_of_ble_eq_true rfl, Nat.le_of_ble_eq_true rfl⟩) (fun r3 w' H locs hv _ _ hP hD hS => ?_)
  subst hv
  have hD : va_D A (rb_w cI o (rb_t v 0)) := hD
  refine lv_goto (tgt := 28) hx hb dX1_count_20 (by decide) ?_
  exact g_iret C hrt hP hD hS dX1_count_28 (by skip; refine ⟨_, ?_, rfl⟩; exact ⟨rfl, rfl, fun _ _ => ⟨rfl, rfl⟩⟩)
set_option maxHeartbeats 4000000 in
set_option maxRecDepth 100000 in
theorem wbX1_lend1 (l : Launch) (D : va_G) (t : Nat → Nat) (cI : ClassId) (o : Nat) (sz : Nat) (v : S1) (hn : v.2.1 ≤ 8) (x0 x : Int32) (h : x0 < 0 ∨ nI v.2.1 ≤ x0) : gMi l yX1_lend (rw_ yX1_lend cX1_lend 3 (some .int)) (rm_ 2 0 0 43) [.ref o, .int x0, .int x] D [(cI, .int)] t (rb_w cI o v) sz (fun _ w' => ∃ v', rb_E v v' ∧ w' = rb_w cI o v') := by
  refine g_of (cc := cX1_lend) (nL := 3) (rt := (some .int)) (Q := fun A => va_Qi _ (fun w' U => gQ D A w' U) A) (by decide) (Nat.le_of_ble_eq_true rfl) (fun p e s m args below meth c A ls H C hrt hnm hS hP hD hl => ?_)
  have hx := C.1
  have hb := C.2.1
  have hown := C.2.2.2.1
  have hts := C.2.2.2.2.1
  have hl : lv_has ls 3 [(0, .ref o), (1, .int x0), (2, .int x)] := hl
  refine lv_aload_n hx hb dX1_lend_0 rfl (lv_at hl 0 rfl) ?_
  refine lv_iconst (v := 0) hx hb dX1_lend_1 (by decide) ?_
  refine x1_pt C hP hD hS q59 dX1_lend_2 (fun H locs hP hD hS => ?_)
  have hP : va_P D vwCl (rb_w cI o (rb_t v 0)) H := hP
  have hD : va_D A (rb_w cI o (rb_t v 0)) := hD
  refine lv_aload_n hx hb dX1_lend_5 rfl (lv_at hl 0 rfl) ?_
  refine lv_iload_n hx hb dX1_lend_6 rfl (lv_at hl 1 rfl) ?_
  refine g_ci (wr := []) (cells' := 0) (slots' := 0) rfl rfl C rd_nil hD hS (g_runV (wr := []) (n := 1) C (mX1_isReaper l D t cI o H.size (rb_t v 0) x0) (rw_V q124 q125 q126 q5 q127) kd_X1_isReaper ⟨Nat.le_of_ble_eq_true rfl, Nat.le_of_ble_eq_true rfl⟩ (ci := 1) rfl rfl rfl C.2.2.2.2.2.1 hP hD hS hl.1 rfl rfl (Nat.le_of_ble_eq_true rfl) dX1_lend_7 ⟨Nat.le_of_ble_eq_true rfl, Nat.le_of_ble_eq_true rfl⟩) (fun r1 w' H locs hv _ _ hP hD hS => ?_)
  obtain ⟨rfl, rfl⟩ := hv
  have hD : va_D A (rb_w cI o (rb_t v 0)) := hD
  refine g_top (y := 0) (rb_reN hn h) ?_
  refine lv_if_ne (tgt := 19) hx hb dX1_lend_10 (by decide) (fun c2 => absurd c2 (by decide)) (fun c2 => ?_)
  refine lv_aload_n hx hb dX1_lend_13 rfl (lv_at hl 0 rfl) ?_
  refine lv_iconst (v := 1) hx hb dX1_lend_14 (by decide) ?_
  refine g_ci (wr := []) (cells' := 0) (slots' := 0) rfl rfl C rd_nil hD hS (g_runV (wr := []) (n := 1) C (mX1_fail l D t cI o H.size (rb_t v 0) 1) (rw_V q64 q65 q66 q5 q67) kd_X1_fail ⟨Nat.le_of_ble_eq_true rfl, Nat.le_of_ble_eq_true rfl⟩ (ci := 1) rfl rfl rfl C.2.2.2.2.2.1 hP hD hS hl.1 rfl rfl (Nat.le_of_ble_eq_true rfl) dX1_lend_15 ⟨Nat.le_of_ble_eq_true rfl, Nat.le_of_ble_eq_true rfl⟩) (fun r3 w' H locs hv _ _ hP hD hS => ?_)
  obtain ⟨rfl, rfl⟩ := hv
  have hD : va_D A (rb_w cI o (rb_t (rb_t v 0) 1)) := hD
  have hP : va_P D vwCl (rb_w cI o (rb_t (rb_t v 0) 1)) H := hP
  have hD : va_D A (rb_w cI o (rb_t (rb_t v 0) 1)) := hD
  exact g_iret C hrt hP hD hS dX1_lend_18 (by skip; refine ⟨_, ?_, rfl⟩; exact ⟨rfl, rfl, fun _ _ => ⟨rfl, rfl⟩⟩)
set_option maxHeartbeats 4000000 in
set_option maxRecDepth 100000 in
theorem wX1_lend (l : Launch) (D : va_G) (t : Nat → Nat) (cI : ClassId) (o : Nat) (sz : Nat) (v : S1) (hn : v.2.1 ≤ 8) (r : Nat) (hr : r < v.2.1) (x : Int32) : gMi l yX1_lend (rw_ yX1_lend cX1_lend 3 (some .int)) (rm_ 2 0 0 43) [.ref o, .int (nI r), .int x] D [(cI, .int)] t (rb_w cI o v) sz (fun _ w' => ∃ v', rb_E v v' ∧ w' = rb_w cI o v') := by
  refine g_of (cc := cX1_lend) (nL := 3) (rt := (some .int)) (Q := fun A => va_Qi _ (fun w' U => gQ D A w' U) A) (by decide) (Nat.le_of_ble_eq_true rfl) (fun p e s m args below meth c A ls H C hrt hnm hS hP hD hl => ?_)
  have hx := C.1
  have hb := C.2.1
  have hown := C.2.2.2.1
  have hts := C.2.2.2.2.1
  have hl : lv_has ls 3 [(0, .ref o), (1, .int (nI r)), (2, .int x)] := hl
  refine lv_aload_n hx hb dX1_lend_0 rfl (lv_at hl 0 rfl) ?_
  refine lv_iconst (v := 0) hx hb dX1_lend_1 (by decide) ?_
  refine x1_pt C hP hD hS q59 dX1_lend_2 (fun H locs hP hD hS => ?_)
  have hP : va_P D vwCl (rb_w cI o (rb_t v 0)) H := hP
  have hD : va_D A (rb_w cI o (rb_t v 0)) := hD
  refine lv_aload_n hx hb dX1_lend_5 rfl (lv_at hl 0 rfl) ?_
  refine lv_iload_n hx hb dX1_lend_6 rfl (lv_at hl 1 rfl) ?_
  refine g_ci (wr := []) (cells' := 0) (slots' := 0) rfl rfl C rd_nil hD hS (g_runV (wr := []) (n := 1) C (mX1_isReaper l D t cI o H.size (rb_t v 0) (nI r)) (rw_V q124 q125 q126 q5 q127) kd_X1_isReaper ⟨Nat.le_of_ble_eq_true rfl, Nat.le_of_ble_eq_true rfl⟩ (ci := 1) rfl rfl rfl C.2.2.2.2.2.1 hP hD hS hl.1 rfl rfl (Nat.le_of_ble_eq_true rfl) dX1_lend_7 ⟨Nat.le_of_ble_eq_true rfl, Nat.le_of_ble_eq_true rfl⟩) (fun r1 w' H locs hv _ _ hP hD hS => ?_)
  obtain ⟨rfl, rfl⟩ := hv
  have hD : va_D A (rb_w cI o (rb_t v 0)) := hD
  refine g_top (y := 1) (rb_reY hn hr) ?_
  refine lv_if_ne (tgt := 19) hx hb dX1_lend_10 (by decide) (fun c2 => ?_) (fun c2 => absurd c2 (by decide))
  refine lv_iload_n hx hb dX1_lend_19 rfl (lv_at hl 2 rfl) ?_
  refine lv_iconst (v := 1) hx hb dX1_lend_20 (by decide) ?_
  refine lv_sipush (v := 2000) hx hb dX1_lend_21 (by decide) ?_
  refine g_ci (wr := []) (cells' := 0) (slots' := 0) rfl rfl C rd_nil hD hS (g_runS (wr := []) (n := 3) (As := [.int x, .int 1, .int 2000]) C (mX1_isIn l D t [(cI, .int)] (rb_w cI o (rb_t v 0)) H.size x 1 2000) (rw_S q61 q62 q5 q63) kd_X1_isIn ⟨Nat.le_of_ble_eq_true rfl, Nat.le_of_ble_eq_true rfl⟩ C.2.2.2.2.2.1 hP hD hS hl.1 rfl rfl (Nat.le_of_ble_eq_true rfl) dX1_lend_24 ⟨Nat.le_of_ble_eq_true rfl, Nat.le_of_ble_eq_true rfl⟩) (fun r3 w' H locs hv _ _ hP hD hS => ?_)
  obtain ⟨rfl, rfl⟩ := hv
  have hD : va_D A (rb_w cI o (rb_t v 0)) := hD
  refine lv_if_ne (tgt := 36) hx hb dX1_lend_27 (by decide) (fun c4 => ?_) (fun c4 => ?_)
  · refine lv_aload_n hx hb dX1_lend_36 rfl (lv_at hl 0 rfl) ?_
    refine lv_iload_n hx hb dX1_lend_37 rfl (lv_at hl 1 rfl) ?_
    refine lv_iconst (v := 4) hx hb dX1_lend_38 (by decide) ?_
    refine g_ci (wr := []) (cells' := 0) (slots' := 0) rfl rfl C rd_nil hD hS (g_runV (wr := []) (n := 2) C (mX1_re l D t cI o H.size (rb_t v 0) r 4 (by omega) (by omega)) (rw_V q128 q129 q130 q5 q131) kd_X1_re ⟨Nat.le_of_ble_eq_true rfl, Nat.le_of_ble_eq_true rfl⟩ (ci := 1) rfl rfl rfl C.2.2.2.2.2.1 hP hD hS hl.1 rfl rfl (Nat.le_of_ble_eq_true rfl) dX1_lend_39 ⟨Nat.le_of_ble_eq_true rfl, Nat.le_of_ble_eq_true rfl⟩) (fun r5 w' H locs hv _ _ hP hD hS => ?_)
    obtain ⟨rfl, rfl⟩ := hv
    have hD : va_D A (rb_w cI o (rb_t v 0)) := hD
    refine lv_iload_n hx hb dX1_lend_42 rfl (lv_at hl 2 rfl) ?_
    refine lv_iadd hx hb dX1_lend_43 ?_
    refine lv_sipush (v := 5000) hx hb dX1_lend_44 (by decide) ?_
    refine lv_icmp_le (tgt := 56) hx hb dX1_lend_47 (by decide) (fun c6 => ?_) (fun c6 => ?_)
    · refine lv_aload_n hx hb dX1_lend_56 rfl (lv_at hl 0 rfl) ?_
      refine lv_iload_n hx hb dX1_lend_57 rfl (lv_at hl 1 rfl) ?_
      refine lv_iconst (v := 4) hx hb dX1_lend_58 (by decide) ?_
      refine lv_aload_n hx hb dX1_lend_59 rfl (lv_at hl 0 rfl) ?_
      refine lv_iload_n hx hb dX1_lend_60 rfl (lv_at hl 1 rfl) ?_
      refine lv_iconst (v := 4) hx hb dX1_lend_61 (by decide) ?_
      refine g_ci (wr := []) (cells' := 0) (slots' := 0) rfl rfl C rd_nil hD hS (g_runV (wr := []) (n := 2) C (mX1_re l D t cI o H.size (rb_t v 0) r 4 (by omega) (by omega)) (rw_V q128 q129 q130 q5 q131) kd_X1_re ⟨Nat.le_of_ble_eq_true rfl, Nat.le_of_ble_eq_true rfl⟩ (ci := 1) rfl rfl rfl C.2.2.2.2.2.1 hP hD hS hl.1 rfl rfl (Nat.le_of_ble_eq_true rfl) dX1_lend_62 ⟨Nat.le_of_ble_eq_true rfl, Nat.le_of_ble_eq_true rfl⟩) (fun r7 w' H locs hv _ _ hP hD hS => ?_)
      obtain ⟨rfl, rfl⟩ := hv
      have hD : va_D A (rb_w cI o (rb_t v 0)) := hD
      refine lv_iload_n hx hb dX1_lend_65 rfl (lv_at hl 2 rfl) ?_
      refine lv_iadd hx hb dX1_lend_66 ?_
      refine g_cv (wr := []) (cells' := 0) (slots' := 0) rfl rfl C rd_nil hD hS (g_runV (wr := []) (n := 3) C (mX1_let l D t cI o H.size (rb_t v 0) r 4 (by omega) (by omega) (((rb_t v 0).1 2 (7 * r + 4)) + x)) (rw_V q68 q69 q70 q5 q71) kd_X1_let ⟨Nat.le_of_ble_eq_true rfl, Nat.le_of_ble_eq_true rfl⟩ (ci := 1) rfl rfl rfl C.2.2.2.2.2.1 hP hD hS hl.1 rfl rfl (Nat.le_of_ble_eq_true rfl) dX1_lend_67 ⟨Nat.le_of_ble_eq_true rfl, Nat.le_of_ble_eq_true rfl⟩) (fun w' H locs hv _ _ hP hD hS => ?_)
      subst hv
      have hD : va_D A (rb_w cI o (rb_s (rb_t v 0) 2 (7 * r + 4) (((rb_t v 0).1 2 (7 * r + 4)) + x))) := hD
      have hP : va_P D vwCl (rb_w cI o (rb_s (rb_t v 0) 2 (7 * r + 4) (((rb_t v 0).1 2 (7 * r + 4)) + x))) H := hP
      have hD : va_D A (rb_w cI o (rb_s (rb_t v 0) 2 (7 * r + 4) (((rb_t v 0).1 2 (7 * r + 4)) + x))) := hD
      refine lv_aload_n hx hb dX1_lend_70 rfl (lv_at hl 0 rfl) ?_
      refine lv_iload_n hx hb dX1_lend_71 rfl (lv_at hl 1 rfl) ?_
      refine lv_iconst (v := 4) hx hb dX1_lend_72 (by decide) ?_
      refine g_ci (wr := []) (cells' := 0) (slots' := 0) rfl rfl C rd_nil hD hS (g_runV (wr := []) (n := 2) C (mX1_re l D t cI o H.size (rb_s (rb_t v 0) 2 (7 * r + 4) (((rb_t v 0).1 2 (7 * r + 4)) + x)) r 4 (by omega) (by omega)) (rw_V q128 q129 q130 q5 q131) kd_X1_re ⟨Nat.le_of_ble_eq_true rfl, Nat.le_of_ble_eq_true rfl⟩ (ci := 1) rfl rfl rfl C.2.2.2.2.2.1 hP hD hS hl.1 rfl rfl (Nat.le_of_ble_eq_true rfl) dX1_lend_73 ⟨Nat.le_of_ble_eq_true rfl, Nat.le_of_ble_eq_true rfl⟩) (fun r9 w' H locs hv _ _ hP hD hS => ?_)
      obtain ⟨rfl, rfl⟩ := hv
      have hD : va_D A (rb_w cI o (rb_s (rb_t v 0) 2 (7 * r + 4) (((rb_t v 0).1 2 (7 * r + 4)) + x))) := hD
      exact g_iret C hrt hP hD hS dX1_lend_76 (by skip; refine ⟨_, ?_, rfl⟩; exact ⟨rfl, rfl, fun _ _ => ⟨rb_sO (by omega), rb_sO (by omega)⟩⟩)
    · refine lv_aload_n hx hb dX1_lend_50 rfl (lv_at hl 0 rfl) ?_
      refine lv_iconst (v := 3) hx hb dX1_lend_51 (by decide) ?_
      refine g_ci (wr := []) (cells' := 0) (slots' := 0) rfl rfl C rd_nil hD hS (g_runV (wr := []) (n := 1) C (mX1_fail l D t cI o H.size (rb_t v 0) 3) (rw_V q64 q65 q66 q5 q67) kd_X1_fail ⟨Nat.le_of_ble_eq_true rfl, Nat.le_of_ble_eq_true rfl⟩ (ci := 1) rfl rfl rfl C.2.2.2.2.2.1 hP hD hS hl.1 rfl rfl (Nat.le_of_ble_eq_true rfl) dX1_lend_52 ⟨Nat.le_of_ble_eq_true rfl, Nat.le_of_ble_eq_true rfl⟩) (fun r10 w' H locs hv _ _ hP hD hS => ?_)
      obtain ⟨rfl, rfl⟩ := hv
      have hD : va_D A (rb_w cI o (rb_t (rb_t v 0) 3)) := hD
      have hP : va_P D vwCl (rb_w cI o (rb_t (rb_t v 0) 3)) H := hP
      have hD : va_D A (rb_w cI o (rb_t (rb_t v 0) 3)) := hD
      exact g_iret C hrt hP hD hS dX1_lend_55 (by skip; refine ⟨_, ?_, rfl⟩; exact ⟨rfl, rfl, fun _ _ => ⟨rfl, rfl⟩⟩)
  · refine lv_aload_n hx hb dX1_lend_30 rfl (lv_at hl 0 rfl) ?_
    refine lv_iconst (v := 2) hx hb dX1_lend_31 (by decide) ?_
    refine g_ci (wr := []) (cells' := 0) (slots' := 0) rfl rfl C rd_nil hD hS (g_runV (wr := []) (n := 1) C (mX1_fail l D t cI o H.size (rb_t v 0) 2) (rw_V q64 q65 q66 q5 q67) kd_X1_fail ⟨Nat.le_of_ble_eq_true rfl, Nat.le_of_ble_eq_true rfl⟩ (ci := 1) rfl rfl rfl C.2.2.2.2.2.1 hP hD hS hl.1 rfl rfl (Nat.le_of_ble_eq_true rfl) dX1_lend_32 ⟨Nat.le_of_ble_eq_true rfl, Nat.le_of_ble_eq_true rfl⟩) (fun r11 w' H locs hv _ _ hP hD hS => ?_)
    obtain ⟨rfl, rfl⟩ := hv
    have hD : va_D A (rb_w cI o (rb_t (rb_t v 0) 2)) := hD
    have hP : va_P D vwCl (rb_w cI o (rb_t (rb_t v 0) 2)) H := hP
    have hD : va_D A (rb_w cI o (rb_t (rb_t v 0) 2)) := hD
    exact g_iret C hrt hP hD hS dX1_lend_35 (by skip; refine ⟨_, ?_, rfl⟩; exact ⟨rfl, rfl, fun _ _ => ⟨rfl, rfl⟩⟩)
set_option maxHeartbeats 4000000 in
set_option maxRecDepth 100000 in
theorem wX1_would (l : Launch) (D : va_G) (t : Nat → Nat) (cI : ClassId) (o : Nat) (sz : Nat) (v : S1) (hn : v.2.1 ≤ 8) (k : Nat) (hk5 : k < 5) (x : Int32) : gMi l yX1_would (rw_ yX1_would cX1_would 5 (some .int)) (rm_ 5 0 0 108) [.ref o, .int (nI k), .int x] D [(cI, .int)] t (rb_w cI o v) sz (fun _ w' => ∃ v', rb_E v v' ∧ w' = rb_w cI o v') := by
  refine g_of (cc := cX1_would) (nL := 5) (rt := (some .int)) (Q := fun A => va_Qi _ (fun w' U => gQ D A w' U) A) (by decide) (Nat.le_of_ble_eq_true rfl) (fun p e s m args below meth c A ls H C hrt hnm hS hP hD hl => ?_)
  have hx := C.1
  have hb := C.2.1
  have hown := C.2.2.2.1
  have hts := C.2.2.2.2.1
  have hl : lv_has ls 5 [(0, .ref o), (1, .int (nI k)), (2, .int x)] := hl
  refine lv_aload_n hx hb dX1_would_0 rfl (lv_at hl 0 rfl) ?_
  refine lv_iconst (v := 0) hx hb dX1_would_1 (by decide) ?_
  refine x1_pt C hP hD hS q59 dX1_would_2 (fun H locs hP hD hS => ?_)
  have hP : va_P D vwCl (rb_w cI o (rb_t v 0)) H := hP
  have hD : va_D A (rb_w cI o (rb_t v 0)) := hD
  refine lv_iload_n hx hb dX1_would_5 rfl (lv_at hl 1 rfl) ?_
  refine g_ci (wr := []) (cells' := 0) (slots' := 0) rfl rfl C rd_nil hD hS (g_runS (wr := []) (n := 1) (As := [.int (nI k)]) C (mX1_isRate l D t cI o H.size (rb_t v 0) (nI k)) (rw_S q96 q97 q5 q98) kd_X1_isRate ⟨Nat.le_of_ble_eq_true rfl, Nat.le_of_ble_eq_true rfl⟩ C.2.2.2.2.2.1 hP hD hS hl.1 rfl rfl (Nat.le_of_ble_eq_true rfl) dX1_would_6 ⟨Nat.le_of_ble_eq_true rfl, Nat.le_of_ble_eq_true rfl⟩) (fun r1 w' H locs hv _ _ hP hD hS => ?_)
  obtain ⟨rfl, rfl⟩ := hv
  have hD : va_D A (rb_w cI o (rb_t v 0)) := hD
  refine g_top (y := 1) (rb_kY (n := 4) (by decide) hk5) ?_
  refine lv_if_ne (tgt := 18) hx hb dX1_would_9 (by decide) (fun c2 => ?_) (fun c2 => absurd c2 (by decide))
  refine lv_iload_n hx hb dX1_would_18 rfl (lv_at hl 2 rfl) ?_
  refine g_gs C hS (C.2.2.2.2.2.2.2.1.2.2.2.2.2.2.1) q94 dX1_would_19 ?_
  refine lv_iload_n hx hb dX1_would_22 rfl (lv_at hl 1 rfl) ?_
  refine g_ti C hS (N := 5) (i := k) (f := rt_RX1_LOW) C.2.2.2.2.2.2.2.1.2.2.2.2.2.2.2.1 (by decide) hk5 rfl dX1_would_23 ?_
  refine g_gs C hS (C.2.2.2.2.2.2.2.1.2.2.2.2.2.2.2.2.1) q95 dX1_would_24 ?_
  refine lv_iload_n hx hb dX1_would_27 rfl (lv_at hl 1 rfl) ?_
  refine g_ti C hS (N := 5) (i := k) (f := rt_RX1_HIGH) C.2.2.2.2.2.2.2.1.2.2.2.2.2.2.2.2.2.1 (by decide) hk5 rfl dX1_would_28 ?_
  refine g_ci (wr := []) (cells' := 0) (slots' := 0) rfl rfl C rd_nil hD hS (g_runS (wr := []) (n := 3) (As := [.int x, .int (rt_RX1_LOW k), .int (rt_RX1_HIGH k)]) C (mX1_isIn l D t [(cI, .int)] (rb_w cI o (rb_t v 0)) H.size x (rt_RX1_LOW k) (rt_RX1_HIGH k)) (rw_S q61 q62 q5 q63) kd_X1_isIn ⟨Nat.le_of_ble_eq_true rfl, Nat.le_of_ble_eq_true rfl⟩ C.2.2.2.2.2.1 hP hD hS hl.1 rfl rfl (Nat.le_of_ble_eq_true rfl) dX1_would_29 ⟨Nat.le_of_ble_eq_true rfl, Nat.le_of_ble_eq_true rfl⟩) (fun r3 w' H locs hv _ _ hP hD hS => ?_)
  obtain ⟨rfl, rfl⟩ := hv
  have hD : va_D A (rb_w cI o (rb_t v 0)) := hD
  refine lv_if_ne (tgt := 41) hx hb dX1_would_32 (by decide) (fun c4 => ?_) (fun c4 => ?_)
  · refine lv_aload_n hx hb dX1_would_41 rfl (lv_at hl 0 rfl) ?_
    refine x1_gf C hP 3 (by decide) (x := .ref ((rb_t v 0).2.2.2.2 0)) rfl rfl q30 dX1_would_42 ?_
    refine lv_iload_n hx hb dX1_would_45 rfl (lv_at hl 1 rfl) ?_
    refine x1_ld C hP (k := 0) (i := k) (by decide) (show k < 5 by omega) rfl dX1_would_46 ?_
    refine lv_topi (fun v5 ev5 => ?_)
    refine lv_istore_n (lv' := [(3, .int v5), (0, .ref o), (1, .int (nI k)), (2, .int x)]) hx hb dX1_would_47 rfl hl (by decide) rfl (fun ls hl => ?_)
    refine lv_aload_n hx hb dX1_would_48 rfl (lv_at hl 1 rfl) ?_
    refine x1_gf C hP 3 (by decide) (x := .ref ((rb_t v 0).2.2.2.2 0)) rfl rfl q30 dX1_would_49 ?_
    refine lv_iload_n hx hb dX1_would_52 rfl (lv_at hl 2 rfl) ?_
    refine lv_iload_n hx hb dX1_would_53 rfl (lv_at hl 3 rfl) ?_
    refine x1_st C hP hD hS (k := 0) (i := k) (by decide) (show k < 5 by omega) rfl dX1_would_54 (fun H locs hP hD hS => ?_)
    have hP : va_P D vwCl (rb_w cI o (rb_s (rb_t v 0) 0 k x)) H := hP
    have hD : va_D A (rb_w cI o (rb_s (rb_t v 0) 0 k x)) := hD
    refine lv_aload_n hx hb dX1_would_55 rfl (lv_at hl 1 rfl) ?_
    refine g_ci (wr := []) (cells' := 0) (slots' := 0) rfl rfl C rd_nil hD hS (g_runV (wr := []) (n := 0) C (mX1_all l D t cI o H.size (rb_s (rb_t v 0) 0 k x) hn) (rw_V q340 q341 q342 q5 q343) kd_X1_all ⟨Nat.le_of_ble_eq_true rfl, Nat.le_of_ble_eq_true rfl⟩ (ci := 1) rfl rfl rfl C.2.2.2.2.2.1 hP hD hS hl.1 rfl rfl (Nat.le_of_ble_eq_true rfl) dX1_would_56 ⟨Nat.le_of_ble_eq_true rfl, Nat.le_of_ble_eq_true rfl⟩) (fun r6 w' H locs hv _ _ hP hD hS => ?_)
    subst hv
    have hD : va_D A (rb_w cI o (rb_s (rb_t v 0) 0 k x)) := hD
    refine lv_istore (lv' := [(4, .int r6), (3, .int v5), (0, .ref o), (1, .int (nI k)), (2, .int x)]) hx hb dX1_would_59 hl (by decide) rfl (fun ls hl => ?_)
    refine lv_aload_n hx hb dX1_would_61 rfl (lv_at hl 2 rfl) ?_
    refine x1_gf C hP 3 (by decide) (x := .ref ((rb_s (rb_t v 0) 0 k x).2.2.2.2 0)) rfl rfl q30 dX1_would_62 ?_
    refine lv_iload_n hx hb dX1_would_65 rfl (lv_at hl 3 rfl) ?_
    refine lv_iload_n hx hb dX1_would_66 rfl (lv_at hl 1 rfl) ?_
    refine x1_st C hP hD hS (k := 0) (i := k) (by decide) (show k < 5 by omega) rfl dX1_would_67 (fun H locs hP hD hS => ?_)
    have hP : va_P D vwCl (rb_w cI o (rb_s (rb_s (rb_t v 0) 0 k x) 0 k v5)) H := hP
    have hD : va_D A (rb_w cI o (rb_s (rb_s (rb_t v 0) 0 k x) 0 k v5)) := hD
    refine lv_iload hx hb dX1_would_68 (lv_at hl 0 rfl) ?_
    exact g_iret C hrt hP hD hS dX1_would_70 (by subst ev5; refine ⟨_, ?_, rfl⟩; exact ⟨rfl, rb_ss, fun _ _ => ⟨rfl, rfl⟩⟩)
  · refine lv_aload_n hx hb dX1_would_35 rfl (lv_at hl 0 rfl) ?_
    refine lv_iconst (v := 2) hx hb dX1_would_36 (by decide) ?_
    refine g_ci (wr := []) (cells' := 0) (slots' := 0) rfl rfl C rd_nil hD hS (g_runV (wr := []) (n := 1) C (mX1_fail l D t cI o H.size (rb_t v 0) 2) (rw_V q64 q65 q66 q5 q67) kd_X1_fail ⟨Nat.le_of_ble_eq_true rfl, Nat.le_of_ble_eq_true rfl⟩ (ci := 1) rfl rfl rfl C.2.2.2.2.2.1 hP hD hS hl.1 rfl rfl (Nat.le_of_ble_eq_true rfl) dX1_would_37 ⟨Nat.le_of_ble_eq_true rfl, Nat.le_of_ble_eq_true rfl⟩) (fun r7 w' H locs hv _ _ hP hD hS => ?_)
    obtain ⟨rfl, rfl⟩ := hv
    have hD : va_D A (rb_w cI o (rb_t (rb_t v 0) 2)) := hD
    have hP : va_P D vwCl (rb_w cI o (rb_t (rb_t v 0) 2)) H := hP
    have hD : va_D A (rb_w cI o (rb_t (rb_t v 0) 2)) := hD
    exact g_iret C hrt hP hD hS dX1_would_40 (by skip; refine ⟨_, ?_, rfl⟩; exact ⟨rfl, rfl, fun _ _ => ⟨rfl, rfl⟩⟩)
set_option maxHeartbeats 4000000 in
set_option maxRecDepth 100000 in
theorem lpwX1_until {p : Program} {l : Launch} {e : Env} {s : State} {m : MethodId} {args : Array Value} {below : List Frame} {meth : Method} {c : Code} {Q : State → Prop} {D : va_G} {t : Nat → Nat} {A : Nat → Prop} {cI : ClassId} {o : Nat} {v : S1} {r : Nat} (C : gC p s m args meth c cX1_until 5 RX1 D [(cI, .int)] t A) (hn : v.2.1 ≤ 8) (hp : ¬ v.1 0 4 = 0) (hr : r < v.2.1) (kk : ∀ (a b : Int32) (i : Nat) (H : Heap) (locs : List Loc) (ls : Array Slot), va_P D vwCl (rb_w cI o v) H → va_D A (rb_w cI o v) → va_S A s.heap H locs → lv_has ls 5 [(0, .ref o), (1, .int (nI r)), (2, .int a), (3, .int b), (4, .int (nI i))] → W p l e (rm_ 5 0 0 107) s m args below meth c H locs 0 0 Q (F0 m 73 ls [])) :
    ∀ (n i : Nat) (a b : Int32), i + n = 99 → ∀ (H : Heap) (locs : List Loc) (ls : Array Slot), va_P D vwCl (rb_w cI o v) H → va_D A (rb_w cI o v) → va_S A s.heap H locs → lv_has ls 5 [(0, .ref o), (1, .int (nI r)), (2, .int a), (3, .int b), (4, .int (nI i))] → W p l e (rm_ 5 0 0 107) s m args below meth c H locs 0 0 Q (F0 m 35 ls []) := by
  have hx := C.1
  have hb := C.2.1
  have hown := C.2.2.2.1
  have hts := C.2.2.2.2.1
  intro n
  induction n with
  | zero =>
    intro i a b hi H locs ls hP hD hS hl
    have hiN : i = 99 := by omega
    refine lv_iload_n hx hb dX1_until_35 rfl (lv_at hl 2 rfl) ?_
    refine lv_if_le (tgt := 73) hx hb dX1_until_36 (by decide) (fun c1 => ?_) (fun c1 => ?_)
    · exact kk _ _ _ _ _ _ hP hD hS (lv_sub hl [0, 1, 2, 3, 4] rfl)
    · refine lv_iload hx hb dX1_until_39 (lv_at hl 4 rfl) ?_
      refine lv_bipush (v := 99) hx hb dX1_until_41 (by decide) ?_
      refine lv_icmp_ge (tgt := 73) hx hb dX1_until_43 (by decide) (fun c2 => ?_) (fun c2 => absurd ((nI_leI (a := 99) (b := i) (by omega) (by omega)).mpr (by omega)) c2)
      exact kk _ _ _ _ _ _ hP hD hS (lv_sub hl [0, 1, 2, 3, 4] rfl)
  | succ n ih =>
    intro i a b hi H locs ls hP hD hS hl
    have hin : i < 99 := by omega
    refine lv_iload_n hx hb dX1_until_35 rfl (lv_at hl 2 rfl) ?_
    refine lv_if_le (tgt := 73) hx hb dX1_until_36 (by decide) (fun c1 => ?_) (fun c1 => ?_)
    · exact kk _ _ _ _ _ _ hP hD hS (lv_sub hl [0, 1, 2, 3, 4] rfl)
    · refine lv_iload hx hb dX1_until_39 (lv_at hl 4 rfl) ?_
      refine lv_bipush (v := 99) hx hb dX1_until_41 (by decide) ?_
      refine lv_icmp_ge (tgt := 73) hx hb dX1_until_43 (by decide) (fun c2 => absurd c2 (fun h9 => absurd ((nI_leI (a := 99) (b := i) (by omega) (by omega)).mp h9) (by omega))) (fun c2 => ?_)
      refine lv_iload_n hx hb dX1_until_46 rfl (lv_at hl 2 rfl) ?_
      refine lv_iload_n hx hb dX1_until_47 rfl (lv_at hl 2 rfl) ?_
      refine lv_iload_n hx hb dX1_until_48 rfl (lv_at hl 3 rfl) ?_
      refine lv_aload_n hx hb dX1_until_49 rfl (lv_at hl 0 rfl) ?_
      refine x1_gf C hP 3 (by decide) (x := .ref (v.2.2.2.2 0)) rfl rfl q30 dX1_until_50 ?_
      refine lv_iconst (v := 4) hx hb dX1_until_53 (by decide) ?_
      refine x1_ld C hP (k := 0) (i := 4) (by decide) (by decide) rfl dX1_until_54 ?_
      refine lv_idiv hx hb dX1_until_55 hp ?_
      refine g_min C q212 q180 q173 q181 hl.1 (Nat.le_of_ble_eq_true rfl) (Nat.le_of_ble_eq_true rfl) (Nat.le_of_ble_eq_true rfl) (Nat.le_of_ble_eq_true rfl) dX1_until_56 ?_
      refine lv_isub hx hb dX1_until_59 ?_
      refine lv_topi (fun v3 ev3 => ?_)
      refine lv_istore_n (lv' := [(2, .int v3), (0, .ref o), (1, .int (nI r)), (3, .int b), (4, .int (nI i))]) hx hb dX1_until_60 rfl hl (by decide) rfl (fun ls hl => ?_)
      refine lv_aload_n hx hb dX1_until_61 rfl (lv_at hl 1 rfl) ?_
      refine lv_iload_n hx hb dX1_until_62 rfl (lv_at hl 2 rfl) ?_
      refine g_ci (wr := []) (cells' := 0) (slots' := 0) rfl rfl C rd_nil hD hS (g_runV (wr := []) (n := 1) C (mX1_wageOf l D t cI o H.size v r (by omega)) (rw_V q226 q227 q228 q5 q229) kd_X1_wageOf ⟨Nat.le_of_ble_eq_true rfl, Nat.le_of_ble_eq_true rfl⟩ (ci := 1) rfl rfl rfl C.2.2.2.2.2.1 hP hD hS hl.1 rfl rfl (Nat.le_of_ble_eq_true rfl) dX1_until_63 ⟨Nat.le_of_ble_eq_true rfl, Nat.le_of_ble_eq_true rfl⟩) (fun r4 w' H locs hv _ _ hP hD hS => ?_)
      subst hv
      have hD : va_D A (rb_w cI o v) := hD
      refine lv_istore_n (lv' := [(3, .int r4), (2, .int v3), (0, .ref o), (1, .int (nI r)), (4, .int (nI i))]) hx hb dX1_until_66 rfl hl (by decide) rfl (fun ls hl => ?_)
      refine lv_iinc (v := nI (i + 1)) (lv' := [(4, .int (nI (i + 1))), (3, .int r4), (2, .int v3), (0, .ref o), (1, .int (nI r))]) hx hb dX1_until_67 hl (k := 4) rfl (nI_1 _) (by decide) rfl (fun ls hl => ?_)
      refine lv_goto (tgt := 35) hx hb dX1_until_70 (by decide) ?_
      exact ih (i + 1) _ _ (by omega) _ _ _ hP hD hS (lv_sub hl [3, 4, 2, 1, 0] rfl)
set_option maxHeartbeats 4000000 in
set_option maxRecDepth 100000 in
theorem wX1_until (l : Launch) (D : va_G) (t : Nat → Nat) (cI : ClassId) (o : Nat) (sz : Nat) (v : S1) (hn : v.2.1 ≤ 8) (hp : ¬ v.1 0 4 = 0) (r : Nat) (hr : r < v.2.1) : gMi l yX1_until (rw_ yX1_until cX1_until 5 (some .int)) (rm_ 5 0 0 107) [.ref o, .int (nI r)] D [(cI, .int)] t (rb_w cI o v) sz (fun _ w' => ∃ v', rb_E v v' ∧ w' = rb_w cI o v') := by
  refine g_of (cc := cX1_until) (nL := 5) (rt := (some .int)) (Q := fun A => va_Qi _ (fun w' U => gQ D A w' U) A) (by decide) (Nat.le_of_ble_eq_true rfl) (fun p e s m args below meth c A ls H C hrt hnm hS hP hD hl => ?_)
  have hx := C.1
  have hb := C.2.1
  have hown := C.2.2.2.1
  have hts := C.2.2.2.2.1
  have hl : lv_has ls 5 [(0, .ref o), (1, .int (nI r))] := hl
  refine lv_aload_n hx hb dX1_until_0 rfl (lv_at hl 0 rfl) ?_
  refine lv_iconst (v := 0) hx hb dX1_until_1 (by decide) ?_
  refine x1_pt C hP hD hS q59 dX1_until_2 (fun H locs hP hD hS => ?_)
  have hP : va_P D vwCl (rb_w cI o (rb_t v 0)) H := hP
  have hD : va_D A (rb_w cI o (rb_t v 0)) := hD
  refine lv_aload_n hx hb dX1_until_5 rfl (lv_at hl 0 rfl) ?_
  refine lv_iload_n hx hb dX1_until_6 rfl (lv_at hl 1 rfl) ?_
  refine g_ci (wr := []) (cells' := 0) (slots' := 0) rfl rfl C rd_nil hD hS (g_runV (wr := []) (n := 1) C (mX1_isReaper l D t cI o H.size (rb_t v 0) (nI r)) (rw_V q124 q125 q126 q5 q127) kd_X1_isReaper ⟨Nat.le_of_ble_eq_true rfl, Nat.le_of_ble_eq_true rfl⟩ (ci := 1) rfl rfl rfl C.2.2.2.2.2.1 hP hD hS hl.1 rfl rfl (Nat.le_of_ble_eq_true rfl) dX1_until_7 ⟨Nat.le_of_ble_eq_true rfl, Nat.le_of_ble_eq_true rfl⟩) (fun r1 w' H locs hv _ _ hP hD hS => ?_)
  obtain ⟨rfl, rfl⟩ := hv
  have hD : va_D A (rb_w cI o (rb_t v 0)) := hD
  refine g_top (y := 1) (rb_reY hn hr) ?_
  refine lv_if_ne (tgt := 19) hx hb dX1_until_10 (by decide) (fun c2 => ?_) (fun c2 => absurd c2 (by decide))
  refine lv_aload_n hx hb dX1_until_19 rfl (lv_at hl 0 rfl) ?_
  refine lv_iload_n hx hb dX1_until_20 rfl (lv_at hl 1 rfl) ?_
  refine lv_iconst (v := 4) hx hb dX1_until_21 (by decide) ?_
  refine g_ci (wr := []) (cells' := 0) (slots' := 0) rfl rfl C rd_nil hD hS (g_runV (wr := []) (n := 2) C (mX1_re l D t cI o H.size (rb_t v 0) r 4 (by omega) (by omega)) (rw_V q128 q129 q130 q5 q131) kd_X1_re ⟨Nat.le_of_ble_eq_true rfl, Nat.le_of_ble_eq_true rfl⟩ (ci := 1) rfl rfl rfl C.2.2.2.2.2.1 hP hD hS hl.1 rfl rfl (Nat.le_of_ble_eq_true rfl) dX1_until_22 ⟨Nat.le_of_ble_eq_true rfl, Nat.le_of_ble_eq_true rfl⟩) (fun r3 w' H locs hv _ _ hP hD hS => ?_)
  obtain ⟨rfl, rfl⟩ := hv
  have hD : va_D A (rb_w cI o (rb_t v 0)) := hD
  refine lv_topi (fun v4 ev4 => ?_)
  refine lv_istore_n (lv' := [(2, .int v4), (0, .ref o), (1, .int (nI r))]) hx hb dX1_until_25 rfl hl (by decide) rfl (fun ls hl => ?_)
  refine lv_aload_n hx hb dX1_until_26 rfl (lv_at hl 1 rfl) ?_
  refine lv_iload_n hx hb dX1_until_27 rfl (lv_at hl 2 rfl) ?_
  refine g_ci (wr := []) (cells' := 0) (slots' := 0) rfl rfl C rd_nil hD hS (g_runV (wr := []) (n := 1) C (mX1_coming l D t cI o H.size (rb_t v 0) r (by omega)) (rw_V q222 q223 q224 q5 q225) kd_X1_coming ⟨Nat.le_of_ble_eq_true rfl, Nat.le_of_ble_eq_true rfl⟩ (ci := 1) rfl rfl rfl C.2.2.2.2.2.1 hP hD hS hl.1 rfl rfl (Nat.le_of_ble_eq_true rfl) dX1_until_28 ⟨Nat.le_of_ble_eq_true rfl, Nat.le_of_ble_eq_true rfl⟩) (fun r5 w' H locs hv _ _ hP hD hS => ?_)
  subst hv
  have hD : va_D A (rb_w cI o (rb_t v 0)) := hD
  refine lv_istore_n (lv' := [(3, .int r5), (2, .int v4), (0, .ref o), (1, .int (nI r))]) hx hb dX1_until_31 rfl hl (by decide) rfl (fun ls hl => ?_)
  refine lv_iconst (v := 0) hx hb dX1_until_32 (by decide) ?_
  refine lv_istore (lv' := [(4, .int 0), (3, .int r5), (2, .int v4), (0, .ref o), (1, .int (nI r))]) hx hb dX1_until_33 hl (by decide) rfl (fun ls hl => ?_)
  refine lpwX1_until (v := rb_t v 0) C hn hp hr (fun a b i H locs ls hP hD hS hl => ?_) 99 0 _ _ (by omega) _ _ _ hP hD hS (lv_sub hl [3, 4, 2, 1, 0] rfl)
  refine lv_iload_n hx hb dX1_until_73 rfl (lv_at hl 2 rfl) ?_
  refine lv_if_le (tgt := 81) hx hb dX1_until_74 (by decide) (fun c6 => ?_) (fun c6 => ?_)
  · refine lv_iload hx hb dX1_until_81 (lv_at hl 4 rfl) ?_
    exact g_iret C hrt hP hD hS dX1_until_83 (by subst ev4; refine ⟨_, ?_, rfl⟩; exact ⟨rfl, rfl, fun _ _ => ⟨rfl, rfl⟩⟩)
  · refine lv_iconst (v := (-1)) hx hb dX1_until_77 (by decide) ?_
    refine lv_goto (tgt := 83) hx hb dX1_until_78 (by decide) ?_
    exact g_iret C hrt hP hD hS dX1_until_83 (by subst ev4; refine ⟨_, ?_, rfl⟩; exact ⟨rfl, rfl, fun _ _ => ⟨rfl, rfl⟩⟩)
set_option maxHeartbeats 4000000 in
set_option maxRecDepth 100000 in
theorem wbX1_until1 (l : Launch) (D : va_G) (t : Nat → Nat) (cI : ClassId) (o : Nat) (sz : Nat) (v : S1) (hn : v.2.1 ≤ 8) (x0 : Int32) (h : x0 < 0 ∨ nI v.2.1 ≤ x0) : gMi l yX1_until (rw_ yX1_until cX1_until 5 (some .int)) (rm_ 2 0 0 43) [.ref o, .int x0] D [(cI, .int)] t (rb_w cI o v) sz (fun _ w' => ∃ v', rb_E v v' ∧ w' = rb_w cI o v') := by
  refine g_of (cc := cX1_until) (nL := 5) (rt := (some .int)) (Q := fun A => va_Qi _ (fun w' U => gQ D A w' U) A) (by decide) (Nat.le_of_ble_eq_true rfl) (fun p e s m args below meth c A ls H C hrt hnm hS hP hD hl => ?_)
  have hx := C.1
  have hb := C.2.1
  have hown := C.2.2.2.1
  have hts := C.2.2.2.2.1
  have hl : lv_has ls 5 [(0, .ref o), (1, .int x0)] := hl
  refine lv_aload_n hx hb dX1_until_0 rfl (lv_at hl 0 rfl) ?_
  refine lv_iconst (v := 0) hx hb dX1_until_1 (by decide) ?_
  refine x1_pt C hP hD hS q59 dX1_until_2 (fun H locs hP hD hS => ?_)
  have hP : va_P D vwCl (rb_w cI o (rb_t v 0)) H := hP
  have hD : va_D A (rb_w cI o (rb_t v 0)) := hD
  refine lv_aload_n hx hb dX1_until_5 rfl (lv_at hl 0 rfl) ?_
  refine lv_iload_n hx hb dX1_until_6 rfl (lv_at hl 1 rfl) ?_
  refine g_ci (wr := []) (cells' := 0) (slots' := 0) rfl rfl C rd_nil hD hS (g_runV (wr := []) (n := 1) C (mX1_isReaper l D t cI o H.size (rb_t v 0) x0) (rw_V q124 q125 q126 q5 q127) kd_X1_isReaper ⟨Nat.le_of_ble_eq_true rfl, Nat.le_of_ble_eq_true rfl⟩ (ci := 1) rfl rfl rfl C.2.2.2.2.2.1 hP hD hS hl.1 rfl rfl (Nat.le_of_ble_eq_true rfl) dX1_until_7 ⟨Nat.le_of_ble_eq_true rfl, Nat.le_of_ble_eq_true rfl⟩) (fun r1 w' H locs hv _ _ hP hD hS => ?_)
  obtain ⟨rfl, rfl⟩ := hv
  have hD : va_D A (rb_w cI o (rb_t v 0)) := hD
  refine g_top (y := 0) (rb_reN hn h) ?_
  refine lv_if_ne (tgt := 19) hx hb dX1_until_10 (by decide) (fun c2 => absurd c2 (by decide)) (fun c2 => ?_)
  refine lv_aload_n hx hb dX1_until_13 rfl (lv_at hl 0 rfl) ?_
  refine lv_iconst (v := 1) hx hb dX1_until_14 (by decide) ?_
  refine g_ci (wr := []) (cells' := 0) (slots' := 0) rfl rfl C rd_nil hD hS (g_runV (wr := []) (n := 1) C (mX1_fail l D t cI o H.size (rb_t v 0) 1) (rw_V q64 q65 q66 q5 q67) kd_X1_fail ⟨Nat.le_of_ble_eq_true rfl, Nat.le_of_ble_eq_true rfl⟩ (ci := 1) rfl rfl rfl C.2.2.2.2.2.1 hP hD hS hl.1 rfl rfl (Nat.le_of_ble_eq_true rfl) dX1_until_15 ⟨Nat.le_of_ble_eq_true rfl, Nat.le_of_ble_eq_true rfl⟩) (fun r3 w' H locs hv _ _ hP hD hS => ?_)
  obtain ⟨rfl, rfl⟩ := hv
  have hD : va_D A (rb_w cI o (rb_t (rb_t v 0) 1)) := hD
  have hP : va_P D vwCl (rb_w cI o (rb_t (rb_t v 0) 1)) H := hP
  have hD : va_D A (rb_w cI o (rb_t (rb_t v 0) 1)) := hD
  exact g_iret C hrt hP hD hS dX1_until_18 (by skip; refine ⟨_, ?_, rfl⟩; exact ⟨rfl, rfl, fun _ _ => ⟨rfl, rfl⟩⟩)
set_option maxHeartbeats 4000000 in
set_option maxRecDepth 100000 in
theorem lpwX1_adviseA {p : Program} {l : Launch} {e : Env} {s : State} {m : MethodId} {args : Array Value} {below : List Frame} {meth : Method} {c : Code} {Q : State → Prop} {D : va_G} {t : Nat → Nat} {A : Nat → Prop} {cI : ClassId} {o : Nat} {v : S1} (C : gC p s m args meth c cX1_advise 5 RX1 D [(cI, .int)] t A) (hn : v.2.1 ≤ 8) (kk : ∀ (a b : Int32) (H : Heap) (locs : List Loc) (ls : Array Slot), va_P D vwCl (rb_w cI o v) H → va_D A (rb_w cI o v) → va_S A s.heap H locs → lv_has ls 5 [(0, .ref o), (1, .int a), (2, .int b), (3, .int (nI v.2.1))] → W p l e (rm_ 2 0 0 44) s m args below meth c H locs 0 0 Q (F0 m 41 ls [])) :
    ∀ (n i : Nat) (a b : Int32), i + n = v.2.1 → ∀ (H : Heap) (locs : List Loc) (ls : Array Slot), va_P D vwCl (rb_w cI o v) H → va_D A (rb_w cI o v) → va_S A s.heap H locs → lv_has ls 5 [(0, .ref o), (1, .int a), (2, .int b), (3, .int (nI i))] → W p l e (rm_ 2 0 0 44) s m args below meth c H locs 0 0 Q (F0 m 11 ls []) := by
  have hx := C.1
  have hb := C.2.1
  have hown := C.2.2.2.1
  have hts := C.2.2.2.2.1
  intro n
  induction n with
  | zero =>
    intro i a b hi H locs ls hP hD hS hl
    have hiN : i = v.2.1 := by omega
    refine lv_iload_n hx hb dX1_advise_11 rfl (lv_at hl 3 rfl) ?_
    refine lv_aload_n hx hb dX1_advise_12 rfl (lv_at hl 0 rfl) ?_
    refine x1_gf C hP 1 (by decide) (x := .int (nI v.2.1)) rfl rfl q60 dX1_advise_13 ?_
    refine lv_icmp_ge (tgt := 41) hx hb dX1_advise_16 (by decide) (fun c1 => ?_) (fun c1 => absurd ((nI_leI (a := v.2.1) (b := i) (by omega) (by omega)).mpr (by omega)) c1)
    subst hiN
    exact kk a b _ _ _ hP hD hS (lv_sub hl [0, 1, 2, 3] rfl)
  | succ n ih =>
    intro i a b hi H locs ls hP hD hS hl
    have hin : i < v.2.1 := by omega
    refine lv_iload_n hx hb dX1_advise_11 rfl (lv_at hl 3 rfl) ?_
    refine lv_aload_n hx hb dX1_advise_12 rfl (lv_at hl 0 rfl) ?_
    refine x1_gf C hP 1 (by decide) (x := .int (nI v.2.1)) rfl rfl q60 dX1_advise_13 ?_
    refine lv_icmp_ge (tgt := 41) hx hb dX1_advise_16 (by decide) (fun c1 => absurd c1 (fun h9 => absurd ((nI_leI (a := v.2.1) (b := i) (by omega) (by omega)).mp h9) (by omega))) (fun c1 => ?_)
    refine lv_iload_n hx hb dX1_advise_19 rfl (lv_at hl 1 rfl) ?_
    refine lv_aload_n hx hb dX1_advise_20 rfl (lv_at hl 0 rfl) ?_
    refine lv_iload_n hx hb dX1_advise_21 rfl (lv_at hl 3 rfl) ?_
    refine g_ci (wr := []) (cells' := 0) (slots' := 0) rfl rfl C rd_nil hD hS (g_runV (wr := []) (n := 1) C (mX1_pieces l D t cI o H.size v i (by omega)) (rw_V q231 q232 q233 q5 q234) kd_X1_pieces ⟨Nat.le_of_ble_eq_true rfl, Nat.le_of_ble_eq_true rfl⟩ (ci := 1) rfl rfl rfl C.2.2.2.2.2.1 hP hD hS hl.1 rfl rfl (Nat.le_of_ble_eq_true rfl) dX1_advise_22 ⟨Nat.le_of_ble_eq_true rfl, Nat.le_of_ble_eq_true rfl⟩) (fun r2 w' H locs hv _ _ hP hD hS => ?_)
    subst hv
    have hD : va_D A (rb_w cI o v) := hD
    refine lv_iadd hx hb dX1_advise_25 ?_
    refine lv_topi (fun v3 ev3 => ?_)
    refine lv_istore_n (lv' := [(1, .int v3), (0, .ref o), (2, .int b), (3, .int (nI i))]) hx hb dX1_advise_26 rfl hl (by decide) rfl (fun ls hl => ?_)
    refine lv_iload_n hx hb dX1_advise_27 rfl (lv_at hl 2 rfl) ?_
    refine lv_aload_n hx hb dX1_advise_28 rfl (lv_at hl 1 rfl) ?_
    refine lv_iload_n hx hb dX1_advise_29 rfl (lv_at hl 3 rfl) ?_
    refine g_ci (wr := []) (cells' := 0) (slots' := 0) rfl rfl C rd_nil hD hS (g_runV (wr := []) (n := 1) C (mX1_counting l D t cI o H.size v i (by omega)) (rw_V q239 q240 q241 q5 q242) kd_X1_counting ⟨Nat.le_of_ble_eq_true rfl, Nat.le_of_ble_eq_true rfl⟩ (ci := 1) rfl rfl rfl C.2.2.2.2.2.1 hP hD hS hl.1 rfl rfl (Nat.le_of_ble_eq_true rfl) dX1_advise_30 ⟨Nat.le_of_ble_eq_true rfl, Nat.le_of_ble_eq_true rfl⟩) (fun r4 w' H locs hv _ _ hP hD hS => ?_)
    subst hv
    have hD : va_D A (rb_w cI o v) := hD
    refine lv_iadd hx hb dX1_advise_33 ?_
    refine lv_topi (fun v5 ev5 => ?_)
    refine lv_istore_n (lv' := [(2, .int v5), (1, .int v3), (0, .ref o), (3, .int (nI i))]) hx hb dX1_advise_34 rfl hl (by decide) rfl (fun ls hl => ?_)
    refine lv_iinc (v := nI (i + 1)) (lv' := [(3, .int (nI (i + 1))), (2, .int v5), (1, .int v3), (0, .ref o)]) hx hb dX1_advise_35 hl (k := 3) rfl (nI_1 _) (by decide) rfl (fun ls hl => ?_)
    refine lv_goto (tgt := 11) hx hb dX1_advise_38 (by decide) ?_
    exact ih (i + 1) _ _ (by omega) _ _ _ hP hD hS (lv_sub hl [3, 2, 1, 0] rfl)
set_option maxHeartbeats 4000000 in
set_option maxRecDepth 100000 in
theorem lpwX1_adviseB {p : Program} {l : Launch} {e : Env} {s : State} {m : MethodId} {args : Array Value} {below : List Frame} {meth : Method} {c : Code} {Q : State → Prop} {D : va_G} {t : Nat → Nat} {A : Nat → Prop} {cI : ClassId} {o : Nat} {v : S1} {a b : Int32} (C : gC p s m args meth c cX1_advise 5 RX1 D [(cI, .int)] t A) (kk : ∀ (z : Int32) (H : Heap) (locs : List Loc) (ls : Array Slot), va_P D vwCl (rb_w cI o v) H → va_D A (rb_w cI o v) → va_S A s.heap H locs → lv_has ls 5 [(0, .ref o), (1, .int a), (2, .int b), (3, .int z), (4, .int (nI (98 + 2)))] → W p l e (rm_ 2 0 0 44) s m args below meth c H locs 0 0 Q (F0 m 85 ls [])) :
    ∀ (n i : Nat) (z : Int32), i + n = 98 → ∀ (H : Heap) (locs : List Loc) (ls : Array Slot), va_P D vwCl (rb_w cI o v) H → va_D A (rb_w cI o v) → va_S A s.heap H locs → lv_has ls 5 [(0, .ref o), (1, .int a), (2, .int b), (3, .int z), (4, .int (nI (i + 2)))] → W p l e (rm_ 2 0 0 44) s m args below meth c H locs 0 0 Q (F0 m 46 ls []) := by
  have hx := C.1
  have hb := C.2.1
  have hown := C.2.2.2.1
  have hts := C.2.2.2.2.1
  intro n
  induction n with
  | zero =>
    intro i z hi H locs ls hP hD hS hl
    have hiN : i = 98 := by omega
    refine lv_iload hx hb dX1_advise_46 (lv_at hl 4 rfl) ?_
    refine g_gs C hS (C.2.2.2.2.2.2.2.1.2.2.2.2.2.2.2.2.1) q95 dX1_advise_48 ?_
    refine lv_iconst (v := 1) hx hb dX1_advise_51 (by decide) ?_
    refine g_ti C hS (N := 5) (i := 1) (f := rt_RX1_HIGH) C.2.2.2.2.2.2.2.1.2.2.2.2.2.2.2.2.2.1 (by decide) (by decide) rfl dX1_advise_52 ?_
    refine lv_icmp_gt (tgt := 85) hx hb dX1_advise_53 (by decide) (fun c1 => ?_) (fun c1 => absurd ((nI_ltI (a := 99) (b := i + 2) (by omega) (by omega)).mpr (by omega)) c1)
    subst hiN
    exact kk z _ _ _ hP hD hS (lv_sub hl [0, 1, 2, 3, 4] rfl)
  | succ n ih =>
    intro i z hi H locs ls hP hD hS hl
    have hin : i < 98 := by omega
    refine lv_iload hx hb dX1_advise_46 (lv_at hl 4 rfl) ?_
    refine g_gs C hS (C.2.2.2.2.2.2.2.1.2.2.2.2.2.2.2.2.1) q95 dX1_advise_48 ?_
    refine lv_iconst (v := 1) hx hb dX1_advise_51 (by decide) ?_
    refine g_ti C hS (N := 5) (i := 1) (f := rt_RX1_HIGH) C.2.2.2.2.2.2.2.1.2.2.2.2.2.2.2.2.2.1 (by decide) (by decide) rfl dX1_advise_52 ?_
    refine lv_icmp_gt (tgt := 85) hx hb dX1_advise_53 (by decide) (fun c1 => absurd c1 (fun h9 => absurd ((nI_ltI (a := 99) (b := i + 2) (by omega) (by omega)).mp h9) (by omega))) (fun c1 => ?_)
    refine lv_iload hx hb dX1_advise_56 (lv_at hl 4 rfl) ?_
    refine lv_iload_n hx hb dX1_advise_58 rfl (lv_at hl 2 rfl) ?_
    refine lv_imul hx hb dX1_advise_59 ?_
    refine lv_iload_n hx hb dX1_advise_60 rfl (lv_at hl 1 rfl) ?_
    refine lv_isub hx hb dX1_advise_61 ?_
    refine g_abs C q400 q401 q173 q402 hl.1 (Nat.le_of_ble_eq_true rfl) (Nat.le_of_ble_eq_true rfl) (Nat.le_of_ble_eq_true rfl) (Nat.le_of_ble_eq_true rfl) dX1_advise_62 ?_
    refine lv_iload_n hx hb dX1_advise_65 rfl (lv_at hl 3 rfl) ?_
    refine lv_iload_n hx hb dX1_advise_66 rfl (lv_at hl 2 rfl) ?_
    refine lv_imul hx hb dX1_advise_67 ?_
    refine lv_iload_n hx hb dX1_advise_68 rfl (lv_at hl 1 rfl) ?_
    refine lv_isub hx hb dX1_advise_69 ?_
    refine g_abs C q400 q401 q173 q402 hl.1 (Nat.le_of_ble_eq_true rfl) (Nat.le_of_ble_eq_true rfl) (Nat.le_of_ble_eq_true rfl) (Nat.le_of_ble_eq_true rfl) dX1_advise_70 ?_
    refine lv_icmp_ge (tgt := 79) hx hb dX1_advise_73 (by decide) (fun c2 => ?_) (fun c2 => ?_)
    · refine lv_iinc (v := nI (i + 2 + 1)) (lv' := [(4, .int (nI (i + 2 + 1))), (0, .ref o), (1, .int a), (2, .int b), (3, .int z)]) hx hb dX1_advise_79 hl (k := 4) rfl (nI_1 _) (by decide) rfl (fun ls hl => ?_)
      refine lv_goto (tgt := 46) hx hb dX1_advise_82 (by decide) ?_
      exact ih (i + 1) _ (by omega) _ _ _ hP hD hS (lv_sub hl [1, 2, 3, 4, 0] rfl)
    · refine lv_iload hx hb dX1_advise_76 (lv_at hl 4 rfl) ?_
      refine lv_istore_n (lv' := [(3, .int (nI (i + 2))), (0, .ref o), (1, .int a), (2, .int b), (4, .int (nI (i + 2)))]) hx hb dX1_advise_78 rfl hl (by decide) rfl (fun ls hl => ?_)
      refine lv_iinc (v := nI (i + 2 + 1)) (lv' := [(4, .int (nI (i + 2 + 1))), (3, .int (nI (i + 2))), (0, .ref o), (1, .int a), (2, .int b)]) hx hb dX1_advise_79 hl (k := 4) rfl (nI_1 _) (by decide) rfl (fun ls hl => ?_)
      refine lv_goto (tgt := 46) hx hb dX1_advise_82 (by decide) ?_
      exact ih (i + 1) _ (by omega) _ _ _ hP hD hS (lv_sub hl [2, 3, 4, 1, 0] rfl)
set_option maxHeartbeats 4000000 in
set_option maxRecDepth 100000 in
theorem wX1_advise (l : Launch) (D : va_G) (t : Nat → Nat) (cI : ClassId) (o : Nat) (sz : Nat) (v : S1) (hn : v.2.1 ≤ 8) : gMi l yX1_advise (rw_ yX1_advise cX1_advise 5 (some .int)) (rm_ 2 0 0 44) [.ref o] D [(cI, .int)] t (rb_w cI o v) sz (fun _ w' => ∃ v', rb_E v v' ∧ w' = rb_w cI o v') := by
  refine g_of (cc := cX1_advise) (nL := 5) (rt := (some .int)) (Q := fun A => va_Qi _ (fun w' U => gQ D A w' U) A) (by decide) (Nat.le_of_ble_eq_true rfl) (fun p e s m args below meth c A ls H C hrt hnm hS hP hD hl => ?_)
  have hx := C.1
  have hb := C.2.1
  have hown := C.2.2.2.1
  have hts := C.2.2.2.2.1
  have hl : lv_has ls 5 [(0, .ref o)] := hl
  refine lv_aload_n hx hb dX1_advise_0 rfl (lv_at hl 0 rfl) ?_
  refine lv_iconst (v := 0) hx hb dX1_advise_1 (by decide) ?_
  refine x1_pt C hP hD hS q59 dX1_advise_2 (fun H locs hP hD hS => ?_)
  have hP : va_P D vwCl (rb_w cI o (rb_t v 0)) H := hP
  have hD : va_D A (rb_w cI o (rb_t v 0)) := hD
  refine lv_iconst (v := 0) hx hb dX1_advise_5 (by decide) ?_
  refine lv_istore_n (lv' := [(1, .int 0), (0, .ref o)]) hx hb dX1_advise_6 rfl hl (by decide) rfl (fun ls hl => ?_)
  refine lv_iconst (v := 0) hx hb dX1_advise_7 (by decide) ?_
  refine lv_istore_n (lv' := [(2, .int 0), (1, .int 0), (0, .ref o)]) hx hb dX1_advise_8 rfl hl (by decide) rfl (fun ls hl => ?_)
  refine lv_iconst (v := 0) hx hb dX1_advise_9 (by decide) ?_
  refine lv_istore_n (lv' := [(3, .int 0), (2, .int 0), (1, .int 0), (0, .ref o)]) hx hb dX1_advise_10 rfl hl (by decide) rfl (fun ls hl => ?_)
  refine lpwX1_adviseA (v := rb_t v 0) C hn (fun a b H locs ls hP hD hS hl => ?_) v.2.1 0 _ _ (Nat.zero_add _) _ _ _ hP hD hS (lv_sub hl [3, 2, 1, 0] rfl)
  refine lv_iconst (v := 1) hx hb dX1_advise_41 (by decide) ?_
  refine lv_istore_n (lv' := [(3, .int 1), (0, .ref o), (1, .int a), (2, .int b)]) hx hb dX1_advise_42 rfl hl (by decide) rfl (fun ls hl => ?_)
  refine lv_iconst (v := 2) hx hb dX1_advise_43 (by decide) ?_
  refine lv_istore (lv' := [(4, .int 2), (3, .int 1), (0, .ref o), (1, .int a), (2, .int b)]) hx hb dX1_advise_44 hl (by decide) rfl (fun ls hl => ?_)
  refine lpwX1_adviseB (v := rb_t v 0) C (fun c9 H locs ls hP hD hS hl => ?_) 98 0 _ (by omega) _ _ _ hP hD hS (lv_sub hl [2, 3, 4, 1, 0] rfl)
  refine lv_iload_n hx hb dX1_advise_85 rfl (lv_at hl 3 rfl) ?_
  exact g_iret C hrt hP hD hS dX1_advise_86 (by skip; refine ⟨_, ?_, rfl⟩; exact ⟨rfl, rfl, fun _ _ => ⟨rfl, rfl⟩⟩)
set_option maxHeartbeats 4000000 in
set_option maxRecDepth 100000 in
theorem lpwX1_lacks1 {p : Program} {l : Launch} {e : Env} {s : State} {m : MethodId} {args : Array Value} {below : List Frame} {meth : Method} {c : Code} {Q : State → Prop} {D : va_G} {t : Nat → Nat} {A : Nat → Prop} {cI : ClassId} {o : Nat} {v : S1} {k : Int32} (C : gC p s m args meth c cX1_lacks 5 RX1 D [(cI, .int)] t A) (hn : v.2.1 ≤ 8) (hp : ¬ v.1 0 4 = 0) (kk : ∀ (a : Int32) (H : Heap) (locs : List Loc) (ls : Array Slot), va_P D vwCl (rb_w cI o v) H → va_D A (rb_w cI o v) → va_S A s.heap H locs → lv_has ls 5 [(0, .ref o), (1, .int k), (2, .int a), (3, .int (nI v.2.1))] → W p l e (rm_ 8 10 115 177) s m args below meth c H locs 0 0 Q (F0 m 44 ls [])) :
    ∀ (n i : Nat) (a : Int32), i + n = v.2.1 → ∀ (H : Heap) (locs : List Loc) (ls : Array Slot), va_P D vwCl (rb_w cI o v) H → va_D A (rb_w cI o v) → va_S A s.heap H locs → lv_has ls 5 [(0, .ref o), (1, .int k), (2, .int a), (3, .int (nI i))] → W p l e (rm_ 8 10 115 177) s m args below meth c H locs 0 0 Q (F0 m 16 ls []) := by
  have hx := C.1
  have hb := C.2.1
  have hown := C.2.2.2.1
  have hts := C.2.2.2.2.1
  intro n
  induction n with
  | zero =>
    intro i a hi H locs ls hP hD hS hl
    have hiN : i = v.2.1 := by omega
    refine lv_iload_n hx hb dX1_lacks_16 rfl (lv_at hl 3 rfl) ?_
    refine lv_aload_n hx hb dX1_lacks_17 rfl (lv_at hl 0 rfl) ?_
    refine x1_gf C hP 1 (by decide) (x := .int (nI v.2.1)) rfl rfl q60 dX1_lacks_18 ?_
    refine lv_icmp_ge (tgt := 44) hx hb dX1_lacks_21 (by decide) (fun c1 => ?_) (fun c1 => absurd ((nI_leI (a := v.2.1) (b := i) (by omega) (by omega)).mpr (by omega)) c1)
    subst hiN
    exact kk a _ _ _ hP hD hS (lv_sub hl [0, 1, 2, 3] rfl)
  | succ n ih =>
    intro i a hi H locs ls hP hD hS hl
    have hin : i < v.2.1 := by omega
    refine lv_iload_n hx hb dX1_lacks_16 rfl (lv_at hl 3 rfl) ?_
    refine lv_aload_n hx hb dX1_lacks_17 rfl (lv_at hl 0 rfl) ?_
    refine x1_gf C hP 1 (by decide) (x := .int (nI v.2.1)) rfl rfl q60 dX1_lacks_18 ?_
    refine lv_icmp_ge (tgt := 44) hx hb dX1_lacks_21 (by decide) (fun c1 => absurd c1 (fun h9 => absurd ((nI_leI (a := v.2.1) (b := i) (by omega) (by omega)).mp h9) (by omega))) (fun c1 => ?_)
    refine lv_iload_n hx hb dX1_lacks_24 rfl (lv_at hl 2 rfl) ?_
    refine lv_aload_n hx hb dX1_lacks_25 rfl (lv_at hl 0 rfl) ?_
    refine lv_iload_n hx hb dX1_lacks_26 rfl (lv_at hl 3 rfl) ?_
    refine g_ci (wr := []) (cells' := 0) (slots' := 0) rfl rfl C rd_nil hD hS (g_runV (wr := []) (n := 1) C (mX1_coming l D t cI o H.size v i (by omega)) (rw_V q222 q223 q224 q5 q225) kd_X1_coming ⟨Nat.le_of_ble_eq_true rfl, Nat.le_of_ble_eq_true rfl⟩ (ci := 1) rfl rfl rfl C.2.2.2.2.2.1 hP hD hS hl.1 rfl rfl (Nat.le_of_ble_eq_true rfl) dX1_lacks_27 ⟨Nat.le_of_ble_eq_true rfl, Nat.le_of_ble_eq_true rfl⟩) (fun r2 w' H locs hv _ _ hP hD hS => ?_)
    subst hv
    have hD : va_D A (rb_w cI o v) := hD
    refine lv_aload_n hx hb dX1_lacks_30 rfl (lv_at hl 0 rfl) ?_
    refine lv_iload_n hx hb dX1_lacks_31 rfl (lv_at hl 3 rfl) ?_
    refine g_ci (wr := []) (cells' := 0) (slots' := 0) rfl rfl C rd_nil hD hS (g_runV (wr := []) (n := 1) C (mX1_back l D t cI o H.size v i (by omega) hp) (rw_V q218 q219 q220 q5 q221) kd_X1_back ⟨Nat.le_of_ble_eq_true rfl, Nat.le_of_ble_eq_true rfl⟩ (ci := 1) rfl rfl rfl C.2.2.2.2.2.1 hP hD hS hl.1 rfl rfl (Nat.le_of_ble_eq_true rfl) dX1_lacks_32 ⟨Nat.le_of_ble_eq_true rfl, Nat.le_of_ble_eq_true rfl⟩) (fun r3 w' H locs hv _ _ hP hD hS => ?_)
    subst hv
    have hD : va_D A (rb_w cI o v) := hD
    refine lv_isub hx hb dX1_lacks_35 ?_
    refine lv_iadd hx hb dX1_lacks_36 ?_
    refine lv_topi (fun v4 ev4 => ?_)
    refine lv_istore_n (lv' := [(2, .int v4), (0, .ref o), (1, .int k), (3, .int (nI i))]) hx hb dX1_lacks_37 rfl hl (by decide) rfl (fun ls hl => ?_)
    refine lv_iinc (v := nI (i + 1)) (lv' := [(3, .int (nI (i + 1))), (2, .int v4), (0, .ref o), (1, .int k)]) hx hb dX1_lacks_38 hl (k := 3) rfl (nI_1 _) (by decide) rfl (fun ls hl => ?_)
    refine lv_goto (tgt := 16) hx hb dX1_lacks_41 (by decide) ?_
    exact ih (i + 1) _ (by omega) _ _ _ hP hD hS (lv_sub hl [2, 3, 1, 0] rfl)
set_option maxHeartbeats 4000000 in
set_option maxRecDepth 100000 in
theorem lpwX1_lacks2 {p : Program} {l : Launch} {e : Env} {s : State} {m : MethodId} {args : Array Value} {below : List Frame} {meth : Method} {c : Code} {Q : State → Prop} {D : va_G} {t : Nat → Nat} {A : Nat → Prop} {cI : ClassId} {o : Nat} {v : S1} {k : Int32} (C : gC p s m args meth c cX1_lacks 5 RX1 D [(cI, .int)] t A) (hn : v.2.1 ≤ 8) (kk : ∀ (a : Int32) (H : Heap) (locs : List Loc) (ls : Array Slot), va_P D vwCl (rb_w cI o v) H → va_D A (rb_w cI o v) → va_S A s.heap H locs → lv_has ls 5 [(0, .ref o), (1, .int k), (3, .int a), (4, .int (nI v.2.1))] → W p l e (rm_ 8 10 115 177) s m args below meth c H locs 10 115 Q (F0 m 98 ls [])) :
    ∀ (n i : Nat) (a : Int32), i + n = v.2.1 → ∀ (H : Heap) (locs : List Loc) (ls : Array Slot), va_P D vwCl (rb_w cI o v) H → va_D A (rb_w cI o v) → va_S A s.heap H locs → lv_has ls 5 [(0, .ref o), (1, .int k), (3, .int a), (4, .int (nI i))] → W p l e (rm_ 8 10 115 177) s m args below meth c H locs 10 115 Q (F0 m 69 ls []) := by
  have hx := C.1
  have hb := C.2.1
  have hown := C.2.2.2.1
  have hts := C.2.2.2.2.1
  intro n
  induction n with
  | zero =>
    intro i a hi H locs ls hP hD hS hl
    have hiN : i = v.2.1 := by omega
    refine lv_iload hx hb dX1_lacks_69 (lv_at hl 3 rfl) ?_
    refine lv_aload_n hx hb dX1_lacks_71 rfl (lv_at hl 0 rfl) ?_
    refine x1_gf C hP 1 (by decide) (x := .int (nI v.2.1)) rfl rfl q60 dX1_lacks_72 ?_
    refine lv_icmp_ge (tgt := 98) hx hb dX1_lacks_75 (by decide) (fun c1 => ?_) (fun c1 => absurd ((nI_leI (a := v.2.1) (b := i) (by omega) (by omega)).mpr (by omega)) c1)
    subst hiN
    exact kk a _ _ _ hP hD hS (lv_sub hl [0, 1, 2, 3] rfl)
  | succ n ih =>
    intro i a hi H locs ls hP hD hS hl
    have hin : i < v.2.1 := by omega
    refine lv_iload hx hb dX1_lacks_69 (lv_at hl 3 rfl) ?_
    refine lv_aload_n hx hb dX1_lacks_71 rfl (lv_at hl 0 rfl) ?_
    refine x1_gf C hP 1 (by decide) (x := .int (nI v.2.1)) rfl rfl q60 dX1_lacks_72 ?_
    refine lv_icmp_ge (tgt := 98) hx hb dX1_lacks_75 (by decide) (fun c1 => absurd c1 (fun h9 => absurd ((nI_leI (a := v.2.1) (b := i) (by omega) (by omega)).mp h9) (by omega))) (fun c1 => ?_)
    refine lv_iload_n hx hb dX1_lacks_78 rfl (lv_at hl 2 rfl) ?_
    refine lv_aload_n hx hb dX1_lacks_79 rfl (lv_at hl 0 rfl) ?_
    refine x1_gf C hP 6 (by decide) (x := .ref (v.2.2.2.2 3)) rfl rfl q33 dX1_lacks_80 ?_
    refine lv_iconst (v := 3) hx hb dX1_lacks_83 (by decide) ?_
    refine lv_iload hx hb dX1_lacks_84 (lv_at hl 3 rfl) ?_
    refine lv_imul hx hb dX1_lacks_86 ?_
    refine g_top (pk_mul 3 i) ?_
    refine lv_iconst (v := 2) hx hb dX1_lacks_87 (by decide) ?_
    refine lv_iadd hx hb dX1_lacks_88 ?_
    refine g_top (nI_add (3 * i) 2) ?_
    refine x1_ld C hP (k := 3) (i := (3 * i) + 2) (by decide) (show (3 * i) + 2 < 24 by omega) rfl dX1_lacks_89 ?_
    refine lv_iadd hx hb dX1_lacks_90 ?_
    refine lv_topi (fun v2 ev2 => ?_)
    refine lv_istore_n (lv' := [(3, .int v2), (0, .ref o), (1, .int k), (4, .int (nI i))]) hx hb dX1_lacks_91 rfl hl (by decide) rfl (fun ls hl => ?_)
    refine lv_iinc (v := nI (i + 1)) (lv' := [(4, .int (nI (i + 1))), (3, .int v2), (0, .ref o), (1, .int k)]) hx hb dX1_lacks_92 hl (k := 3) rfl (nI_1 _) (by decide) rfl (fun ls hl => ?_)
    refine lv_goto (tgt := 69) hx hb dX1_lacks_95 (by decide) ?_
    exact ih (i + 1) _ (by omega) _ _ _ hP hD hS (lv_sub hl [2, 3, 1, 0] rfl)
set_option maxHeartbeats 4000000 in
set_option maxRecDepth 100000 in
theorem wX1_lacks (l : Launch) (D : va_G) (t : Nat → Nat) (cI : ClassId) (o : Nat) (sz : Nat) (v : S1) (hn : v.2.1 ≤ 8) (hp : ¬ v.1 0 4 = 0) : gMi l yX1_lacks (rw_ yX1_lacks cX1_lacks 5 (some .int)) (rm_ 8 10 115 177) [.ref o] D [(cI, .int)] t (rb_w cI o v) sz (fun _ w' => ∃ v', rb_E v v' ∧ w' = rb_w cI o v') := by
  refine g_of (cc := cX1_lacks) (nL := 5) (rt := (some .int)) (Q := fun A => va_Qi _ (fun w' U => gQ D A w' U) A) (by decide) (Nat.le_of_ble_eq_true rfl) (fun p e s m args below meth c A ls H C hrt hnm hS hP hD hl => ?_)
  have hx := C.1
  have hb := C.2.1
  have hown := C.2.2.2.1
  have hts := C.2.2.2.2.1
  have hl : lv_has ls 5 [(0, .ref o)] := hl
  refine lv_aload_n hx hb dX1_lacks_0 rfl (lv_at hl 0 rfl) ?_
  refine lv_iconst (v := 0) hx hb dX1_lacks_1 (by decide) ?_
  refine x1_pt C hP hD hS q59 dX1_lacks_2 (fun H locs hP hD hS => ?_)
  have hP : va_P D vwCl (rb_w cI o (rb_t v 0)) H := hP
  have hD : va_D A (rb_w cI o (rb_t v 0)) := hD
  refine lv_aload_n hx hb dX1_lacks_5 rfl (lv_at hl 0 rfl) ?_
  refine x1_gf C hP 4 (by decide) (x := .ref ((rb_t v 0).2.2.2.2 1)) rfl rfl q31 dX1_lacks_6 ?_
  refine lv_iconst (v := 2) hx hb dX1_lacks_9 (by decide) ?_
  refine x1_ld C hP (k := 1) (i := 2) (by decide) (by decide) rfl dX1_lacks_10 ?_
  refine lv_topi (fun v1 ev1 => ?_)
  refine lv_istore_n (lv' := [(1, .int v1), (0, .ref o)]) hx hb dX1_lacks_11 rfl hl (by decide) rfl (fun ls hl => ?_)
  refine lv_iconst (v := 0) hx hb dX1_lacks_12 (by decide) ?_
  refine lv_istore_n (lv' := [(2, .int 0), (1, .int v1), (0, .ref o)]) hx hb dX1_lacks_13 rfl hl (by decide) rfl (fun ls hl => ?_)
  refine lv_iconst (v := 0) hx hb dX1_lacks_14 (by decide) ?_
  refine lv_istore_n (lv' := [(3, .int 0), (2, .int 0), (1, .int v1), (0, .ref o)]) hx hb dX1_lacks_15 rfl hl (by decide) rfl (fun ls hl => ?_)
  refine lpwX1_lacks1 (v := rb_t v 0) C hn hp (fun a H locs ls hP hD hS hl => ?_) v.2.1 0 _ (Nat.zero_add _) _ _ _ hP hD hS (lv_sub hl [3, 2, 1, 0] rfl)
  refine lv_aload_n hx hb dX1_lacks_44 rfl (lv_at hl 0 rfl) ?_
  refine x1_gf C hP 4 (by decide) (x := .ref ((rb_t v 0).2.2.2.2 1)) rfl rfl q31 dX1_lacks_45 ?_
  refine lv_iconst (v := 2) hx hb dX1_lacks_48 (by decide) ?_
  refine lv_iload_n hx hb dX1_lacks_49 rfl (lv_at hl 1 rfl) ?_
  refine lv_iload_n hx hb dX1_lacks_50 rfl (lv_at hl 2 rfl) ?_
  refine lv_iadd hx hb dX1_lacks_51 ?_
  refine x1_st C hP hD hS (k := 1) (i := 2) (by decide) (by decide) rfl dX1_lacks_52 (fun H locs hP hD hS => ?_)
  have hP : va_P D vwCl (rb_w cI o (rb_s (rb_t v 0) 1 2 (v1 + a))) H := hP
  have hD : va_D A (rb_w cI o (rb_s (rb_t v 0) 1 2 (v1 + a))) := hD
  refine lv_aload_n hx hb dX1_lacks_53 rfl (lv_at hl 0 rfl) ?_
  refine g_cv (wr := []) (cells' := 10) (slots' := 115) rfl rfl C rd_nil hD hS (g_runV (wr := []) (n := 0) C (mX1_look l D t cI o H.size (rb_s (rb_t v 0) 1 2 (v1 + a)) (show v.2.1 ≤ 8 by omega) hp) (rw_V q302 q303 q304 q5 q305) kd_X1_look ⟨Nat.le_of_ble_eq_true rfl, Nat.le_of_ble_eq_true rfl⟩ (ci := 1) rfl rfl rfl C.2.2.2.2.2.1 hP hD hS hl.1 rfl rfl (Nat.le_of_ble_eq_true rfl) dX1_lacks_54 ⟨Nat.le_of_ble_eq_true rfl, Nat.le_of_ble_eq_true rfl⟩) (fun w' H locs hv _ _ hP hD hS => ?_)
  obtain ⟨y3, hLy3, rfl⟩ := hv
  have hD : va_D A (rb_w cI o y3) := hD
  refine lv_aload_n hx hb dX1_lacks_57 rfl (lv_at hl 0 rfl) ?_
  refine x1_gf C hP 4 (by decide) (x := .ref (y3.2.2.2.2 1)) rfl rfl q31 dX1_lacks_58 ?_
  refine lv_iconst (v := 2) hx hb dX1_lacks_61 (by decide) ?_
  refine lv_iload_n hx hb dX1_lacks_62 rfl (lv_at hl 1 rfl) ?_
  refine x1_st C hP hD hS (k := 1) (i := 2) (by decide) (by decide) rfl dX1_lacks_63 (fun H locs hP hD hS => ?_)
  have hP : va_P D vwCl (rb_w cI o (rb_s y3 1 2 v1)) H := hP
  have hD : va_D A (rb_w cI o (rb_s y3 1 2 v1)) := hD
  refine lv_iconst (v := 0) hx hb dX1_lacks_64 (by decide) ?_
  refine lv_istore_n (lv' := [(3, .int 0), (0, .ref o), (1, .int v1), (2, .int a)]) hx hb dX1_lacks_65 rfl hl (by decide) rfl (fun ls hl => ?_)
  refine lv_iconst (v := 0) hx hb dX1_lacks_66 (by decide) ?_
  refine lv_istore (lv' := [(4, .int 0), (3, .int 0), (0, .ref o), (1, .int v1), (2, .int a)]) hx hb dX1_lacks_67 hl (by decide) rfl (fun ls hl => ?_)
  have hn9 : y3.2.1 ≤ 8 := (show y3.2.1 ≤ 8 by rw [hLy3.1]; exact hn)
  refine lpwX1_lacks2 (v := (rb_s y3 1 2 v1)) C hn9 (fun a9 H locs ls hP hD hS hl => ?_) y3.2.1 0 _ (Nat.zero_add _) _ _ _ hP hD hS (lv_sub hl [2, 3, 1, 0] rfl)
  refine lv_iconst (v := 0) hx hb dX1_lacks_98 (by decide) ?_
  refine lv_iload_n hx hb dX1_lacks_99 rfl (lv_at hl 2 rfl) ?_
  refine lv_iload_n hx hb dX1_lacks_100 rfl (lv_at hl 1 rfl) ?_
  refine lv_isub hx hb dX1_lacks_101 ?_
  refine g_max C q230 q172 q173 q174 hl.1 (Nat.le_of_ble_eq_true rfl) (Nat.le_of_ble_eq_true rfl) (Nat.le_of_ble_eq_true rfl) (Nat.le_of_ble_eq_true rfl) dX1_lacks_102 ?_
  exact g_iret C hrt hP hD hS dX1_lacks_105 (by subst ev1; refine ⟨_, ?_, rfl⟩; exact hLy3.e)
set_option maxHeartbeats 4000000 in
set_option maxRecDepth 100000 in
theorem lpwX1_dg1 {p : Program} {l : Launch} {e : Env} {s : State} {m : MethodId} {args : Array Value} {below : List Frame} {meth : Method} {c : Code} {Q : State → Prop} {D : va_G} {t : Nat → Nat} {A : Nat → Prop} {cI : ClassId} {o : Nat} {v : S1} (C : gC p s m args meth c cX1_digest 7 RX1 D [(cI, .int)] t A) (hn : v.2.1 ≤ 8) (kk : ∀ (d : Int64) (H : Heap) (locs : List Loc) (ls : Array Slot), va_P D vwCl (rb_w cI o v) H → va_D A (rb_w cI o v) → va_S A s.heap H locs → lv_has ls 7 [(0, .ref o), (1, .long d), (3, .int (nI 7))] → W p l e (rm_ 8 10 115 177) s m args below meth c H locs 0 0 Q (F0 m 36 ls [])) :
    ∀ (n i : Nat) (d : Int64), i + n = 7 → ∀ (H : Heap) (locs : List Loc) (ls : Array Slot), va_P D vwCl (rb_w cI o v) H → va_D A (rb_w cI o v) → va_S A s.heap H locs → lv_has ls 7 [(0, .ref o), (1, .long d), (3, .int (nI i))] → W p l e (rm_ 8 10 115 177) s m args below meth c H locs 0 0 Q (F0 m 11 ls []) := by
  have hx := C.1
  have hb := C.2.1
  have hown := C.2.2.2.1
  have hts := C.2.2.2.2.1
  intro n
  induction n with
  | zero =>
    intro i d hi H locs ls hP hD hS hl
    have hiN : i = 7 := by omega
    refine lv_iload_n hx hb dX1_digest_11 rfl (lv_at hl 2 rfl) ?_
    refine lv_bipush (v := 7) hx hb dX1_digest_12 (by decide) ?_
    refine lv_icmp_ge (tgt := 36) hx hb dX1_digest_14 (by decide) (fun c1 => ?_) (fun c1 => absurd ((nI_leI (a := 7) (b := i) (by omega) (by omega)).mpr (by omega)) c1)
    subst hiN
    exact kk d _ _ _ hP hD hS (lv_sub hl [0, 1, 2] rfl)
  | succ n ih =>
    intro i d hi H locs ls hP hD hS hl
    have hin : i < 7 := by omega
    refine lv_iload_n hx hb dX1_digest_11 rfl (lv_at hl 2 rfl) ?_
    refine lv_bipush (v := 7) hx hb dX1_digest_12 (by decide) ?_
    refine lv_icmp_ge (tgt := 36) hx hb dX1_digest_14 (by decide) (fun c1 => absurd c1 (fun h9 => absurd ((nI_leI (a := 7) (b := i) (by omega) (by omega)).mp h9) (by omega))) (fun c1 => ?_)
    refine lv_lload_n hx hb dX1_digest_17 rfl (lv_at hl 1 rfl) ?_
    refine lv_ldc2 (v := 31) hx hb hown (hts _ q426) dX1_digest_18 ?_
    refine lv_lmul hx hb dX1_digest_21 ?_
    refine lv_aload_n hx hb dX1_digest_22 rfl (lv_at hl 0 rfl) ?_
    refine lv_iload_n hx hb dX1_digest_23 rfl (lv_at hl 2 rfl) ?_
    refine g_ci (wr := []) (cells' := 0) (slots' := 0) rfl rfl C rd_nil hD hS (g_runV (wr := []) (n := 1) C (mX1_counted l D t cI o H.size v hn i (by omega)) (rw_V q332 q333 q334 q5 q335) kd_X1_counted ⟨Nat.le_of_ble_eq_true rfl, Nat.le_of_ble_eq_true rfl⟩ (ci := 1) rfl rfl rfl C.2.2.2.2.2.1 hP hD hS hl.1 rfl rfl (Nat.le_of_ble_eq_true rfl) dX1_digest_24 ⟨Nat.le_of_ble_eq_true rfl, Nat.le_of_ble_eq_true rfl⟩) (fun r2 w' H locs hv _ _ hP hD hS => ?_)
    subst hv
    have hD : va_D A (rb_w cI o v) := hD
    refine lv_i2l hx hb dX1_digest_27 rfl ?_
    refine lv_ladd hx hb dX1_digest_28 ?_
    refine lv_topl (fun v3 ev3 => ?_)
    refine lv_lstore_n (lv' := [(1, .long v3), (0, .ref o), (3, .int (nI i))]) hx hb dX1_digest_29 rfl hl (by decide) rfl (fun ls hl => ?_)
    refine lv_iinc (v := nI (i + 1)) (lv' := [(3, .int (nI (i + 1))), (1, .long v3), (0, .ref o)]) hx hb dX1_digest_30 hl (k := 2) rfl (nI_1 _) (by decide) rfl (fun ls hl => ?_)
    refine lv_goto (tgt := 11) hx hb dX1_digest_33 (by decide) ?_
    exact ih (i + 1) _ (by omega) _ _ _ hP hD hS (lv_sub hl [2, 1, 0] rfl)
set_option maxHeartbeats 4000000 in
set_option maxRecDepth 100000 in
theorem lpwX1_dg2 {p : Program} {l : Launch} {e : Env} {s : State} {m : MethodId} {args : Array Value} {below : List Frame} {meth : Method} {c : Code} {Q : State → Prop} {D : va_G} {t : Nat → Nat} {A : Nat → Prop} {cI : ClassId} {o : Nat} {v : S1} (C : gC p s m args meth c cX1_digest 7 RX1 D [(cI, .int)] t A) (kk : ∀ (d : Int64) (H : Heap) (locs : List Loc) (ls : Array Slot), va_P D vwCl (rb_w cI o v) H → va_D A (rb_w cI o v) → va_S A s.heap H locs → lv_has ls 7 [(0, .ref o), (1, .long d), (3, .ref (v.2.2.2.2 0)), (4, .int (nI 5)), (5, .int (nI 5))] → W p l e (rm_ 8 10 115 177) s m args below meth c H locs 0 0 Q (F0 m 77 ls [])) :
    ∀ (n i : Nat) (d : Int64), i + n = 5 → ∀ (H : Heap) (locs : List Loc) (ls : Array Slot), va_P D vwCl (rb_w cI o v) H → va_D A (rb_w cI o v) → va_S A s.heap H locs → lv_has ls 7 [(0, .ref o), (1, .long d), (3, .ref (v.2.2.2.2 0)), (4, .int (nI 5)), (5, .int (nI i))] → W p l e (rm_ 8 10 115 177) s m args below meth c H locs 0 0 Q (F0 m 48 ls []) := by
  have hx := C.1
  have hb := C.2.1
  have hown := C.2.2.2.1
  have hts := C.2.2.2.2.1
  intro n
  induction n with
  | zero =>
    intro i d hi H locs ls hP hD hS hl
    have hiN : i = 5 := by omega
    refine lv_iload hx hb dX1_digest_48 (lv_at hl 4 rfl) ?_
    refine lv_iload hx hb dX1_digest_50 (lv_at hl 3 rfl) ?_
    refine lv_icmp_ge (tgt := 77) hx hb dX1_digest_52 (by decide) (fun c1 => ?_) (fun c1 => absurd ((nI_leI (a := 5) (b := i) (by omega) (by omega)).mpr (by omega)) c1)
    subst hiN
    exact kk d _ _ _ hP hD hS (lv_sub hl [0, 1, 2, 3, 4] rfl)
  | succ n ih =>
    intro i d hi H locs ls hP hD hS hl
    have hin : i < 5 := by omega
    refine lv_iload hx hb dX1_digest_48 (lv_at hl 4 rfl) ?_
    refine lv_iload hx hb dX1_digest_50 (lv_at hl 3 rfl) ?_
    refine lv_icmp_ge (tgt := 77) hx hb dX1_digest_52 (by decide) (fun c1 => absurd c1 (fun h9 => absurd ((nI_leI (a := 5) (b := i) (by omega) (by omega)).mp h9) (by omega))) (fun c1 => ?_)
    refine lv_aload_n hx hb dX1_digest_55 rfl (lv_at hl 2 rfl) ?_
    refine lv_iload hx hb dX1_digest_56 (lv_at hl 4 rfl) ?_
    refine x1_ld C hP (k := 0) (i := i) (by decide) hin rfl dX1_digest_58 ?_
    refine lv_topi (fun v2 ev2 => ?_)
    refine lv_istore (lv' := [(6, .int v2), (0, .ref o), (1, .long d), (3, .ref (v.2.2.2.2 0)), (4, .int (nI 5)), (5, .int (nI i))]) hx hb dX1_digest_59 hl (by decide) rfl (fun ls hl => ?_)
    refine lv_lload_n hx hb dX1_digest_61 rfl (lv_at hl 2 rfl) ?_
    refine lv_ldc2 (v := 31) hx hb hown (hts _ q426) dX1_digest_62 ?_
    refine lv_lmul hx hb dX1_digest_65 ?_
    refine lv_iload hx hb dX1_digest_66 (lv_at hl 0 rfl) ?_
    refine lv_i2l hx hb dX1_digest_68 rfl ?_
    refine lv_ladd hx hb dX1_digest_69 ?_
    refine lv_topl (fun v3 ev3 => ?_)
    refine lv_lstore_n (lv' := [(1, .long v3), (6, .int v2), (0, .ref o), (3, .ref (v.2.2.2.2 0)), (4, .int (nI 5)), (5, .int (nI i))]) hx hb dX1_digest_70 rfl hl (by decide) rfl (fun ls hl => ?_)
    refine lv_iinc (v := nI (i + 1)) (lv' := [(5, .int (nI (i + 1))), (1, .long v3), (6, .int v2), (0, .ref o), (3, .ref (v.2.2.2.2 0)), (4, .int (nI 5))]) hx hb dX1_digest_71 hl (k := 5) rfl (nI_1 _) (by decide) rfl (fun ls hl => ?_)
    refine lv_goto (tgt := 48) hx hb dX1_digest_74 (by decide) ?_
    exact ih (i + 1) _ (by omega) _ _ _ hP hD hS (lv_sub hl [3, 1, 4, 5, 0] rfl)
set_option maxHeartbeats 4000000 in
set_option maxRecDepth 100000 in
theorem lpwX1_dg3 {p : Program} {l : Launch} {e : Env} {s : State} {m : MethodId} {args : Array Value} {below : List Frame} {meth : Method} {c : Code} {Q : State → Prop} {D : va_G} {t : Nat → Nat} {A : Nat → Prop} {cI : ClassId} {o : Nat} {v : S1} (C : gC p s m args meth c cX1_digest 7 RX1 D [(cI, .int)] t A) (kk : ∀ (d : Int64) (H : Heap) (locs : List Loc) (ls : Array Slot), va_P D vwCl (rb_w cI o v) H → va_D A (rb_w cI o v) → va_S A s.heap H locs → lv_has ls 7 [(0, .ref o), (1, .long d), (3, .ref (v.2.2.2.2 1)), (4, .int (nI 3)), (5, .int (nI 3))] → W p l e (rm_ 8 10 115 177) s m args below meth c H locs 0 0 Q (F0 m 118 ls [])) :
    ∀ (n i : Nat) (d : Int64), i + n = 3 → ∀ (H : Heap) (locs : List Loc) (ls : Array Slot), va_P D vwCl (rb_w cI o v) H → va_D A (rb_w cI o v) → va_S A s.heap H locs → lv_has ls 7 [(0, .ref o), (1, .long d), (3, .ref (v.2.2.2.2 1)), (4, .int (nI 3)), (5, .int (nI i))] → W p l e (rm_ 8 10 115 177) s m args below meth c H locs 0 0 Q (F0 m 89 ls []) := by
  have hx := C.1
  have hb := C.2.1
  have hown := C.2.2.2.1
  have hts := C.2.2.2.2.1
  intro n
  induction n with
  | zero =>
    intro i d hi H locs ls hP hD hS hl
    have hiN : i = 3 := by omega
    refine lv_iload hx hb dX1_digest_89 (lv_at hl 4 rfl) ?_
    refine lv_iload hx hb dX1_digest_91 (lv_at hl 3 rfl) ?_
    refine lv_icmp_ge (tgt := 118) hx hb dX1_digest_93 (by decide) (fun c1 => ?_) (fun c1 => absurd ((nI_leI (a := 3) (b := i) (by omega) (by omega)).mpr (by omega)) c1)
    subst hiN
    exact kk d _ _ _ hP hD hS (lv_sub hl [0, 1, 2, 3, 4] rfl)
  | succ n ih =>
    intro i d hi H locs ls hP hD hS hl
    have hin : i < 3 := by omega
    refine lv_iload hx hb dX1_digest_89 (lv_at hl 4 rfl) ?_
    refine lv_iload hx hb dX1_digest_91 (lv_at hl 3 rfl) ?_
    refine lv_icmp_ge (tgt := 118) hx hb dX1_digest_93 (by decide) (fun c1 => absurd c1 (fun h9 => absurd ((nI_leI (a := 3) (b := i) (by omega) (by omega)).mp h9) (by omega))) (fun c1 => ?_)
    refine lv_aload_n hx hb dX1_digest_96 rfl (lv_at hl 2 rfl) ?_
    refine lv_iload hx hb dX1_digest_97 (lv_at hl 4 rfl) ?_
    refine x1_ld C hP (k := 1) (i := i) (by decide) hin rfl dX1_digest_99 ?_
    refine lv_topi (fun v2 ev2 => ?_)
    refine lv_istore (lv' := [(6, .int v2), (0, .ref o), (1, .long d), (3, .ref (v.2.2.2.2 1)), (4, .int (nI 3)), (5, .int (nI i))]) hx hb dX1_digest_100 hl (by decide) rfl (fun ls hl => ?_)
    refine lv_lload_n hx hb dX1_digest_102 rfl (lv_at hl 2 rfl) ?_
    refine lv_ldc2 (v := 31) hx hb hown (hts _ q426) dX1_digest_103 ?_
    refine lv_lmul hx hb dX1_digest_106 ?_
    refine lv_iload hx hb dX1_digest_107 (lv_at hl 0 rfl) ?_
    refine lv_i2l hx hb dX1_digest_109 rfl ?_
    refine lv_ladd hx hb dX1_digest_110 ?_
    refine lv_topl (fun v3 ev3 => ?_)
    refine lv_lstore_n (lv' := [(1, .long v3), (6, .int v2), (0, .ref o), (3, .ref (v.2.2.2.2 1)), (4, .int (nI 3)), (5, .int (nI i))]) hx hb dX1_digest_111 rfl hl (by decide) rfl (fun ls hl => ?_)
    refine lv_iinc (v := nI (i + 1)) (lv' := [(5, .int (nI (i + 1))), (1, .long v3), (6, .int v2), (0, .ref o), (3, .ref (v.2.2.2.2 1)), (4, .int (nI 3))]) hx hb dX1_digest_112 hl (k := 5) rfl (nI_1 _) (by decide) rfl (fun ls hl => ?_)
    refine lv_goto (tgt := 89) hx hb dX1_digest_115 (by decide) ?_
    exact ih (i + 1) _ (by omega) _ _ _ hP hD hS (lv_sub hl [3, 1, 4, 5, 0] rfl)
set_option maxHeartbeats 4000000 in
set_option maxRecDepth 100000 in
theorem lpwX1_dg4 {p : Program} {l : Launch} {e : Env} {s : State} {m : MethodId} {args : Array Value} {below : List Frame} {meth : Method} {c : Code} {Q : State → Prop} {D : va_G} {t : Nat → Nat} {A : Nat → Prop} {cI : ClassId} {o : Nat} {v : S1} {r : Nat} (C : gC p s m args meth c cX1_digest 7 RX1 D [(cI, .int)] t A) (hr8 : r < 8) (kk : ∀ (d : Int64) (H : Heap) (locs : List Loc) (ls : Array Slot), va_P D vwCl (rb_w cI o v) H → va_D A (rb_w cI o v) → va_S A s.heap H locs → lv_has ls 7 [(0, .ref o), (1, .long d), (3, .int (nI r)), (4, .int (nI 8))] → W p l e (rm_ 8 10 115 177) s m args below meth c H locs 10 115 Q (F0 m 163 ls [])) :
    ∀ (n i : Nat) (d : Int64), i + n = 8 → ∀ (H : Heap) (locs : List Loc) (ls : Array Slot), va_P D vwCl (rb_w cI o v) H → va_D A (rb_w cI o v) → va_S A s.heap H locs → lv_has ls 7 [(0, .ref o), (1, .long d), (3, .int (nI r)), (4, .int (nI i))] → W p l e (rm_ 8 10 115 177) s m args below meth c H locs 10 115 Q (F0 m 135 ls []) := by
  have hx := C.1
  have hb := C.2.1
  have hown := C.2.2.2.1
  have hts := C.2.2.2.2.1
  intro n
  induction n with
  | zero =>
    intro i d hi H locs ls hP hD hS hl
    have hiN : i = 8 := by omega
    refine lv_iload hx hb dX1_digest_135 (lv_at hl 3 rfl) ?_
    refine lv_bipush (v := 8) hx hb dX1_digest_137 (by decide) ?_
    refine lv_icmp_ge (tgt := 163) hx hb dX1_digest_139 (by decide) (fun c1 => ?_) (fun c1 => absurd ((nI_leI (a := 8) (b := i) (by omega) (by omega)).mpr (by omega)) c1)
    subst hiN
    exact kk d _ _ _ hP hD hS (lv_sub hl [0, 1, 2, 3] rfl)
  | succ n ih =>
    intro i d hi H locs ls hP hD hS hl
    have hin : i < 8 := by omega
    refine lv_iload hx hb dX1_digest_135 (lv_at hl 3 rfl) ?_
    refine lv_bipush (v := 8) hx hb dX1_digest_137 (by decide) ?_
    refine lv_icmp_ge (tgt := 163) hx hb dX1_digest_139 (by decide) (fun c1 => absurd c1 (fun h9 => absurd ((nI_leI (a := 8) (b := i) (by omega) (by omega)).mp h9) (by omega))) (fun c1 => ?_)
    refine lv_lload_n hx hb dX1_digest_142 rfl (lv_at hl 1 rfl) ?_
    refine lv_ldc2 (v := 31) hx hb hown (hts _ q426) dX1_digest_143 ?_
    refine lv_lmul hx hb dX1_digest_146 ?_
    refine lv_aload_n hx hb dX1_digest_147 rfl (lv_at hl 0 rfl) ?_
    refine lv_iload_n hx hb dX1_digest_148 rfl (lv_at hl 2 rfl) ?_
    refine lv_iload hx hb dX1_digest_149 (lv_at hl 3 rfl) ?_
    refine g_ci (wr := []) (cells' := 10) (slots' := 115) rfl rfl C rd_nil hD hS (g_runV (wr := []) (n := 2) C (mX1_reaperTold l D t cI o H.size v r (by omega) i (by omega)) (rw_V q254 q255 q256 q5 q257) kd_X1_reaperTold ⟨Nat.le_of_ble_eq_true rfl, Nat.le_of_ble_eq_true rfl⟩ (ci := 1) rfl rfl rfl C.2.2.2.2.2.1 hP hD hS hl.1 rfl rfl (Nat.le_of_ble_eq_true rfl) dX1_digest_151 ⟨Nat.le_of_ble_eq_true rfl, Nat.le_of_ble_eq_true rfl⟩) (fun r2 w' H locs hv _ _ hP hD hS => ?_)
    subst hv
    have hD : va_D A (rb_w cI o v) := hD
    refine lv_i2l hx hb dX1_digest_154 rfl ?_
    refine lv_ladd hx hb dX1_digest_155 ?_
    refine lv_topl (fun v3 ev3 => ?_)
    refine lv_lstore_n (lv' := [(1, .long v3), (0, .ref o), (3, .int (nI r)), (4, .int (nI i))]) hx hb dX1_digest_156 rfl hl (by decide) rfl (fun ls hl => ?_)
    refine lv_iinc (v := nI (i + 1)) (lv' := [(4, .int (nI (i + 1))), (1, .long v3), (0, .ref o), (3, .int (nI r))]) hx hb dX1_digest_157 hl (k := 3) rfl (nI_1 _) (by decide) rfl (fun ls hl => ?_)
    refine lv_goto (tgt := 135) hx hb dX1_digest_160 (by decide) ?_
    exact ih (i + 1) _ (by omega) _ _ _ hP hD hS (lv_sub hl [2, 1, 3, 0] rfl)
set_option maxHeartbeats 4000000 in
set_option maxRecDepth 100000 in
theorem lpwX1_dg5 {p : Program} {l : Launch} {e : Env} {s : State} {m : MethodId} {args : Array Value} {below : List Frame} {meth : Method} {c : Code} {Q : State → Prop} {D : va_G} {t : Nat → Nat} {A : Nat → Prop} {cI : ClassId} {o : Nat} {v : S1} {r : Nat} (C : gC p s m args meth c cX1_digest 7 RX1 D [(cI, .int)] t A) (hr8 : r < 8) (hp : ¬ v.1 0 4 = 0) (kk : ∀ (d : Int64) (H : Heap) (locs : List Loc) (ls : Array Slot), va_P D vwCl (rb_w cI o v) H → va_D A (rb_w cI o v) → va_S A s.heap H locs → lv_has ls 7 [(0, .ref o), (1, .long d), (3, .int (nI r)), (4, .int (nI 6))] → W p l e (rm_ 8 10 115 177) s m args below meth c H locs 10 115 Q (F0 m 194 ls [])) :
    ∀ (n i : Nat) (d : Int64), i + n = 6 → ∀ (H : Heap) (locs : List Loc) (ls : Array Slot), va_P D vwCl (rb_w cI o v) H → va_D A (rb_w cI o v) → va_S A s.heap H locs → lv_has ls 7 [(0, .ref o), (1, .long d), (3, .int (nI r)), (4, .int (nI i))] → W p l e (rm_ 8 10 115 177) s m args below meth c H locs 10 115 Q (F0 m 166 ls []) := by
  have hx := C.1
  have hb := C.2.1
  have hown := C.2.2.2.1
  have hts := C.2.2.2.2.1
  intro n
  induction n with
  | zero =>
    intro i d hi H locs ls hP hD hS hl
    have hiN : i = 6 := by omega
    refine lv_iload hx hb dX1_digest_166 (lv_at hl 3 rfl) ?_
    refine lv_bipush (v := 6) hx hb dX1_digest_168 (by decide) ?_
    refine lv_icmp_ge (tgt := 194) hx hb dX1_digest_170 (by decide) (fun c1 => ?_) (fun c1 => absurd ((nI_leI (a := 6) (b := i) (by omega) (by omega)).mpr (by omega)) c1)
    subst hiN
    exact kk d _ _ _ hP hD hS (lv_sub hl [0, 1, 2, 3] rfl)
  | succ n ih =>
    intro i d hi H locs ls hP hD hS hl
    have hin : i < 6 := by omega
    refine lv_iload hx hb dX1_digest_166 (lv_at hl 3 rfl) ?_
    refine lv_bipush (v := 6) hx hb dX1_digest_168 (by decide) ?_
    refine lv_icmp_ge (tgt := 194) hx hb dX1_digest_170 (by decide) (fun c1 => absurd c1 (fun h9 => absurd ((nI_leI (a := 6) (b := i) (by omega) (by omega)).mp h9) (by omega))) (fun c1 => ?_)
    refine lv_lload_n hx hb dX1_digest_173 rfl (lv_at hl 1 rfl) ?_
    refine lv_ldc2 (v := 31) hx hb hown (hts _ q426) dX1_digest_174 ?_
    refine lv_lmul hx hb dX1_digest_177 ?_
    refine lv_aload_n hx hb dX1_digest_178 rfl (lv_at hl 0 rfl) ?_
    refine lv_iload_n hx hb dX1_digest_179 rfl (lv_at hl 2 rfl) ?_
    refine lv_iload hx hb dX1_digest_180 (lv_at hl 3 rfl) ?_
    refine g_ci (wr := []) (cells' := 10) (slots' := 115) rfl rfl C rd_nil hD hS (g_runV (wr := []) (n := 2) C (mX1_wageTold l D t cI o H.size v hp r (by omega) i (by omega)) (rw_V q273 q274 q275 q5 q276) kd_X1_wageTold ⟨Nat.le_of_ble_eq_true rfl, Nat.le_of_ble_eq_true rfl⟩ (ci := 1) rfl rfl rfl C.2.2.2.2.2.1 hP hD hS hl.1 rfl rfl (Nat.le_of_ble_eq_true rfl) dX1_digest_182 ⟨Nat.le_of_ble_eq_true rfl, Nat.le_of_ble_eq_true rfl⟩) (fun r2 w' H locs hv _ _ hP hD hS => ?_)
    subst hv
    have hD : va_D A (rb_w cI o v) := hD
    refine lv_i2l hx hb dX1_digest_185 rfl ?_
    refine lv_ladd hx hb dX1_digest_186 ?_
    refine lv_topl (fun v3 ev3 => ?_)
    refine lv_lstore_n (lv' := [(1, .long v3), (0, .ref o), (3, .int (nI r)), (4, .int (nI i))]) hx hb dX1_digest_187 rfl hl (by decide) rfl (fun ls hl => ?_)
    refine lv_iinc (v := nI (i + 1)) (lv' := [(4, .int (nI (i + 1))), (1, .long v3), (0, .ref o), (3, .int (nI r))]) hx hb dX1_digest_188 hl (k := 3) rfl (nI_1 _) (by decide) rfl (fun ls hl => ?_)
    refine lv_goto (tgt := 166) hx hb dX1_digest_191 (by decide) ?_
    exact ih (i + 1) _ (by omega) _ _ _ hP hD hS (lv_sub hl [2, 1, 3, 0] rfl)
set_option maxHeartbeats 4000000 in
set_option maxRecDepth 100000 in
theorem lpwX1_dg6 {p : Program} {l : Launch} {e : Env} {s : State} {m : MethodId} {args : Array Value} {below : List Frame} {meth : Method} {c : Code} {Q : State → Prop} {D : va_G} {t : Nat → Nat} {A : Nat → Prop} {cI : ClassId} {o : Nat} {v : S1} {r : Nat} (C : gC p s m args meth c cX1_digest 7 RX1 D [(cI, .int)] t A) (hr8 : r < 8) (kk : ∀ (d : Int64) (H : Heap) (locs : List Loc) (ls : Array Slot), va_P D vwCl (rb_w cI o v) H → va_D A (rb_w cI o v) → va_S A s.heap H locs → lv_has ls 7 [(0, .ref o), (1, .long d), (3, .int (nI r)), (4, .int (nI 3))] → W p l e (rm_ 8 10 115 177) s m args below meth c H locs 10 115 Q (F0 m 228 ls [])) :
    ∀ (n i : Nat) (d : Int64), i + n = 3 → ∀ (H : Heap) (locs : List Loc) (ls : Array Slot), va_P D vwCl (rb_w cI o v) H → va_D A (rb_w cI o v) → va_S A s.heap H locs → lv_has ls 7 [(0, .ref o), (1, .long d), (3, .int (nI r)), (4, .int (nI i))] → W p l e (rm_ 8 10 115 177) s m args below meth c H locs 10 115 Q (F0 m 197 ls []) := by
  have hx := C.1
  have hb := C.2.1
  have hown := C.2.2.2.1
  have hts := C.2.2.2.2.1
  intro n
  induction n with
  | zero =>
    intro i d hi H locs ls hP hD hS hl
    have hiN : i = 3 := by omega
    refine lv_iload hx hb dX1_digest_197 (lv_at hl 3 rfl) ?_
    refine lv_iconst (v := 3) hx hb dX1_digest_199 (by decide) ?_
    refine lv_icmp_ge (tgt := 228) hx hb dX1_digest_200 (by decide) (fun c1 => ?_) (fun c1 => absurd ((nI_leI (a := 3) (b := i) (by omega) (by omega)).mpr (by omega)) c1)
    subst hiN
    exact kk d _ _ _ hP hD hS (lv_sub hl [0, 1, 2, 3] rfl)
  | succ n ih =>
    intro i d hi H locs ls hP hD hS hl
    have hin : i < 3 := by omega
    refine lv_iload hx hb dX1_digest_197 (lv_at hl 3 rfl) ?_
    refine lv_iconst (v := 3) hx hb dX1_digest_199 (by decide) ?_
    refine lv_icmp_ge (tgt := 228) hx hb dX1_digest_200 (by decide) (fun c1 => absurd c1 (fun h9 => absurd ((nI_leI (a := 3) (b := i) (by omega) (by omega)).mp h9) (by omega))) (fun c1 => ?_)
    refine lv_lload_n hx hb dX1_digest_203 rfl (lv_at hl 1 rfl) ?_
    refine lv_ldc2 (v := 31) hx hb hown (hts _ q426) dX1_digest_204 ?_
    refine lv_lmul hx hb dX1_digest_207 ?_
    refine lv_aload_n hx hb dX1_digest_208 rfl (lv_at hl 0 rfl) ?_
    refine x1_gf C hP 6 (by decide) (x := .ref (v.2.2.2.2 3)) rfl rfl q33 dX1_digest_209 ?_
    refine lv_iconst (v := 3) hx hb dX1_digest_212 (by decide) ?_
    refine lv_iload_n hx hb dX1_digest_213 rfl (lv_at hl 2 rfl) ?_
    refine lv_imul hx hb dX1_digest_214 ?_
    refine g_top (pk_mul 3 r) ?_
    refine lv_iload hx hb dX1_digest_215 (lv_at hl 3 rfl) ?_
    refine lv_iadd hx hb dX1_digest_217 ?_
    refine g_top (nI_add (3 * r) i) ?_
    refine x1_ld C hP (k := 3) (i := (3 * r) + i) (by decide) (show (3 * r) + i < 24 by omega) rfl dX1_digest_218 ?_
    refine lv_i2l hx hb dX1_digest_219 rfl ?_
    refine lv_ladd hx hb dX1_digest_220 ?_
    refine lv_topl (fun v2 ev2 => ?_)
    refine lv_lstore_n (lv' := [(1, .long v2), (0, .ref o), (3, .int (nI r)), (4, .int (nI i))]) hx hb dX1_digest_221 rfl hl (by decide) rfl (fun ls hl => ?_)
    refine lv_iinc (v := nI (i + 1)) (lv' := [(4, .int (nI (i + 1))), (1, .long v2), (0, .ref o), (3, .int (nI r))]) hx hb dX1_digest_222 hl (k := 3) rfl (nI_1 _) (by decide) rfl (fun ls hl => ?_)
    refine lv_goto (tgt := 197) hx hb dX1_digest_225 (by decide) ?_
    exact ih (i + 1) _ (by omega) _ _ _ hP hD hS (lv_sub hl [2, 1, 3, 0] rfl)
set_option maxHeartbeats 4000000 in
set_option maxRecDepth 100000 in
theorem lpwX1_dg7 {p : Program} {l : Launch} {e : Env} {s : State} {m : MethodId} {args : Array Value} {below : List Frame} {meth : Method} {c : Code} {Q : State → Prop} {D : va_G} {t : Nat → Nat} {A : Nat → Prop} {cI : ClassId} {o : Nat} {v : S1} (C : gC p s m args meth c cX1_digest 7 RX1 D [(cI, .int)] t A) (hn : v.2.1 ≤ 8) (hp : ¬ v.1 0 4 = 0) (kk : ∀ (d : Int64) (H : Heap) (locs : List Loc) (ls : Array Slot), va_P D vwCl (rb_w cI o v) H → va_D A (rb_w cI o v) → va_S A s.heap H locs → lv_has ls 7 [(0, .ref o), (1, .long d), (3, .int (nI v.2.1))] → W p l e (rm_ 8 10 115 177) s m args below meth c H locs 10 115 Q (F0 m 234 ls [])) :
    ∀ (n i : Nat) (d : Int64), i + n = v.2.1 → ∀ (H : Heap) (locs : List Loc) (ls : Array Slot), va_P D vwCl (rb_w cI o v) H → va_D A (rb_w cI o v) → va_S A s.heap H locs → lv_has ls 7 [(0, .ref o), (1, .long d), (3, .int (nI i))] → W p l e (rm_ 8 10 115 177) s m args below meth c H locs 10 115 Q (F0 m 124 ls []) := by
  have hx := C.1
  have hb := C.2.1
  have hown := C.2.2.2.1
  have hts := C.2.2.2.2.1
  intro n
  induction n with
  | zero =>
    intro i d hi H locs ls hP hD hS hl
    have hiN : i = v.2.1 := by omega
    refine lv_iload_n hx hb dX1_digest_124 rfl (lv_at hl 2 rfl) ?_
    refine lv_aload_n hx hb dX1_digest_125 rfl (lv_at hl 0 rfl) ?_
    refine x1_gf C hP 1 (by decide) (x := .int (nI v.2.1)) rfl rfl q60 dX1_digest_126 ?_
    refine lv_icmp_ge (tgt := 234) hx hb dX1_digest_129 (by decide) (fun c1 => ?_) (fun c1 => absurd ((nI_leI (a := v.2.1) (b := i) (by omega) (by omega)).mpr (by omega)) c1)
    subst hiN
    exact kk d _ _ _ hP hD hS (lv_sub hl [0, 1, 2] rfl)
  | succ n ih =>
    intro i d hi H locs ls hP hD hS hl
    have hin : i < v.2.1 := by omega
    refine lv_iload_n hx hb dX1_digest_124 rfl (lv_at hl 2 rfl) ?_
    refine lv_aload_n hx hb dX1_digest_125 rfl (lv_at hl 0 rfl) ?_
    refine x1_gf C hP 1 (by decide) (x := .int (nI v.2.1)) rfl rfl q60 dX1_digest_126 ?_
    refine lv_icmp_ge (tgt := 234) hx hb dX1_digest_129 (by decide) (fun c1 => absurd c1 (fun h9 => absurd ((nI_leI (a := v.2.1) (b := i) (by omega) (by omega)).mp h9) (by omega))) (fun c1 => ?_)
    refine lv_iconst (v := 0) hx hb dX1_digest_132 (by decide) ?_
    refine lv_istore (lv' := [(4, .int 0), (0, .ref o), (1, .long d), (3, .int (nI i))]) hx hb dX1_digest_133 hl (by decide) rfl (fun ls hl => ?_)
    refine lpwX1_dg4 (r := i) C (by omega) (fun d2 H locs ls hP hD hS hl => ?_) 8 0 _ (by omega) _ _ _ hP hD hS (lv_sub hl [1, 2, 3, 0] rfl)
    refine lv_iconst (v := 0) hx hb dX1_digest_163 (by decide) ?_
    refine lv_istore (lv' := [(4, .int 0), (0, .ref o), (1, .long d2), (3, .int (nI i))]) hx hb dX1_digest_164 hl (by decide) rfl (fun ls hl => ?_)
    refine lpwX1_dg5 (r := i) C (by omega) hp (fun d3 H locs ls hP hD hS hl => ?_) 6 0 _ (by omega) _ _ _ hP hD hS (lv_sub hl [1, 2, 3, 0] rfl)
    refine lv_iconst (v := 0) hx hb dX1_digest_194 (by decide) ?_
    refine lv_istore (lv' := [(4, .int 0), (0, .ref o), (1, .long d3), (3, .int (nI i))]) hx hb dX1_digest_195 hl (by decide) rfl (fun ls hl => ?_)
    refine lpwX1_dg6 (r := i) C (by omega) (fun d4 H locs ls hP hD hS hl => ?_) 3 0 _ (by omega) _ _ _ hP hD hS (lv_sub hl [1, 2, 3, 0] rfl)
    refine lv_iinc (v := nI (i + 1)) (lv' := [(3, .int (nI (i + 1))), (0, .ref o), (1, .long d4), (4, .int (nI 3))]) hx hb dX1_digest_228 hl (k := 2) rfl (nI_1 _) (by decide) rfl (fun ls hl => ?_)
    refine lv_goto (tgt := 124) hx hb dX1_digest_231 (by decide) ?_
    exact ih (i + 1) _ (by omega) _ _ _ hP hD hS (lv_sub hl [1, 2, 0] rfl)
set_option maxHeartbeats 4000000 in
set_option maxRecDepth 100000 in
theorem wX1_digest (l : Launch) (D : va_G) (t : Nat → Nat) (cI : ClassId) (o : Nat) (sz : Nat) (v : S1) (hn : v.2.1 ≤ 8) (hp : ¬ v.1 0 4 = 0) : gMl l yX1_digest (rw_ yX1_digest cX1_digest 7 (some .long)) (rm_ 8 10 115 177) [.ref o] D [(cI, .int)] t (rb_w cI o v) sz (fun _ w' => ∃ v', rb_E v v' ∧ w' = rb_w cI o v') := by
  refine g_of (cc := cX1_digest) (nL := 7) (rt := (some .long)) (Q := fun A => va_Ql _ (fun w' U => gQ D A w' U) A) (by decide) (Nat.le_of_ble_eq_true rfl) (fun p e s m args below meth c A ls H C hrt hnm hS hP hD hl => ?_)
  have hx := C.1
  have hb := C.2.1
  have hown := C.2.2.2.1
  have hts := C.2.2.2.2.1
  have hl : lv_has ls 7 [(0, .ref o)] := hl
  refine lv_aload_n hx hb dX1_digest_0 rfl (lv_at hl 0 rfl) ?_
  refine lv_iconst (v := 0) hx hb dX1_digest_1 (by decide) ?_
  refine x1_pt C hP hD hS q59 dX1_digest_2 (fun H locs hP hD hS => ?_)
  have hP : va_P D vwCl (rb_w cI o (rb_t v 0)) H := hP
  have hD : va_D A (rb_w cI o (rb_t v 0)) := hD
  refine lv_ldc2 (v := 1657) hx hb hown (hts _ q425) dX1_digest_5 ?_
  refine lv_lstore_n (lv' := [(1, .long 1657), (0, .ref o)]) hx hb dX1_digest_8 rfl hl (by decide) rfl (fun ls hl => ?_)
  refine lv_iconst (v := 0) hx hb dX1_digest_9 (by decide) ?_
  refine lv_istore_n (lv' := [(3, .int 0), (1, .long 1657), (0, .ref o)]) hx hb dX1_digest_10 rfl hl (by decide) rfl (fun ls hl => ?_)
  refine lpwX1_dg1 (v := rb_t v 0) C hn (fun d91 H locs ls hP hD hS hl => ?_) 7 0 _ (by omega) _ _ _ hP hD hS (lv_sub hl [2, 1, 0] rfl)
  refine lv_aload_n hx hb dX1_digest_36 rfl (lv_at hl 0 rfl) ?_
  refine x1_gf C hP 3 (by decide) (x := .ref ((rb_t v 0).2.2.2.2 0)) rfl rfl q30 dX1_digest_37 ?_
  refine lv_astore_n (lv' := [(3, .ref ((rb_t v 0).2.2.2.2 0)), (0, .ref o), (1, .long d91)]) hx hb dX1_digest_40 rfl hl (by decide) rfl (fun ls hl => ?_)
  refine lv_aload_n hx hb dX1_digest_41 rfl (lv_at hl 0 rfl) ?_
  refine va_alen (D := D) hx hb C.2.2.2.2.2.1 hP 1 0 rfl rfl (v := nI 5) rfl dX1_digest_42 ?_
  refine lv_istore (lv' := [(4, .int (nI 5)), (3, .ref ((rb_t v 0).2.2.2.2 0)), (0, .ref o), (1, .long d91)]) hx hb dX1_digest_43 hl (by decide) rfl (fun ls hl => ?_)
  refine lv_iconst (v := 0) hx hb dX1_digest_45 (by decide) ?_
  refine lv_istore (lv' := [(5, .int 0), (4, .int (nI 5)), (3, .ref ((rb_t v 0).2.2.2.2 0)), (0, .ref o), (1, .long d91)]) hx hb dX1_digest_46 hl (by decide) rfl (fun ls hl => ?_)
  refine lpwX1_dg2 (v := rb_t v 0) C (fun d92 H locs ls hP hD hS hl => ?_) 5 0 _ (by omega) _ _ _ hP hD hS (lv_sub hl [3, 4, 2, 1, 0] rfl)
  refine lv_aload_n hx hb dX1_digest_77 rfl (lv_at hl 0 rfl) ?_
  refine x1_gf C hP 4 (by decide) (x := .ref ((rb_t v 0).2.2.2.2 1)) rfl rfl q31 dX1_digest_78 ?_
  refine lv_astore_n (lv' := [(3, .ref ((rb_t v 0).2.2.2.2 1)), (0, .ref o), (1, .long d92), (4, .int (nI 5)), (5, .int (nI 5))]) hx hb dX1_digest_81 rfl hl (by decide) rfl (fun ls hl => ?_)
  refine lv_aload_n hx hb dX1_digest_82 rfl (lv_at hl 0 rfl) ?_
  refine va_alen (D := D) hx hb C.2.2.2.2.2.1 hP 2 0 rfl rfl (v := nI 3) rfl dX1_digest_83 ?_
  refine lv_istore (lv' := [(4, .int (nI 3)), (3, .ref ((rb_t v 0).2.2.2.2 1)), (0, .ref o), (1, .long d92), (5, .int (nI 5))]) hx hb dX1_digest_84 hl (by decide) rfl (fun ls hl => ?_)
  refine lv_iconst (v := 0) hx hb dX1_digest_86 (by decide) ?_
  refine lv_istore (lv' := [(5, .int 0), (4, .int (nI 3)), (3, .ref ((rb_t v 0).2.2.2.2 1)), (0, .ref o), (1, .long d92)]) hx hb dX1_digest_87 hl (by decide) rfl (fun ls hl => ?_)
  refine lpwX1_dg3 (v := rb_t v 0) C (fun d93 H locs ls hP hD hS hl => ?_) 3 0 _ (by omega) _ _ _ hP hD hS (lv_sub hl [3, 4, 2, 1, 0] rfl)
  refine lv_aload_n hx hb dX1_digest_118 rfl (lv_at hl 0 rfl) ?_
  refine g_cv (wr := []) (cells' := 10) (slots' := 115) rfl rfl C rd_nil hD hS (g_runV (wr := []) (n := 0) C (mX1_look l D t cI o H.size (rb_t v 0) (show v.2.1 ≤ 8 by omega) hp) (rw_V q302 q303 q304 q5 q305) kd_X1_look ⟨Nat.le_of_ble_eq_true rfl, Nat.le_of_ble_eq_true rfl⟩ (ci := 1) rfl rfl rfl C.2.2.2.2.2.1 hP hD hS hl.1 rfl rfl (Nat.le_of_ble_eq_true rfl) dX1_digest_119 ⟨Nat.le_of_ble_eq_true rfl, Nat.le_of_ble_eq_true rfl⟩) (fun w' H locs hv _ _ hP hD hS => ?_)
  obtain ⟨y2, hLy2, rfl⟩ := hv
  have hD : va_D A (rb_w cI o y2) := hD
  refine lv_iconst (v := 0) hx hb dX1_digest_122 (by decide) ?_
  refine lv_istore_n (lv' := [(3, .int 0), (0, .ref o), (1, .long d93), (4, .int (nI 3)), (5, .int (nI 3))]) hx hb dX1_digest_123 rfl hl (by decide) rfl (fun ls hl => ?_)
  have hn9 : y2.2.1 ≤ 8 := (show y2.2.1 ≤ 8 by rw [hLy2.1]; exact hn)
  have hp9 : ¬ y2.1 0 4 = 0 := by rw [hLy2.2.2.1]; exact hp
  refine lpwX1_dg7 (v := y2) C hn9 hp9 (fun d94 H locs ls hP hD hS hl => ?_) y2.2.1 0 _ (Nat.zero_add _) _ _ _ hP hD hS (lv_sub hl [1, 2, 0] rfl)
  refine lv_lload_n hx hb dX1_digest_234 rfl (lv_at hl 1 rfl) ?_
  exact g_lret C hrt hP hD hS dX1_digest_235 (by skip; refine ⟨_, ?_, rfl⟩; exact hLy2.e)
set_option maxHeartbeats 4000000 in
set_option maxRecDepth 100000 in
theorem wX1_pay (l : Launch) (D : va_G) (t : Nat → Nat) (cI : ClassId) (o : Nat) (sz : Nat) (v : S1) (hn : v.2.1 ≤ 8) (hp : ¬ v.1 0 4 = 0) : gMi l yX1_pay (rw_ yX1_pay cX1_pay 1 (some .int)) (rm_ 7 8 56 155) [.ref o] D [(cI, .int)] t (rb_w cI o v) sz (fun _ w' => ∃ v', rb_R (rb_t v 0) v' v.2.1 ∧ w' = rb_w cI o v') := by
  refine g_of (cc := cX1_pay) (nL := 1) (rt := (some .int)) (Q := fun A => va_Qi _ (fun w' U => gQ D A w' U) A) (by decide) (Nat.le_of_ble_eq_true rfl) (fun p e s m args below meth c A ls H C hrt hnm hS hP hD hl => ?_)
  have hx := C.1
  have hb := C.2.1
  have hown := C.2.2.2.1
  have hts := C.2.2.2.2.1
  have hl : lv_has ls 1 [(0, .ref o)] := hl
  refine lv_aload_n hx hb dX1_pay_0 rfl (lv_at hl 0 rfl) ?_
  refine lv_iconst (v := 0) hx hb dX1_pay_1 (by decide) ?_
  refine x1_pt C hP hD hS q59 dX1_pay_2 (fun H locs hP hD hS => ?_)
  have hP : va_P D vwCl (rb_w cI o (rb_t v 0)) H := hP
  have hD : va_D A (rb_w cI o (rb_t v 0)) := hD
  refine lv_aload_n hx hb dX1_pay_5 rfl (lv_at hl 0 rfl) ?_
  refine g_ci (wr := []) (cells' := 8) (slots' := 56) rfl rfl C rd_nil hD hS (g_runV (wr := []) (n := 0) C (mX1_paid l D t cI o H.size (rb_t v 0) (show v.2.1 ≤ 8 by omega) hp) (rw_V q207 q208 q209 q5 q210) kd_X1_paid ⟨Nat.le_of_ble_eq_true rfl, Nat.le_of_ble_eq_true rfl⟩ (ci := 1) rfl rfl rfl C.2.2.2.2.2.1 hP hD hS hl.1 rfl rfl (Nat.le_of_ble_eq_true rfl) dX1_pay_6 ⟨Nat.le_of_ble_eq_true rfl, Nat.le_of_ble_eq_true rfl⟩) (fun r1 w' H locs hv _ _ hP hD hS => ?_)
  obtain ⟨y2, hRy2, rfl⟩ := hv
  have hD : va_D A (rb_w cI o y2) := hD
  exact g_iret C hrt hP hD hS dX1_pay_9 (by skip; refine ⟨_, ?_, rfl⟩; exact (hRy2))
