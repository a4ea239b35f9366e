theorem kd_X0_until : yX0_until.cls = yX0_until.cls ∧ yX0_until.cls ≠ "java/lang/invoke/MethodHandle" ∧ yX0_until.cls ≠ "java/lang/invoke/VarHandle" ∧ (parseMethodDescriptor yX0_until.desc).map (fun d => d.parameters.length) = some 1 := by decide +kernel
set_option maxHeartbeats 4000000 in
set_option maxRecDepth 100000 in
theorem lpX0_until {p : Program} {l : Launch} {e : Env} {s : State} {m : MethodId} {args : Array Value} {below : List Frame} {meth : Method} {c : Code} {Q : State → Prop} {D : va_G} {t : Nat → Nat} {A : Nat → Prop} {cI : ClassId} {o : Nat} {ad : Nat → Nat} {u : S0} {r : Nat} {X : Int32} (C : gC p s m args meth c cX0_until 5 RX0 D [(cI, .int)] t A) (hr8 : r < 8) (kr : ∀ (H : Heap) (locs : List Loc) (ls : Array Slot), va_P D vwCl (ra_w cI o ad u) H → va_D A (ra_w cI o ad u) → va_S A s.heap H locs → W p l e (rm_ 5 0 0 110) s m args below meth c H locs 0 0 Q (F0 m 52 ls [.int X])) (kk : X = -1 → ∀ (H : Heap) (locs : List Loc) (ls : Array Slot), va_P D vwCl (ra_w cI o ad u) H → va_D A (ra_w cI o ad u) → va_S A s.heap H locs → W p l e (rm_ 5 0 0 110) s m args below meth c H locs 0 0 Q (F0 m 69 ls [])) :
    ∀ (n i : Nat), i + n = 99 → rf_uf u r n i = X → ∀ (H : Heap) (locs : List Loc) (ls : Array Slot), va_P D vwCl (ra_w cI o ad u) H → va_D A (ra_w cI o ad u) → va_S A s.heap H locs → lv_has ls 5 [(0, .ref o), (1, .int (nI r)), (2, .int ((rf_un u r i).1)), (3, .int ((rf_un u r i).2)), (4, .int (nI (i + 1)))] → W p l e (rm_ 5 0 0 110) s m args below meth c H locs 0 0 Q (F0 m 30 ls []) := by
  have hx := C.1
  have hb := C.2.1
  have hown := C.2.2.2.1
  have hts := C.2.2.2.2.1
  intro n
  induction n with
  | zero =>
    intro i hi hX H locs ls hP hD hS hl
    refine lv_iload hx hb dX0_until_30 (lv_at hl 4 rfl) ?_
    refine lv_bipush (v := 99) hx hb dX0_until_32 (by decide) ?_
    refine lv_icmp_gt (tgt := 69) hx hb dX0_until_34 (by decide) (fun c1 => ?_) (fun c1 => absurd ((nI_ltI (a := 99) (b := i + 1) (by omega) (by omega)).mpr (by omega)) c1)
    exact kk hX.symm _ _ _ hP hD hS
  | succ n ih =>
    intro i hi hX H locs ls hP hD hS hl
    refine lv_iload hx hb dX0_until_30 (lv_at hl 4 rfl) ?_
    refine lv_bipush (v := 99) hx hb dX0_until_32 (by decide) ?_
    refine lv_icmp_gt (tgt := 69) hx hb dX0_until_34 (by decide) (fun c1 => absurd c1 (fun h9 => absurd ((nI_ltI (a := 99) (b := i + 1) (by omega) (by omega)).mp h9) (by omega))) (fun c1 => ?_)
    refine lv_iload_n hx hb dX0_until_37 rfl (lv_at hl 2 rfl) ?_
    refine lv_aload_n hx hb dX0_until_38 rfl (lv_at hl 0 rfl) ?_
    refine lv_iload_n hx hb dX0_until_39 rfl (lv_at hl 2 rfl) ?_
    refine lv_iload_n hx hb dX0_until_40 rfl (lv_at hl 3 rfl) ?_
    refine g_ci (wr := []) (cells' := 0) (slots' := 0) rfl rfl C rd_nil hD hS (g_runV (wr := []) (n := 2) C (mX0_takenBack l D t cI o ad H.size u ((rf_un u r i).1) ((rf_un u r i).2)) (rw_V q191 q192 q193 q2 q194) kd_X0_takenBack ⟨Nat.le_of_ble_eq_true rfl, Nat.le_of_ble_eq_true rfl⟩ (ci := 0) rfl rfl rfl C.2.2.2.2.2.1 hP hD hS hl.1 rfl rfl (Nat.le_of_ble_eq_true rfl) dX0_until_41 ⟨Nat.le_of_ble_eq_true rfl, Nat.le_of_ble_eq_true rfl⟩) (fun v w' H locs hv _ _ hP hD hS => ?_)
    obtain ⟨rfl, rfl⟩ := hv
    have hD : va_D A (ra_w cI o ad u) := hD
    refine lv_isub hx hb dX0_until_44 ?_
    refine lv_topi (fun v2 ev2 => ?_)
    refine lv_istore_n (lv' := [(2, .int v2), (0, .ref o), (1, .int (nI r)), (3, .int ((rf_un u r i).2)), (4, .int (nI (i + 1)))]) hx hb dX0_until_45 rfl hl (by decide) rfl (fun ls hl => ?_)
    refine lv_iload_n hx hb dX0_until_46 rfl (lv_at hl 0 rfl) ?_
    refine lv_if_ne (tgt := 53) hx hb dX0_until_47 (by decide) (fun c3 => ?_) (fun c3 => ?_)
    · refine lv_aload_n hx hb dX0_until_53 rfl (lv_at hl 1 rfl) ?_
      refine lv_iload_n hx hb dX0_until_54 rfl (lv_at hl 2 rfl) ?_
      refine lv_aload_n hx hb dX0_until_55 rfl (lv_at hl 1 rfl) ?_
      refine x0_gf C hP 7 (by decide) (v := .ref (ad 7)) rfl rfl q21 dX0_until_56 ?_
      refine g_ci (wr := []) (cells' := 0) (slots' := 0) rfl rfl C rd_nil hD hS (g_runV (wr := []) (n := 2) C (mX0_weekWage l D t cI o ad H.size u 7 (Or.inl rfl) r hr8) (rw_V q167 q168 q169 q2 q170) kd_X0_weekWage ⟨Nat.le_of_ble_eq_true rfl, Nat.le_of_ble_eq_true rfl⟩ (ci := 0) rfl rfl rfl C.2.2.2.2.2.1 hP hD hS hl.1 rfl rfl (Nat.le_of_ble_eq_true rfl) dX0_until_59 ⟨Nat.le_of_ble_eq_true rfl, Nat.le_of_ble_eq_true rfl⟩) (fun v w' H locs hv _ _ hP hD hS => ?_)
      obtain ⟨rfl, rfl⟩ := hv
      have hD : va_D A (ra_w cI o ad u) := hD
      refine lv_topi (fun v4 ev4 => ?_)
      refine lv_istore_n (lv' := [(3, .int v4), (2, .int v2), (0, .ref o), (1, .int (nI r)), (4, .int (nI (i + 1)))]) hx hb dX0_until_62 rfl hl (by decide) rfl (fun ls hl => ?_)
      refine lv_iinc (v := nI (i + 1 + 1)) (lv' := [(4, .int (nI (i + 1 + 1))), (3, .int v4), (2, .int v2), (0, .ref o), (1, .int (nI r))]) hx hb dX0_until_63 hl (k := 4) rfl (nI_1 _) (by decide) rfl (fun ls hl => ?_)
      refine lv_goto (tgt := 30) hx hb dX0_until_66 (by decide) ?_
      subst ev4; subst ev2
      rw [rf_uf, if_neg (show ¬ (rf_un u r (i + 1)).1 = 0 from c3)] at hX
      exact ih (i + 1) (by omega) hX _ _ _ hP hD hS (lv_sub hl [3, 4, 2, 1, 0] rfl)
    · refine lv_iload hx hb dX0_until_50 (lv_at hl 4 rfl) ?_
      subst ev2
      rw [rf_uf, if_pos (show (rf_un u r (i + 1)).1 = 0 from c3)] at hX
      rw [hX]
      exact kr _ _ _ hP hD hS
set_option maxHeartbeats 4000000 in
set_option maxRecDepth 100000 in
theorem mX0_until (l : Launch) (D : va_G) (t : Nat → Nat) (cI : ClassId) (o : Nat) (ad : Nat → Nat) (sz : Nat) (u : S0) (hh : u.2.1 ≤ 8) (r : Nat) (hr : r < u.2.1) : gMi l yX0_until (rw_ yX0_until cX0_until 5 (some .int)) (rm_ 5 0 0 110) [.ref o, .int (nI r)] D [(cI, .int)] t (ra_w cI o ad u) sz (fun v w' => v = rf_until u r ∧ w' = ra_w cI o ad u) := by
  refine g_of (cc := cX0_until) (nL := 5) (rt := (some .int)) (Q := fun A => va_Qi _ (fun w' U => gQ D A w' U) A) (by decide) (Nat.le_of_ble_eq_true rfl) (fun p e s m args below meth c A ls H C hrt hnm hS hP hD hl => ?_)
  have hx := C.1
  have hb := C.2.1
  have hown := C.2.2.2.1
  have hts := C.2.2.2.2.1
  have hl : lv_has ls 5 [(0, .ref o), (1, .int (nI r))] := hl
  refine lv_iload_n hx hb dX0_until_0 rfl (lv_at hl 1 rfl) ?_
  refine lv_aload_n hx hb dX0_until_1 rfl (lv_at hl 0 rfl) ?_
  refine x0_gf C hP 9 (by decide) (v := .int (nI u.2.1)) rfl rfl q44 dX0_until_2 ?_
  refine g_cv (wr := []) (cells' := 0) (slots' := 0) rfl rfl C rd_nil hD hS (g_runS (wr := []) (n := 2) (As := [.int (nI r), .int (nI u.2.1)]) C (mX0_requireIndex l D t [(cI, .int)] (ra_w cI o ad u) H.size r u.2.1 (by omega) (by omega)) (rw_S q85 q86 q2 q87) kd_X0_requireIndex ⟨Nat.le_of_ble_eq_true rfl, Nat.le_of_ble_eq_true rfl⟩ C.2.2.2.2.2.1 hP hD hS hl.1 rfl rfl (Nat.le_of_ble_eq_true rfl) dX0_until_5 ⟨Nat.le_of_ble_eq_true rfl, Nat.le_of_ble_eq_true rfl⟩) (fun w' H locs hv _ _ hP hD hS => ?_)
  subst hv
  have hD : va_D A (ra_w cI o ad u) := hD
  refine lv_aload_n hx hb dX0_until_8 rfl (lv_at hl 0 rfl) ?_
  refine x0_gf C hP 4 (by decide) (v := .ref (ad 4)) rfl rfl q18 dX0_until_9 ?_
  refine lv_iload_n hx hb dX0_until_12 rfl (lv_at hl 1 rfl) ?_
  refine x0_ld C hP (k := 4) (i := r) (Or.inl (by decide)) (show r < 8 by omega) rfl dX0_until_13 ?_
  refine lv_topi (fun v1 ev1 => ?_)
  refine lv_istore_n (lv' := [(2, .int v1), (0, .ref o), (1, .int (nI r))]) hx hb dX0_until_14 rfl hl (by decide) rfl (fun ls hl => ?_)
  refine lv_iload_n hx hb dX0_until_15 rfl (lv_at hl 0 rfl) ?_
  refine lv_if_ne (tgt := 21) hx hb dX0_until_16 (by decide) (fun c2 => ?_) (fun c2 => ?_)
  · refine lv_aload_n hx hb dX0_until_21 rfl (lv_at hl 1 rfl) ?_
    refine lv_iload_n hx hb dX0_until_22 rfl (lv_at hl 2 rfl) ?_
    refine g_ci (wr := []) (cells' := 0) (slots' := 0) rfl rfl C rd_nil hD hS (g_runV (wr := []) (n := 1) C (mX0_coming l D t cI o ad H.size u r (show r < 8 by omega)) (rw_V q163 q164 q165 q2 q166) kd_X0_coming ⟨Nat.le_of_ble_eq_true rfl, Nat.le_of_ble_eq_true rfl⟩ (ci := 0) rfl rfl rfl C.2.2.2.2.2.1 hP hD hS hl.1 rfl rfl (Nat.le_of_ble_eq_true rfl) dX0_until_23 ⟨Nat.le_of_ble_eq_true rfl, Nat.le_of_ble_eq_true rfl⟩) (fun v w' H locs hv _ _ hP hD hS => ?_)
    obtain ⟨rfl, rfl⟩ := hv
    have hD : va_D A (ra_w cI o ad u) := hD
    refine lv_topi (fun v3 ev3 => ?_)
    refine lv_istore_n (lv' := [(3, .int v3), (2, .int v1), (0, .ref o), (1, .int (nI r))]) hx hb dX0_until_26 rfl hl (by decide) rfl (fun ls hl => ?_)
    refine lv_iconst (v := 1) hx hb dX0_until_27 (by decide) ?_
    refine lv_istore (lv' := [(4, .int 1), (3, .int v3), (2, .int v1), (0, .ref o), (1, .int (nI r))]) hx hb dX0_until_28 hl (by decide) rfl (fun ls hl => ?_)
    subst ev3; subst ev1
    refine lpX0_until (X := rf_uf u r 99 0) C (by omega) (fun H locs ls hP hD hS => ?_) (fun hX H locs ls hP hD hS => ?_) 99 0 (by omega) rfl _ _ _ hP hD hS (lv_sub hl [3, 4, 2, 1, 0] rfl)
    · exact g_iret C hrt hP hD hS dX0_until_52 ⟨by rw [rf_until, if_neg c2], rfl⟩
    · refine lv_iconst (v := (-1)) hx hb dX0_until_69 (by decide) ?_
      exact g_iret C hrt hP hD hS dX0_until_70 ⟨by rw [rf_until, if_neg c2, hX], rfl⟩
  · refine lv_iconst (v := 0) hx hb dX0_until_19 (by decide) ?_
    exact g_iret C hrt hP hD hS dX0_until_20 ⟨by subst ev1; rw [rf_until, if_pos c2], by rfl⟩
theorem kd_X0_advise : yX0_advise.cls = yX0_advise.cls ∧ yX0_advise.cls ≠ "java/lang/invoke/MethodHandle" ∧ yX0_advise.cls ≠ "java/lang/invoke/VarHandle" ∧ (parseMethodDescriptor yX0_advise.desc).map (fun d => d.parameters.length) = some 0 := by decide +kernel
set_option maxHeartbeats 4000000 in
set_option maxRecDepth 100000 in
theorem lpX0_adviseA {p : Program} {l : Launch} {e : Env} {s : State} {m : MethodId} {args : Array Value} {below : List Frame} {meth : Method} {c : Code} {Q : State → Prop} {D : va_G} {t : Nat → Nat} {A : Nat → Prop} {cI : ClassId} {o : Nat} {ad : Nat → Nat} {u : S0} (C : gC p s m args meth c cX0_advise 7 RX0 D [(cI, .int)] t A) (hh : u.2.1 ≤ 8) (kk : ∀ (H : Heap) (locs : List Loc) (ls : Array Slot), va_P D vwCl (ra_w cI o ad u) H → va_D A (ra_w cI o ad u) → va_S A s.heap H locs → lv_has ls 7 [(0, .ref o), (1, .long ((rf_uL u u.2.1).1)), (3, .long ((rf_uL u u.2.1).2)), (5, .int (nI u.2.1))] → W p l e (rm_ 2 0 0 48) s m args below meth c H locs 0 0 Q (F0 m 46 ls [])) :
    ∀ (n i : Nat), i + n = u.2.1 → ∀ (H : Heap) (locs : List Loc) (ls : Array Slot), va_P D vwCl (ra_w cI o ad u) H → va_D A (ra_w cI o ad u) → va_S A s.heap H locs → lv_has ls 7 [(0, .ref o), (1, .long ((rf_uL u i).1)), (3, .long ((rf_uL u i).2)), (5, .int (nI i))] → W p l e (rm_ 2 0 0 48) s m args below meth c H locs 0 0 Q (F0 m 7 ls []) := by
  have hx := C.1
  have hb := C.2.1
  have hown := C.2.2.2.1
  have hts := C.2.2.2.2.1
  intro n
  induction n with
  | zero =>
    intro i hi H locs ls hP hD hS hl
    have hiN : i = u.2.1 := by omega
    refine lv_iload hx hb dX0_advise_7 (lv_at hl 3 rfl) ?_
    refine lv_aload_n hx hb dX0_advise_9 rfl (lv_at hl 0 rfl) ?_
    refine x0_gf C hP 9 (by decide) (v := .int (nI u.2.1)) rfl rfl q44 dX0_advise_10 ?_
    refine lv_icmp_ge (tgt := 46) hx hb dX0_advise_13 (by decide) (fun c1 => ?_) (fun c1 => absurd ((nI_leI (a := u.2.1) (b := i) (by omega) (by omega)).mpr (by omega)) c1)
    subst hiN
    exact kk _ _ _ hP hD hS (lv_sub hl [0, 1, 2, 3] rfl)
  | succ n ih =>
    intro i hi H locs ls hP hD hS hl
    have hin : i < u.2.1 := by omega
    refine lv_iload hx hb dX0_advise_7 (lv_at hl 3 rfl) ?_
    refine lv_aload_n hx hb dX0_advise_9 rfl (lv_at hl 0 rfl) ?_
    refine x0_gf C hP 9 (by decide) (v := .int (nI u.2.1)) rfl rfl q44 dX0_advise_10 ?_
    refine lv_icmp_ge (tgt := 46) hx hb dX0_advise_13 (by decide) (fun c1 => absurd c1 (fun h9 => absurd ((nI_leI (a := u.2.1) (b := i) (by omega) (by omega)).mp h9) (by omega))) (fun c1 => ?_)
    refine lv_lload_n hx hb dX0_advise_16 rfl (lv_at hl 1 rfl) ?_
    refine lv_aload_n hx hb dX0_advise_17 rfl (lv_at hl 0 rfl) ?_
    refine lv_iload hx hb dX0_advise_18 (lv_at hl 3 rfl) ?_
    refine g_ci (wr := []) (cells' := 0) (slots' := 0) rfl rfl C rd_nil hD hS (g_runV (wr := []) (n := 1) C (mX0_hoursThatCount l D t cI o ad H.size u i (by omega)) (rw_V q187 q188 q189 q2 q190) kd_X0_hoursThatCount ⟨Nat.le_of_ble_eq_true rfl, Nat.le_of_ble_eq_true rfl⟩ (ci := 0) rfl rfl rfl C.2.2.2.2.2.1 hP hD hS hl.1 rfl rfl (Nat.le_of_ble_eq_true rfl) dX0_advise_20 ⟨Nat.le_of_ble_eq_true rfl, Nat.le_of_ble_eq_true rfl⟩) (fun v w' H locs hv _ _ hP hD hS => ?_)
    obtain ⟨rfl, rfl⟩ := hv
    have hD : va_D A (ra_w cI o ad u) := hD
    refine lv_i2l hx hb dX0_advise_23 rfl ?_
    refine lv_ladd hx hb dX0_advise_24 ?_
    refine lv_topl (fun v2 ev2 => ?_)
    refine lv_lstore_n (lv' := [(1, .long v2), (0, .ref o), (3, .long ((rf_uL u i).2)), (5, .int (nI i))]) hx hb dX0_advise_25 rfl hl (by decide) rfl (fun ls hl => ?_)
    refine lv_lload_n hx hb dX0_advise_26 rfl (lv_at hl 2 rfl) ?_
    refine lv_aload_n hx hb dX0_advise_27 rfl (lv_at hl 1 rfl) ?_
    refine lv_iload hx hb dX0_advise_28 (lv_at hl 3 rfl) ?_
    refine lv_aload_n hx hb dX0_advise_30 rfl (lv_at hl 1 rfl) ?_
    refine x0_gf C hP 7 (by decide) (v := .ref (ad 7)) rfl rfl q21 dX0_advise_31 ?_
    refine g_ci (wr := []) (cells' := 0) (slots' := 0) rfl rfl C rd_nil hD hS (g_runV (wr := []) (n := 2) C (mX0_wageByPieces l D t cI o ad H.size u 7 (Or.inl rfl) i (by omega)) (rw_V q175 q176 q177 q2 q178) kd_X0_wageByPieces ⟨Nat.le_of_ble_eq_true rfl, Nat.le_of_ble_eq_true rfl⟩ (ci := 0) rfl rfl rfl C.2.2.2.2.2.1 hP hD hS hl.1 rfl rfl (Nat.le_of_ble_eq_true rfl) dX0_advise_34 ⟨Nat.le_of_ble_eq_true rfl, Nat.le_of_ble_eq_true rfl⟩) (fun v w' H locs hv _ _ hP hD hS => ?_)
    obtain ⟨rfl, rfl⟩ := hv
    have hD : va_D A (ra_w cI o ad u) := hD
    refine lv_i2l hx hb dX0_advise_37 rfl ?_
    refine lv_ladd hx hb dX0_advise_38 ?_
    refine lv_topl (fun v3 ev3 => ?_)
    refine lv_lstore_n (lv' := [(3, .long v3), (1, .long v2), (0, .ref o), (5, .int (nI i))]) hx hb dX0_advise_39 rfl hl (by decide) rfl (fun ls hl => ?_)
    refine lv_iinc (v := nI (i + 1)) (lv' := [(5, .int (nI (i + 1))), (3, .long v3), (1, .long v2), (0, .ref o)]) hx hb dX0_advise_40 hl (k := 3) rfl (nI_1 _) (by decide) rfl (fun ls hl => ?_)
    refine lv_goto (tgt := 7) hx hb dX0_advise_43 (by decide) ?_
    subst ev3; subst ev2
    exact ih (i + 1) (by omega) _ _ _ hP hD hS (lv_sub hl [3, 2, 1, 0] rfl)
set_option maxHeartbeats 4000000 in
set_option maxRecDepth 100000 in
theorem lpX0_adviseB {p : Program} {l : Launch} {e : Env} {s : State} {m : MethodId} {args : Array Value} {below : List Frame} {meth : Method} {c : Code} {Q : State → Prop} {D : va_G} {t : Nat → Nat} {A : Nat → Prop} {cI : ClassId} {o : Nat} {ad : Nat → Nat} {u : S0} {hs ps : Int64} (C : gC p s m args meth c cX0_advise 7 RX0 D [(cI, .int)] t A) (kk : ∀ (H : Heap) (locs : List Loc) (ls : Array Slot), va_P D vwCl (ra_w cI o ad u) H → va_D A (ra_w cI o ad u) → va_S A s.heap H locs → lv_has ls 7 [(0, .ref o), (1, .long hs), (3, .long ps), (5, .int (rf_ad hs ps 98)), (6, .int (nI (98 + 2)))] → W p l e (rm_ 2 0 0 48) s m args below meth c H locs 0 0 Q (F0 m 103 ls [])) :
    ∀ (n i : Nat), i + n = 98 → ∀ (H : Heap) (locs : List Loc) (ls : Array Slot), va_P D vwCl (ra_w cI o ad u) H → va_D A (ra_w cI o ad u) → va_S A s.heap H locs → lv_has ls 7 [(0, .ref o), (1, .long hs), (3, .long ps), (5, .int (rf_ad hs ps i)), (6, .int (nI (i + 2)))] → W p l e (rm_ 2 0 0 48) s m args below meth c H locs 0 0 Q (F0 m 59 ls []) := by
  have hx := C.1
  have hb := C.2.1
  have hown := C.2.2.2.1
  have hts := C.2.2.2.2.1
  intro n
  induction n with
  | zero =>
    intro i hi H locs ls hP hD hS hl
    have hiN : i = 98 := by omega
    refine lv_iload hx hb dX0_advise_59 (lv_at hl 4 rfl) ?_
    refine g_gs C hS (C.2.2.2.2.2.2.2.1.2.2.1) q84 dX0_advise_61 ?_
    refine lv_iconst (v := 1) hx hb dX0_advise_64 (by decide) ?_
    refine g_ti C hS (N := 5) (i := 1) (f := rt_RX0_MOST_RATE) C.2.2.2.2.2.2.2.1.2.2.2.1 (by decide) (by decide) rfl dX0_advise_65 ?_
    refine lv_icmp_gt (tgt := 103) hx hb dX0_advise_66 (by decide) (fun c1 => ?_) (fun c1 => absurd ((nI_ltI (a := 99) (b := i + 2) (by omega) (by omega)).mpr (by omega)) c1)
    subst hiN
    exact kk _ _ _ hP hD hS (lv_sub hl [0, 1, 2, 3, 4] rfl)
  | succ n ih =>
    intro i hi H locs ls hP hD hS hl
    have hin : i < 98 := by omega
    refine lv_iload hx hb dX0_advise_59 (lv_at hl 4 rfl) ?_
    refine g_gs C hS (C.2.2.2.2.2.2.2.1.2.2.1) q84 dX0_advise_61 ?_
    refine lv_iconst (v := 1) hx hb dX0_advise_64 (by decide) ?_
    refine g_ti C hS (N := 5) (i := 1) (f := rt_RX0_MOST_RATE) C.2.2.2.2.2.2.2.1.2.2.2.1 (by decide) (by decide) rfl dX0_advise_65 ?_
    refine lv_icmp_gt (tgt := 103) hx hb dX0_advise_66 (by decide) (fun c1 => absurd c1 (fun h9 => absurd ((nI_ltI (a := 99) (b := i + 2) (by omega) (by omega)).mp h9) (by omega))) (fun c1 => ?_)
    refine lv_iload hx hb dX0_advise_69 (lv_at hl 4 rfl) ?_
    refine lv_i2l hx hb dX0_advise_71 rfl ?_
    refine lv_lload_n hx hb dX0_advise_72 rfl (lv_at hl 1 rfl) ?_
    refine lv_lmul hx hb dX0_advise_73 ?_
    refine lv_lload_n hx hb dX0_advise_74 rfl (lv_at hl 2 rfl) ?_
    refine lv_lsub hx hb dX0_advise_75 ?_
    refine g_absL C q393 q394 q173 q395 hl.1 (Nat.le_of_ble_eq_true rfl) (Nat.le_of_ble_eq_true rfl) (Nat.le_of_ble_eq_true rfl) (Nat.le_of_ble_eq_true rfl) dX0_advise_76 ?_
    refine lv_iload hx hb dX0_advise_79 (lv_at hl 3 rfl) ?_
    refine lv_i2l hx hb dX0_advise_81 rfl ?_
    refine lv_lload_n hx hb dX0_advise_82 rfl (lv_at hl 1 rfl) ?_
    refine lv_lmul hx hb dX0_advise_83 ?_
    refine lv_lload_n hx hb dX0_advise_84 rfl (lv_at hl 2 rfl) ?_
    refine lv_lsub hx hb dX0_advise_85 ?_
    refine g_absL C q393 q394 q173 q395 hl.1 (Nat.le_of_ble_eq_true rfl) (Nat.le_of_ble_eq_true rfl) (Nat.le_of_ble_eq_true rfl) (Nat.le_of_ble_eq_true rfl) dX0_advise_86 ?_
    refine W.lcmp hx hb dX0_advise_89 ?_
    refine lv_if_ge (tgt := 97) hx hb dX0_advise_90 (by decide) (fun c2 => ?_) (fun c2 => ?_)
    · refine lv_iinc (v := nI (i + 2 + 1)) (lv' := [(6, .int (nI (i + 2 + 1))), (0, .ref o), (1, .long hs), (3, .long ps), (5, .int (rf_ad hs ps i))]) hx hb dX0_advise_97 hl (k := 4) rfl (nI_1 _) (by decide) rfl (fun ls hl => ?_)
      refine lv_goto (tgt := 59) hx hb dX0_advise_100 (by decide) ?_
      have e9 : rf_ad hs ps (i + 1) = rf_ad hs ps i := by rw [rf_ad, if_pos c2]
      exact ih (i + 1) (by omega) _ _ _ hP hD hS (by rw [e9]; exact lv_sub hl [1, 2, 3, 4, 0] rfl)
    · refine lv_iload hx hb dX0_advise_93 (lv_at hl 4 rfl) ?_
      refine lv_istore (lv' := [(5, .int (nI (i + 2))), (0, .ref o), (1, .long hs), (3, .long ps), (6, .int (nI (i + 2)))]) hx hb dX0_advise_95 hl (by decide) rfl (fun ls hl => ?_)
      refine lv_iinc (v := nI (i + 2 + 1)) (lv' := [(6, .int (nI (i + 2 + 1))), (5, .int (nI (i + 2))), (0, .ref o), (1, .long hs), (3, .long ps)]) hx hb dX0_advise_97 hl (k := 4) rfl (nI_1 _) (by decide) rfl (fun ls hl => ?_)
      refine lv_goto (tgt := 59) hx hb dX0_advise_100 (by decide) ?_
      have e9 : rf_ad hs ps (i + 1) = nI (i + 2) := by rw [rf_ad, if_neg c2]
      exact ih (i + 1) (by omega) _ _ _ hP hD hS (by rw [e9]; exact lv_sub hl [2, 3, 4, 1, 0] rfl)
set_option maxHeartbeats 4000000 in
set_option maxRecDepth 100000 in
theorem mX0_advise (l : Launch) (D : va_G) (t : Nat → Nat) (cI : ClassId) (o : Nat) (ad : Nat → Nat) (sz : Nat) (u : S0) (hh : u.2.1 ≤ 8) : gMi l yX0_advise (rw_ yX0_advise cX0_advise 7 (some .int)) (rm_ 2 0 0 48) [.ref o] D [(cI, .int)] t (ra_w cI o ad u) sz (fun v w' => v = rf_advise u ∧ w' = ra_w cI o ad u) := by
  refine g_of (cc := cX0_advise) (nL := 7) (rt := (some .int)) (Q := fun A => va_Qi _ (fun w' U => gQ D A w' U) A) (by decide) (Nat.le_of_ble_eq_true rfl) (fun p e s m args below meth c A ls H C hrt hnm hS hP hD hl => ?_)
  have hx := C.1
  have hb := C.2.1
  have hown := C.2.2.2.1
  have hts := C.2.2.2.2.1
  have hl : lv_has ls 7 [(0, .ref o)] := hl
  refine lv_lconst (v := 0) hx hb dX0_advise_0 rfl ?_
  refine lv_lstore_n (lv' := [(1, .long 0), (0, .ref o)]) hx hb dX0_advise_1 rfl hl (by decide) rfl (fun ls hl => ?_)
  refine lv_lconst (v := 0) hx hb dX0_advise_2 rfl ?_
  refine lv_lstore_n (lv' := [(3, .long 0), (1, .long 0), (0, .ref o)]) hx hb dX0_advise_3 rfl hl (by decide) rfl (fun ls hl => ?_)
  refine lv_iconst (v := 0) hx hb dX0_advise_4 (by decide) ?_
  refine lv_istore (lv' := [(5, .int 0), (3, .long 0), (1, .long 0), (0, .ref o)]) hx hb dX0_advise_5 hl (by decide) rfl (fun ls hl => ?_)
  refine lpX0_adviseA  C hh (fun H locs ls hP hD hS hl => ?_) u.2.1 0 (by omega) _ _ _ hP hD hS (lv_sub hl [3, 2, 1, 0] rfl)
  refine g_gs C hS (C.2.2.2.2.2.2.2.1.1) q83 dX0_advise_46 ?_
  refine lv_iconst (v := 1) hx hb dX0_advise_49 (by decide) ?_
  refine g_ti C hS (N := 5) (i := 1) (f := rt_RX0_LEAST_RATE) C.2.2.2.2.2.2.2.1.2.1 (by decide) (by decide) rfl dX0_advise_50 ?_
  refine lv_istore (lv' := [(5, .int (rt_RX0_LEAST_RATE 1)), (0, .ref o), (1, .long ((rf_uL u u.2.1).1)), (3, .long ((rf_uL u u.2.1).2))]) hx hb dX0_advise_51 hl (by decide) rfl (fun ls hl => ?_)
  refine lv_iload hx hb dX0_advise_53 (lv_at hl 0 rfl) ?_
  refine lv_iconst (v := 1) hx hb dX0_advise_55 (by decide) ?_
  refine lv_iadd hx hb dX0_advise_56 ?_
  refine g_top (show rt_RX0_LEAST_RATE 1 + 1 = nI 2 by decide) ?_
  refine lv_istore (lv' := [(6, .int (nI 2)), (5, .int (rt_RX0_LEAST_RATE 1)), (0, .ref o), (1, .long ((rf_uL u u.2.1).1)), (3, .long ((rf_uL u u.2.1).2))]) hx hb dX0_advise_57 hl (by decide) rfl (fun ls hl => ?_)
  refine lpX0_adviseB (hs := (rf_uL u u.2.1).1) (ps := (rf_uL u u.2.1).2) C  (fun H locs ls hP hD hS hl => ?_) 98 0 (by omega) _ _ _ hP hD hS (lv_sub hl [2, 3, 4, 1, 0] rfl)
  refine lv_iload hx hb dX0_advise_103 (lv_at hl 3 rfl) ?_
  exact g_iret C hrt hP hD hS dX0_advise_105 ⟨by skip; rfl, by skip; rfl⟩
theorem kd_X0_digest : yX0_digest.cls = yX0_digest.cls ∧ yX0_digest.cls ≠ "java/lang/invoke/MethodHandle" ∧ yX0_digest.cls ≠ "java/lang/invoke/VarHandle" ∧ (parseMethodDescriptor yX0_digest.desc).map (fun d => d.parameters.length) = some 0 := by decide +kernel
set_option maxHeartbeats 4000000 in
set_option maxRecDepth 100000 in
theorem lpX0_dg1 {p : Program} {l : Launch} {e : Env} {s : State} {m : MethodId} {args : Array Value} {below : List Frame} {meth : Method} {c : Code} {Q : State → Prop} {D : va_G} {t : Nat → Nat} {A : Nat → Prop} {cI : ClassId} {o : Nat} {ad : Nat → Nat} {u : S0} {d : Int64} (C : gC p s m args meth c cX0_digest 5 RX0 D [(cI, .int)] t A) (hh : u.2.1 ≤ 8) (kk : ∀ (H : Heap) (locs : List Loc) (ls : Array Slot), va_P D vwCl (ra_w cI o ad u) H → va_D A (ra_w cI o ad u) → va_S A s.heap H locs → lv_has ls 5 [(0, .ref o), (1, .long (rf_dg (rf_cnt u) d 7)), (3, .int (nI 7))] → W p l e (rm_ 7 0 0 155) s m args below meth c H locs 0 0 Q (F0 m 31 ls [])) :
    ∀ (n i : Nat), i + n = 7 → ∀ (H : Heap) (locs : List Loc) (ls : Array Slot), va_P D vwCl (ra_w cI o ad u) H → va_D A (ra_w cI o ad u) → va_S A s.heap H locs → lv_has ls 5 [(0, .ref o), (1, .long (rf_dg (rf_cnt u) d i)), (3, .int (nI i))] → W p l e (rm_ 7 0 0 155) s m args below meth c H locs 0 0 Q (F0 m 6 ls []) := by
  have hx := C.1
  have hb := C.2.1
  have hown := C.2.2.2.1
  have hts := C.2.2.2.2.1
  intro n
  induction n with
  | zero =>
    intro i hi H locs ls hP hD hS hl
    have hiN : i = 7 := by omega
    refine lv_iload_n hx hb dX0_digest_6 rfl (lv_at hl 2 rfl) ?_
    refine lv_bipush (v := 7) hx hb dX0_digest_7 (by decide) ?_
    refine lv_icmp_ge (tgt := 31) hx hb dX0_digest_9 (by decide) (fun c1 => ?_) (fun c1 => absurd ((nI_leI (a := 7) (b := i) (by omega) (by omega)).mpr (by omega)) c1)
    subst hiN
    exact kk _ _ _ hP hD hS (lv_sub hl [0, 1, 2] rfl)
  | succ n ih =>
    intro i hi H locs ls hP hD hS hl
    have hin : i < 7 := by omega
    refine lv_iload_n hx hb dX0_digest_6 rfl (lv_at hl 2 rfl) ?_
    refine lv_bipush (v := 7) hx hb dX0_digest_7 (by decide) ?_
    refine lv_icmp_ge (tgt := 31) hx hb dX0_digest_9 (by decide) (fun c1 => absurd c1 (fun h9 => absurd ((nI_leI (a := 7) (b := i) (by omega) (by omega)).mp h9) (by omega))) (fun c1 => ?_)
    refine lv_lload_n hx hb dX0_digest_12 rfl (lv_at hl 1 rfl) ?_
    refine lv_ldc2 (v := 31) hx hb hown (hts _ q416) dX0_digest_13 ?_
    refine lv_lmul hx hb dX0_digest_16 ?_
    refine lv_aload_n hx hb dX0_digest_17 rfl (lv_at hl 0 rfl) ?_
    refine lv_iload_n hx hb dX0_digest_18 rfl (lv_at hl 2 rfl) ?_
    refine g_ci (wr := []) (cells' := 0) (slots' := 0) rfl rfl C rd_nil hD hS (g_runV (wr := []) (n := 1) C (mX0_count l D t cI o ad H.size u hh i (by omega)) (rw_V q417 q313 q314 q2 q315) kd_X0_count ⟨Nat.le_of_ble_eq_true rfl, Nat.le_of_ble_eq_true rfl⟩ (ci := 0) rfl rfl rfl C.2.2.2.2.2.1 hP hD hS hl.1 rfl rfl (Nat.le_of_ble_eq_true rfl) dX0_digest_19 ⟨Nat.le_of_ble_eq_true rfl, Nat.le_of_ble_eq_true rfl⟩) (fun v w' H locs hv _ _ hP hD hS => ?_)
    obtain ⟨rfl, rfl⟩ := hv
    have hD : va_D A (ra_w cI o ad u) := hD
    refine lv_i2l hx hb dX0_digest_22 rfl ?_
    refine lv_ladd hx hb dX0_digest_23 ?_
    refine lv_topl (fun v2 ev2 => ?_)
    refine lv_lstore_n (lv' := [(1, .long v2), (0, .ref o), (3, .int (nI i))]) hx hb dX0_digest_24 rfl hl (by decide) rfl (fun ls hl => ?_)
    refine lv_iinc (v := nI (i + 1)) (lv' := [(3, .int (nI (i + 1))), (1, .long v2), (0, .ref o)]) hx hb dX0_digest_25 hl (k := 2) rfl (nI_1 _) (by decide) rfl (fun ls hl => ?_)
    refine lv_goto (tgt := 6) hx hb dX0_digest_28 (by decide) ?_
    subst ev2
    exact ih (i + 1) (by omega) _ _ _ hP hD hS (lv_sub hl [2, 1, 0] rfl)
set_option maxHeartbeats 4000000 in
set_option maxRecDepth 100000 in
theorem lpX0_dg2 {p : Program} {l : Launch} {e : Env} {s : State} {m : MethodId} {args : Array Value} {below : List Frame} {meth : Method} {c : Code} {Q : State → Prop} {D : va_G} {t : Nat → Nat} {A : Nat → Prop} {cI : ClassId} {o : Nat} {ad : Nat → Nat} {u : S0} {d : Int64} (C : gC p s m args meth c cX0_digest 5 RX0 D [(cI, .int)] t A) (kk : ∀ (H : Heap) (locs : List Loc) (ls : Array Slot), va_P D vwCl (ra_w cI o ad u) H → va_D A (ra_w cI o ad u) → va_S A s.heap H locs → lv_has ls 5 [(0, .ref o), (1, .long (rf_dg (u.1 7) d 5)), (3, .int (nI 5))] → W p l e (rm_ 7 0 0 155) s m args below meth c H locs 0 0 Q (F0 m 58 ls [])) :
    ∀ (n i : Nat), i + n = 5 → ∀ (H : Heap) (locs : List Loc) (ls : Array Slot), va_P D vwCl (ra_w cI o ad u) H → va_D A (ra_w cI o ad u) → va_S A s.heap H locs → lv_has ls 5 [(0, .ref o), (1, .long (rf_dg (u.1 7) d i)), (3, .int (nI i))] → W p l e (rm_ 7 0 0 155) s m args below meth c H locs 0 0 Q (F0 m 33 ls []) := by
  have hx := C.1
  have hb := C.2.1
  have hown := C.2.2.2.1
  have hts := C.2.2.2.2.1
  intro n
  induction n with
  | zero =>
    intro i hi H locs ls hP hD hS hl
    have hiN : i = 5 := by omega
    refine lv_iload_n hx hb dX0_digest_33 rfl (lv_at hl 2 rfl) ?_
    refine lv_iconst (v := 5) hx hb dX0_digest_34 (by decide) ?_
    refine lv_icmp_ge (tgt := 58) hx hb dX0_digest_35 (by decide) (fun c1 => ?_) (fun c1 => absurd ((nI_leI (a := 5) (b := i) (by omega) (by omega)).mpr (by omega)) c1)
    subst hiN
    exact kk _ _ _ hP hD hS (lv_sub hl [0, 1, 2] rfl)
  | succ n ih =>
    intro i hi H locs ls hP hD hS hl
    have hin : i < 5 := by omega
    refine lv_iload_n hx hb dX0_digest_33 rfl (lv_at hl 2 rfl) ?_
    refine lv_iconst (v := 5) hx hb dX0_digest_34 (by decide) ?_
    refine lv_icmp_ge (tgt := 58) hx hb dX0_digest_35 (by decide) (fun c1 => absurd c1 (fun h9 => absurd ((nI_leI (a := 5) (b := i) (by omega) (by omega)).mp h9) (by omega))) (fun c1 => ?_)
    refine lv_lload_n hx hb dX0_digest_38 rfl (lv_at hl 1 rfl) ?_
    refine lv_ldc2 (v := 31) hx hb hown (hts _ q416) dX0_digest_39 ?_
    refine lv_lmul hx hb dX0_digest_42 ?_
    refine lv_aload_n hx hb dX0_digest_43 rfl (lv_at hl 0 rfl) ?_
    refine x0_gf C hP 7 (by decide) (v := .ref (ad 7)) rfl rfl q21 dX0_digest_44 ?_
    refine lv_iload_n hx hb dX0_digest_47 rfl (lv_at hl 2 rfl) ?_
    refine x0_ld C hP (k := 7) (i := i) (Or.inl (by decide)) hin rfl dX0_digest_48 ?_
    refine lv_i2l hx hb dX0_digest_49 rfl ?_
    refine lv_ladd hx hb dX0_digest_50 ?_
    refine lv_topl (fun v2 ev2 => ?_)
    refine lv_lstore_n (lv' := [(1, .long v2), (0, .ref o), (3, .int (nI i))]) hx hb dX0_digest_51 rfl hl (by decide) rfl (fun ls hl => ?_)
    refine lv_iinc (v := nI (i + 1)) (lv' := [(3, .int (nI (i + 1))), (1, .long v2), (0, .ref o)]) hx hb dX0_digest_52 hl (k := 2) rfl (nI_1 _) (by decide) rfl (fun ls hl => ?_)
    refine lv_goto (tgt := 33) hx hb dX0_digest_55 (by decide) ?_
    subst ev2
    exact ih (i + 1) (by omega) _ _ _ hP hD hS (lv_sub hl [2, 1, 0] rfl)
set_option maxHeartbeats 4000000 in
set_option maxRecDepth 100000 in
theorem lpX0_dg3 {p : Program} {l : Launch} {e : Env} {s : State} {m : MethodId} {args : Array Value} {below : List Frame} {meth : Method} {c : Code} {Q : State → Prop} {D : va_G} {t : Nat → Nat} {A : Nat → Prop} {cI : ClassId} {o : Nat} {ad : Nat → Nat} {u : S0} {d : Int64} (C : gC p s m args meth c cX0_digest 5 RX0 D [(cI, .int)] t A) (kk : ∀ (H : Heap) (locs : List Loc) (ls : Array Slot), va_P D vwCl (ra_w cI o ad u) H → va_D A (ra_w cI o ad u) → va_S A s.heap H locs → lv_has ls 5 [(0, .ref o), (1, .long (rf_dg (u.1 8) d 3)), (3, .int (nI 3))] → W p l e (rm_ 7 0 0 155) s m args below meth c H locs 0 0 Q (F0 m 85 ls [])) :
    ∀ (n i : Nat), i + n = 3 → ∀ (H : Heap) (locs : List Loc) (ls : Array Slot), va_P D vwCl (ra_w cI o ad u) H → va_D A (ra_w cI o ad u) → va_S A s.heap H locs → lv_has ls 5 [(0, .ref o), (1, .long (rf_dg (u.1 8) d i)), (3, .int (nI i))] → W p l e (rm_ 7 0 0 155) s m args below meth c H locs 0 0 Q (F0 m 60 ls []) := by
  have hx := C.1
  have hb := C.2.1
  have hown := C.2.2.2.1
  have hts := C.2.2.2.2.1
  intro n
  induction n with
  | zero =>
    intro i hi H locs ls hP hD hS hl
    have hiN : i = 3 := by omega
    refine lv_iload_n hx hb dX0_digest_60 rfl (lv_at hl 2 rfl) ?_
    refine lv_iconst (v := 3) hx hb dX0_digest_61 (by decide) ?_
    refine lv_icmp_ge (tgt := 85) hx hb dX0_digest_62 (by decide) (fun c1 => ?_) (fun c1 => absurd ((nI_leI (a := 3) (b := i) (by omega) (by omega)).mpr (by omega)) c1)
    subst hiN
    exact kk _ _ _ hP hD hS (lv_sub hl [0, 1, 2] rfl)
  | succ n ih =>
    intro i hi H locs ls hP hD hS hl
    have hin : i < 3 := by omega
    refine lv_iload_n hx hb dX0_digest_60 rfl (lv_at hl 2 rfl) ?_
    refine lv_iconst (v := 3) hx hb dX0_digest_61 (by decide) ?_
    refine lv_icmp_ge (tgt := 85) hx hb dX0_digest_62 (by decide) (fun c1 => absurd c1 (fun h9 => absurd ((nI_leI (a := 3) (b := i) (by omega) (by omega)).mp h9) (by omega))) (fun c1 => ?_)
    refine lv_lload_n hx hb dX0_digest_65 rfl (lv_at hl 1 rfl) ?_
    refine lv_ldc2 (v := 31) hx hb hown (hts _ q416) dX0_digest_66 ?_
    refine lv_lmul hx hb dX0_digest_69 ?_
    refine lv_aload_n hx hb dX0_digest_70 rfl (lv_at hl 0 rfl) ?_
    refine x0_gf C hP 8 (by decide) (v := .ref (ad 8)) rfl rfl q22 dX0_digest_71 ?_
    refine lv_iload_n hx hb dX0_digest_74 rfl (lv_at hl 2 rfl) ?_
    refine x0_ld C hP (k := 8) (i := i) (Or.inl (by decide)) hin rfl dX0_digest_75 ?_
    refine lv_i2l hx hb dX0_digest_76 rfl ?_
    refine lv_ladd hx hb dX0_digest_77 ?_
    refine lv_topl (fun v2 ev2 => ?_)
    refine lv_lstore_n (lv' := [(1, .long v2), (0, .ref o), (3, .int (nI i))]) hx hb dX0_digest_78 rfl hl (by decide) rfl (fun ls hl => ?_)
    refine lv_iinc (v := nI (i + 1)) (lv' := [(3, .int (nI (i + 1))), (1, .long v2), (0, .ref o)]) hx hb dX0_digest_79 hl (k := 2) rfl (nI_1 _) (by decide) rfl (fun ls hl => ?_)
    refine lv_goto (tgt := 60) hx hb dX0_digest_82 (by decide) ?_
    subst ev2
    exact ih (i + 1) (by omega) _ _ _ hP hD hS (lv_sub hl [2, 1, 0] rfl)
set_option maxHeartbeats 4000000 in
set_option maxRecDepth 100000 in
theorem lpX0_dg4 {p : Program} {l : Launch} {e : Env} {s : State} {m : MethodId} {args : Array Value} {below : List Frame} {meth : Method} {c : Code} {Q : State → Prop} {D : va_G} {t : Nat → Nat} {A : Nat → Prop} {cI : ClassId} {o : Nat} {ad : Nat → Nat} {u : S0} {d : Int64} {r : Nat} (C : gC p s m args meth c cX0_digest 5 RX0 D [(cI, .int)] t A) (hh : u.2.1 ≤ 8) (hr : r < u.2.1) (kk : ∀ (H : Heap) (locs : List Loc) (ls : Array Slot), va_P D vwCl (ra_w cI o ad u) H → va_D A (ra_w cI o ad u) → va_S A s.heap H locs → lv_has ls 5 [(0, .ref o), (1, .long (rf_dg (rf_told u r) d 8)), (3, .int (nI r)), (4, .int (nI 8))] → W p l e (rm_ 7 0 0 155) s m args below meth c H locs 0 0 Q (F0 m 126 ls [])) :
    ∀ (n i : Nat), i + n = 8 → ∀ (H : Heap) (locs : List Loc) (ls : Array Slot), va_P D vwCl (ra_w cI o ad u) H → va_D A (ra_w cI o ad u) → va_S A s.heap H locs → lv_has ls 5 [(0, .ref o), (1, .long (rf_dg (rf_told u r) d i)), (3, .int (nI r)), (4, .int (nI i))] → W p l e (rm_ 7 0 0 155) s m args below meth c H locs 0 0 Q (F0 m 98 ls []) := by
  have hx := C.1
  have hb := C.2.1
  have hown := C.2.2.2.1
  have hts := C.2.2.2.2.1
  intro n
  induction n with
  | zero =>
    intro i hi H locs ls hP hD hS hl
    have hiN : i = 8 := by omega
    refine lv_iload hx hb dX0_digest_98 (lv_at hl 3 rfl) ?_
    refine lv_bipush (v := 8) hx hb dX0_digest_100 (by decide) ?_
    refine lv_icmp_ge (tgt := 126) hx hb dX0_digest_102 (by decide) (fun c1 => ?_) (fun c1 => absurd ((nI_leI (a := 8) (b := i) (by omega) (by omega)).mpr (by omega)) c1)
    subst hiN
    exact kk _ _ _ hP hD hS (lv_sub hl [0, 1, 2, 3] rfl)
  | succ n ih =>
    intro i hi H locs ls hP hD hS hl
    have hin : i < 8 := by omega
    refine lv_iload hx hb dX0_digest_98 (lv_at hl 3 rfl) ?_
    refine lv_bipush (v := 8) hx hb dX0_digest_100 (by decide) ?_
    refine lv_icmp_ge (tgt := 126) hx hb dX0_digest_102 (by decide) (fun c1 => absurd c1 (fun h9 => absurd ((nI_leI (a := 8) (b := i) (by omega) (by omega)).mp h9) (by omega))) (fun c1 => ?_)
    refine lv_lload_n hx hb dX0_digest_105 rfl (lv_at hl 1 rfl) ?_
    refine lv_ldc2 (v := 31) hx hb hown (hts _ q416) dX0_digest_106 ?_
    refine lv_lmul hx hb dX0_digest_109 ?_
    refine lv_aload_n hx hb dX0_digest_110 rfl (lv_at hl 0 rfl) ?_
    refine lv_iload_n hx hb dX0_digest_111 rfl (lv_at hl 2 rfl) ?_
    refine lv_iload hx hb dX0_digest_112 (lv_at hl 3 rfl) ?_
    refine g_ci (wr := []) (cells' := 0) (slots' := 0) rfl rfl C rd_nil hD hS (g_runV (wr := []) (n := 2) C (mX0_told l D t cI o ad H.size u hh r (by omega) i (by omega)) (rw_V q418 q247 q248 q2 q249) kd_X0_told ⟨Nat.le_of_ble_eq_true rfl, Nat.le_of_ble_eq_true rfl⟩ (ci := 0) rfl rfl rfl C.2.2.2.2.2.1 hP hD hS hl.1 rfl rfl (Nat.le_of_ble_eq_true rfl) dX0_digest_114 ⟨Nat.le_of_ble_eq_true rfl, Nat.le_of_ble_eq_true rfl⟩) (fun v w' H locs hv _ _ hP hD hS => ?_)
    obtain ⟨rfl, rfl⟩ := hv
    have hD : va_D A (ra_w cI o ad u) := hD
    refine lv_i2l hx hb dX0_digest_117 rfl ?_
    refine lv_ladd hx hb dX0_digest_118 ?_
    refine lv_topl (fun v2 ev2 => ?_)
    refine lv_lstore_n (lv' := [(1, .long v2), (0, .ref o), (3, .int (nI r)), (4, .int (nI i))]) hx hb dX0_digest_119 rfl hl (by decide) rfl (fun ls hl => ?_)
    refine lv_iinc (v := nI (i + 1)) (lv' := [(4, .int (nI (i + 1))), (1, .long v2), (0, .ref o), (3, .int (nI r))]) hx hb dX0_digest_120 hl (k := 3) rfl (nI_1 _) (by decide) rfl (fun ls hl => ?_)
    refine lv_goto (tgt := 98) hx hb dX0_digest_123 (by decide) ?_
    subst ev2
    exact ih (i + 1) (by omega) _ _ _ hP hD hS (lv_sub hl [2, 1, 3, 0] rfl)
set_option maxHeartbeats 4000000 in
set_option maxRecDepth 100000 in
theorem lpX0_dg5 {p : Program} {l : Launch} {e : Env} {s : State} {m : MethodId} {args : Array Value} {below : List Frame} {meth : Method} {c : Code} {Q : State → Prop} {D : va_G} {t : Nat → Nat} {A : Nat → Prop} {cI : ClassId} {o : Nat} {ad : Nat → Nat} {u : S0} {d : Int64} {r : Nat} (C : gC p s m args meth c cX0_digest 5 RX0 D [(cI, .int)] t A) (hh : u.2.1 ≤ 8) (hr : r < u.2.1) (kk : ∀ (H : Heap) (locs : List Loc) (ls : Array Slot), va_P D vwCl (ra_w cI o ad u) H → va_D A (ra_w cI o ad u) → va_S A s.heap H locs → lv_has ls 5 [(0, .ref o), (1, .long (rf_dg (rf_wage u r) d 6)), (3, .int (nI r)), (4, .int (nI 6))] → W p l e (rm_ 7 0 0 155) s m args below meth c H locs 0 0 Q (F0 m 157 ls [])) :
    ∀ (n i : Nat), i + n = 6 → ∀ (H : Heap) (locs : List Loc) (ls : Array Slot), va_P D vwCl (ra_w cI o ad u) H → va_D A (ra_w cI o ad u) → va_S A s.heap H locs → lv_has ls 5 [(0, .ref o), (1, .long (rf_dg (rf_wage u r) d i)), (3, .int (nI r)), (4, .int (nI i))] → W p l e (rm_ 7 0 0 155) s m args below meth c H locs 0 0 Q (F0 m 129 ls []) := by
  have hx := C.1
  have hb := C.2.1
  have hown := C.2.2.2.1
  have hts := C.2.2.2.2.1
  intro n
  induction n with
  | zero =>
    intro i hi H locs ls hP hD hS hl
    have hiN : i = 6 := by omega
    refine lv_iload hx hb dX0_digest_129 (lv_at hl 3 rfl) ?_
    refine lv_bipush (v := 6) hx hb dX0_digest_131 (by decide) ?_
    refine lv_icmp_ge (tgt := 157) hx hb dX0_digest_133 (by decide) (fun c1 => ?_) (fun c1 => absurd ((nI_leI (a := 6) (b := i) (by omega) (by omega)).mpr (by omega)) c1)
    subst hiN
    exact kk _ _ _ hP hD hS (lv_sub hl [0, 1, 2, 3] rfl)
  | succ n ih =>
    intro i hi H locs ls hP hD hS hl
    have hin : i < 6 := by omega
    refine lv_iload hx hb dX0_digest_129 (lv_at hl 3 rfl) ?_
    refine lv_bipush (v := 6) hx hb dX0_digest_131 (by decide) ?_
    refine lv_icmp_ge (tgt := 157) hx hb dX0_digest_133 (by decide) (fun c1 => absurd c1 (fun h9 => absurd ((nI_leI (a := 6) (b := i) (by omega) (by omega)).mp h9) (by omega))) (fun c1 => ?_)
    refine lv_lload_n hx hb dX0_digest_136 rfl (lv_at hl 1 rfl) ?_
    refine lv_ldc2 (v := 31) hx hb hown (hts _ q416) dX0_digest_137 ?_
    refine lv_lmul hx hb dX0_digest_140 ?_
    refine lv_aload_n hx hb dX0_digest_141 rfl (lv_at hl 0 rfl) ?_
    refine lv_iload_n hx hb dX0_digest_142 rfl (lv_at hl 2 rfl) ?_
    refine lv_iload hx hb dX0_digest_143 (lv_at hl 3 rfl) ?_
    refine g_ci (wr := []) (cells' := 0) (slots' := 0) rfl rfl C rd_nil hD hS (g_runV (wr := []) (n := 2) C (mX0_wage l D t cI o ad H.size u hh r (by omega) i (by omega)) (rw_V q419 q262 q263 q2 q264) kd_X0_wage ⟨Nat.le_of_ble_eq_true rfl, Nat.le_of_ble_eq_true rfl⟩ (ci := 0) rfl rfl rfl C.2.2.2.2.2.1 hP hD hS hl.1 rfl rfl (Nat.le_of_ble_eq_true rfl) dX0_digest_145 ⟨Nat.le_of_ble_eq_true rfl, Nat.le_of_ble_eq_true rfl⟩) (fun v w' H locs hv _ _ hP hD hS => ?_)
    obtain ⟨rfl, rfl⟩ := hv
    have hD : va_D A (ra_w cI o ad u) := hD
    refine lv_i2l hx hb dX0_digest_148 rfl ?_
    refine lv_ladd hx hb dX0_digest_149 ?_
    refine lv_topl (fun v2 ev2 => ?_)
    refine lv_lstore_n (lv' := [(1, .long v2), (0, .ref o), (3, .int (nI r)), (4, .int (nI i))]) hx hb dX0_digest_150 rfl hl (by decide) rfl (fun ls hl => ?_)
    refine lv_iinc (v := nI (i + 1)) (lv' := [(4, .int (nI (i + 1))), (1, .long v2), (0, .ref o), (3, .int (nI r))]) hx hb dX0_digest_151 hl (k := 3) rfl (nI_1 _) (by decide) rfl (fun ls hl => ?_)
    refine lv_goto (tgt := 129) hx hb dX0_digest_154 (by decide) ?_
    subst ev2
    exact ih (i + 1) (by omega) _ _ _ hP hD hS (lv_sub hl [2, 1, 3, 0] rfl)
set_option maxHeartbeats 4000000 in
set_option maxRecDepth 100000 in
theorem lpX0_dg6 {p : Program} {l : Launch} {e : Env} {s : State} {m : MethodId} {args : Array Value} {below : List Frame} {meth : Method} {c : Code} {Q : State → Prop} {D : va_G} {t : Nat → Nat} {A : Nat → Prop} {cI : ClassId} {o : Nat} {ad : Nat → Nat} {u : S0} {d : Int64} {r : Nat} (C : gC p s m args meth c cX0_digest 5 RX0 D [(cI, .int)] t A) (hh : u.2.1 ≤ 8) (hr : r < u.2.1) (kk : ∀ (H : Heap) (locs : List Loc) (ls : Array Slot), va_P D vwCl (ra_w cI o ad ((rf_dc u r d 3).2)) H → va_D A (ra_w cI o ad ((rf_dc u r d 3).2)) → va_S A s.heap H locs → lv_has ls 5 [(0, .ref o), (1, .long ((rf_dc u r d 3).1)), (3, .int (nI r)), (4, .int (nI 3))] → W p l e (rm_ 7 0 0 155) s m args below meth c H locs 0 0 Q (F0 m 187 ls [])) :
    ∀ (n i : Nat), i + n = 3 → ∀ (H : Heap) (locs : List Loc) (ls : Array Slot), va_P D vwCl (ra_w cI o ad ((rf_dc u r d i).2)) H → va_D A (ra_w cI o ad ((rf_dc u r d i).2)) → va_S A s.heap H locs → lv_has ls 5 [(0, .ref o), (1, .long ((rf_dc u r d i).1)), (3, .int (nI r)), (4, .int (nI i))] → W p l e (rm_ 7 0 0 155) s m args below meth c H locs 0 0 Q (F0 m 160 ls []) := by
  have hx := C.1
  have hb := C.2.1
  have hown := C.2.2.2.1
  have hts := C.2.2.2.2.1
  intro n
  induction n with
  | zero =>
    intro i hi H locs ls hP hD hS hl
    have hiN : i = 3 := by omega
    refine lv_iload hx hb dX0_digest_160 (lv_at hl 3 rfl) ?_
    refine lv_iconst (v := 3) hx hb dX0_digest_162 (by decide) ?_
    refine lv_icmp_ge (tgt := 187) hx hb dX0_digest_163 (by decide) (fun c1 => ?_) (fun c1 => absurd ((nI_leI (a := 3) (b := i) (by omega) (by omega)).mpr (by omega)) c1)
    subst hiN
    exact kk _ _ _ hP hD hS (lv_sub hl [0, 1, 2, 3] rfl)
  | succ n ih =>
    intro i hi H locs ls hP hD hS hl
    have hin : i < 3 := by omega
    have hh9 : (rf_dc u r d i).2.2.1 ≤ 8 := by rw [rf_dc2]; exact hh
    have hr9 : r < (rf_dc u r d i).2.2.1 := by rw [rf_dc2]; exact hr
    refine lv_iload hx hb dX0_digest_160 (lv_at hl 3 rfl) ?_
    refine lv_iconst (v := 3) hx hb dX0_digest_162 (by decide) ?_
    refine lv_icmp_ge (tgt := 187) hx hb dX0_digest_163 (by decide) (fun c1 => absurd c1 (fun h9 => absurd ((nI_leI (a := 3) (b := i) (by omega) (by omega)).mp h9) (by omega))) (fun c1 => ?_)
    refine lv_lload_n hx hb dX0_digest_166 rfl (lv_at hl 1 rfl) ?_
    refine lv_ldc2 (v := 31) hx hb hown (hts _ q416) dX0_digest_167 ?_
    refine lv_lmul hx hb dX0_digest_170 ?_
    refine lv_aload_n hx hb dX0_digest_171 rfl (lv_at hl 0 rfl) ?_
    refine lv_iload_n hx hb dX0_digest_172 rfl (lv_at hl 2 rfl) ?_
    refine lv_iload hx hb dX0_digest_173 (lv_at hl 3 rfl) ?_
    refine g_ci (wr := []) (cells' := 0) (slots' := 0) rfl rfl C rd_nil hD hS (g_runV (wr := []) (n := 2) C (mX0_coins l D t cI o ad H.size ((rf_dc u r d i).2) hh9 r (by omega) i (by omega)) (rw_V q420 q292 q293 q2 q294) kd_X0_coins ⟨Nat.le_of_ble_eq_true rfl, Nat.le_of_ble_eq_true rfl⟩ (ci := 0) rfl rfl rfl C.2.2.2.2.2.1 hP hD hS hl.1 rfl rfl (Nat.le_of_ble_eq_true rfl) dX0_digest_175 ⟨Nat.le_of_ble_eq_true rfl, Nat.le_of_ble_eq_true rfl⟩) (fun v w' H locs hv _ _ hP hD hS => ?_)
    obtain ⟨rfl, rfl⟩ := hv
    have hD : va_D A (ra_w cI o ad (rf_cs ((rf_dc u r d i).2) r)) := hD
    obtain ⟨u2, eu2⟩ : ∃ z : S0, z = rf_cs ((rf_dc u r d i).2) r := ⟨_, rfl⟩
    have hP : va_P D vwCl (ra_w cI o ad u2) H := by rw [eu2]; exact hP
    have hD : va_D A (ra_w cI o ad u2) := by rw [eu2]; exact hD
    refine lv_i2l hx hb dX0_digest_178 rfl ?_
    refine lv_ladd hx hb dX0_digest_179 ?_
    refine lv_topl (fun v3 ev3 => ?_)
    refine lv_lstore_n (lv' := [(1, .long v3), (0, .ref o), (3, .int (nI r)), (4, .int (nI i))]) hx hb dX0_digest_180 rfl hl (by decide) rfl (fun ls hl => ?_)
    refine lv_iinc (v := nI (i + 1)) (lv' := [(4, .int (nI (i + 1))), (1, .long v3), (0, .ref o), (3, .int (nI r))]) hx hb dX0_digest_181 hl (k := 3) rfl (nI_1 _) (by decide) rfl (fun ls hl => ?_)
    refine lv_goto (tgt := 160) hx hb dX0_digest_184 (by decide) ?_
    subst ev3; subst eu2
    exact ih (i + 1) (by omega) _ _ _ hP hD hS (lv_sub hl [2, 1, 3, 0] rfl)
set_option maxHeartbeats 4000000 in
set_option maxRecDepth 100000 in
theorem lpX0_dg7 {p : Program} {l : Launch} {e : Env} {s : State} {m : MethodId} {args : Array Value} {below : List Frame} {meth : Method} {c : Code} {Q : State → Prop} {D : va_G} {t : Nat → Nat} {A : Nat → Prop} {cI : ClassId} {o : Nat} {ad : Nat → Nat} {u : S0} {d : Int64} (C : gC p s m args meth c cX0_digest 5 RX0 D [(cI, .int)] t A) (hh : u.2.1 ≤ 8) (kk : ∀ (H : Heap) (locs : List Loc) (ls : Array Slot), va_P D vwCl (ra_w cI o ad ((rf_dr u d u.2.1).2)) H → va_D A (ra_w cI o ad ((rf_dr u d u.2.1).2)) → va_S A s.heap H locs → lv_has ls 5 [(0, .ref o), (1, .long ((rf_dr u d u.2.1).1)), (3, .int (nI u.2.1))] → W p l e (rm_ 7 0 0 155) s m args below meth c H locs 0 0 Q (F0 m 193 ls [])) :
    ∀ (n i : Nat), i + n = u.2.1 → ∀ (H : Heap) (locs : List Loc) (ls : Array Slot), va_P D vwCl (ra_w cI o ad ((rf_dr u d i).2)) H → va_D A (ra_w cI o ad ((rf_dr u d i).2)) → va_S A s.heap H locs → lv_has ls 5 [(0, .ref o), (1, .long ((rf_dr u d i).1)), (3, .int (nI i))] → W p l e (rm_ 7 0 0 155) s m args below meth c H locs 0 0 Q (F0 m 87 ls []) := by
  have hx := C.1
  have hb := C.2.1
  have hown := C.2.2.2.1
  have hts := C.2.2.2.2.1
  intro n
  induction n with
  | zero =>
    intro i hi H locs ls hP hD hS hl
    have hiN : i = u.2.1 := by omega
    refine lv_iload_n hx hb dX0_digest_87 rfl (lv_at hl 2 rfl) ?_
    refine lv_aload_n hx hb dX0_digest_88 rfl (lv_at hl 0 rfl) ?_
    refine x0_gf C hP 9 (by decide) (v := .int (nI (((rf_dr u d i).2).2.1))) rfl rfl q44 dX0_digest_89 ?_
    refine g_top (congrArg (fun z => nI z.1) (rf_dr2 u d i)) ?_
    refine lv_icmp_ge (tgt := 193) hx hb dX0_digest_92 (by decide) (fun c1 => ?_) (fun c1 => absurd ((nI_leI (a := u.2.1) (b := i) (by omega) (by omega)).mpr (by omega)) c1)
    subst hiN
    exact kk _ _ _ hP hD hS (lv_sub hl [0, 1, 2] rfl)
  | succ n ih =>
    intro i hi H locs ls hP hD hS hl
    have hin : i < u.2.1 := by omega
    have hh9 : (rf_dr u d i).2.2.1 ≤ 8 := by rw [rf_dr2]; exact hh
    have hr9 : i < (rf_dr u d i).2.2.1 := by rw [rf_dr2]; exact hin
    refine lv_iload_n hx hb dX0_digest_87 rfl (lv_at hl 2 rfl) ?_
    refine lv_aload_n hx hb dX0_digest_88 rfl (lv_at hl 0 rfl) ?_
    refine x0_gf C hP 9 (by decide) (v := .int (nI (((rf_dr u d i).2).2.1))) rfl rfl q44 dX0_digest_89 ?_
    refine g_top (congrArg (fun z => nI z.1) (rf_dr2 u d i)) ?_
    refine lv_icmp_ge (tgt := 193) hx hb dX0_digest_92 (by decide) (fun c1 => absurd c1 (fun h9 => absurd ((nI_leI (a := u.2.1) (b := i) (by omega) (by omega)).mp h9) (by omega))) (fun c1 => ?_)
    refine lv_iconst (v := 0) hx hb dX0_digest_95 (by decide) ?_
    refine lv_istore (lv' := [(4, .int 0), (0, .ref o), (1, .long ((rf_dr u d i).1)), (3, .int (nI i))]) hx hb dX0_digest_96 hl (by decide) rfl (fun ls hl => ?_)
    refine lpX0_dg4 (u := (rf_dr u d i).2) (d := (rf_dr u d i).1) (r := i) C hh9 hr9 (fun H locs ls hP hD hS hl => ?_) 8 0 (by omega) _ _ _ hP hD hS (lv_sub hl [1, 2, 3, 0] rfl)
    refine lv_iconst (v := 0) hx hb dX0_digest_126 (by decide) ?_
    refine lv_istore (lv' := [(4, .int 0), (0, .ref o), (1, .long (rf_dg (rf_told (rf_dr u d i).2 i) (rf_dr u d i).1 8)), (3, .int (nI i))]) hx hb dX0_digest_127 hl (by decide) rfl (fun ls hl => ?_)
    refine lpX0_dg5 (u := (rf_dr u d i).2) (d := rf_dg (rf_told (rf_dr u d i).2 i) (rf_dr u d i).1 8) (r := i) C hh9 hr9 (fun H locs ls hP hD hS hl => ?_) 6 0 (by omega) _ _ _ hP hD hS (lv_sub hl [1, 2, 3, 0] rfl)
    refine lv_iconst (v := 0) hx hb dX0_digest_157 (by decide) ?_
    refine lv_istore (lv' := [(4, .int 0), (0, .ref o), (1, .long (rf_dg (rf_wage (rf_dr u d i).2 i) (rf_dg (rf_told (rf_dr u d i).2 i) (rf_dr u d i).1 8) 6)), (3, .int (nI i))]) hx hb dX0_digest_158 hl (by decide) rfl (fun ls hl => ?_)
    refine lpX0_dg6 (u := (rf_dr u d i).2) (d := rf_dg (rf_wage (rf_dr u d i).2 i) (rf_dg (rf_told (rf_dr u d i).2 i) (rf_dr u d i).1 8) 6) (r := i) C hh9 hr9 (fun H locs ls hP hD hS hl => ?_) 3 0 (by omega) _ _ _ hP hD hS (lv_sub hl [1, 2, 3, 0] rfl)
    refine lv_iinc (v := nI (i + 1)) (lv' := [(3, .int (nI (i + 1))), (0, .ref o), (1, .long ((rf_dc (rf_dr u d i).2 i (rf_dg (rf_wage (rf_dr u d i).2 i) (rf_dg (rf_told (rf_dr u d i).2 i) (rf_dr u d i).1 8) 6) 3).1)), (4, .int (nI 3))]) hx hb dX0_digest_187 hl (k := 2) rfl (nI_1 _) (by decide) rfl (fun ls hl => ?_)
    refine lv_goto (tgt := 87) hx hb dX0_digest_190 (by decide) ?_
    exact ih (i + 1) (by omega) _ _ _ hP hD hS (lv_sub hl [1, 2, 0] rfl)
set_option maxHeartbeats 4000000 in
set_option maxRecDepth 100000 in
theorem mX0_digest (l : Launch) (D : va_G) (t : Nat → Nat) (cI : ClassId) (o : Nat) (ad : Nat → Nat) (sz : Nat) (u : S0) (hh : u.2.1 ≤ 8) : gMl l yX0_digest (rw_ yX0_digest cX0_digest 5 (some .long)) (rm_ 7 0 0 155) [.ref o] D [(cI, .int)] t (ra_w cI o ad u) sz (fun v w' => v = (rf_dr u (rf_d0 u) u.2.1).1 ∧ w' = ra_w cI o ad ((rf_dr u (rf_d0 u) u.2.1).2)) := by
  refine g_of (cc := cX0_digest) (nL := 5) (rt := (some .long)) (Q := fun A => va_Ql _ (fun w' U => gQ D A w' U) A) (by decide) (Nat.le_of_ble_eq_true rfl) (fun p e s m args below meth c A ls H C hrt hnm hS hP hD hl => ?_)
  have hx := C.1
  have hb := C.2.1
  have hown := C.2.2.2.1
  have hts := C.2.2.2.2.1
  have hl : lv_has ls 5 [(0, .ref o)] := hl
  refine lv_ldc2 (v := 1657) hx hb hown (hts _ q415) dX0_digest_0 ?_
  refine lv_lstore_n (lv' := [(1, .long 1657), (0, .ref o)]) hx hb dX0_digest_3 rfl hl (by decide) rfl (fun ls hl => ?_)
  refine lv_iconst (v := 0) hx hb dX0_digest_4 (by decide) ?_
  refine lv_istore_n (lv' := [(3, .int 0), (1, .long 1657), (0, .ref o)]) hx hb dX0_digest_5 rfl hl (by decide) rfl (fun ls hl => ?_)
  refine lpX0_dg1 (d := 1657) C hh (fun H locs ls hP hD hS hl => ?_) 7 0 (by omega) _ _ _ hP hD hS (lv_sub hl [2, 1, 0] rfl)
  refine lv_iconst (v := 0) hx hb dX0_digest_31 (by decide) ?_
  refine lv_istore_n (lv' := [(3, .int 0), (0, .ref o), (1, .long (rf_dg (rf_cnt u) 1657 7))]) hx hb dX0_digest_32 rfl hl (by decide) rfl (fun ls hl => ?_)
  refine lpX0_dg2 (d := rf_dg (rf_cnt u) 1657 7) C  (fun H locs ls hP hD hS hl => ?_) 5 0 (by omega) _ _ _ hP hD hS (lv_sub hl [1, 2, 0] rfl)
  refine lv_iconst (v := 0) hx hb dX0_digest_58 (by decide) ?_
  refine lv_istore_n (lv' := [(3, .int 0), (0, .ref o), (1, .long (rf_dg (u.1 7) (rf_dg (rf_cnt u) 1657 7) 5))]) hx hb dX0_digest_59 rfl hl (by decide) rfl (fun ls hl => ?_)
  refine lpX0_dg3 (d := rf_dg (u.1 7) (rf_dg (rf_cnt u) 1657 7) 5) C  (fun H locs ls hP hD hS hl => ?_) 3 0 (by omega) _ _ _ hP hD hS (lv_sub hl [1, 2, 0] rfl)
  refine lv_iconst (v := 0) hx hb dX0_digest_85 (by decide) ?_
  refine lv_istore_n (lv' := [(3, .int 0), (0, .ref o), (1, .long (rf_d0 u))]) hx hb dX0_digest_86 rfl hl (by decide) rfl (fun ls hl => ?_)
  refine lpX0_dg7 (d := rf_d0 u) C hh (fun H locs ls hP hD hS hl => ?_) u.2.1 0 (by omega) _ _ _ hP hD hS (lv_sub hl [1, 2, 0] rfl)
  refine lv_lload_n hx hb dX0_digest_193 rfl (lv_at hl 1 rfl) ?_
  exact g_lret C hrt hP hD hS dX0_digest_194 ⟨by skip; rfl, by skip; rfl⟩
