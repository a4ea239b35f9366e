/-! WHAT THE CLASS'S METHODS ANSWER, as functions of its state (32-bit numbers, wraps and all) -/
def rf_wp (n d : Int32) : Int32 := if 1 ≤ d then n / d else 0
def rf_hc (u : S0) (r : Nat) : Int32 := rf_max 0 (u.1 2 r - (u.1 3 r + 1) / 2) + rf_max 0 (rf_max 0 (u.1 2 r - (u.1 3 r + 1) / 2) - 60) / 2
def rf_pc (u : S0) (k r : Nat) : Int32 := u.1 k 0 * rf_min (u.1 1 r) (u.1 k 2) / 10 + Int64.toInt32 (Int32.toInt64 (u.1 k 0) * Int32.toInt64 (u.1 1 r - rf_min (u.1 1 r) (u.1 k 2)) * Int32.toInt64 (100 + u.1 k 3) / 1000)
def rf_hw (u : S0) (k r : Nat) : Int32 := u.1 k 1 * rf_hc u r
def rf_ww (u : S0) (k r : Nat) : Int32 := if u.1 0 r = 0 then rf_pc u k r else if u.1 0 r = 1 then rf_hw u k r else rf_max (rf_pc u k r) (rf_hw u k r)
def rf_cm (u : S0) (r : Nat) : Int32 := rf_ww u 7 r + u.1 5 r
def rf_tb (u : S0) (debt coming : Int32) : Int32 := rf_min debt (rf_wp coming (u.1 7 4))
def rf_re (u : S0) (r : Nat) : Int32 := rf_cm u r - rf_tb u (u.1 4 r) (rf_cm u r)
/-- one coin handed out of the row k: what is left, the state -/
def rf_hm (k : Nat) (x : Int32 × S0) (c : Nat) : Int32 := rf_min (rf_wp x.1 (rt_RX0_COIN_WORTH c)) (x.2.1 k c)
def rf_h1 (k : Nat) (x : Int32 × S0) (c : Nat) : Int32 × S0 := (x.1 - rf_hm k x c * rt_RX0_COIN_WORTH c, ra_s (ra_s x.2 k c (x.2.1 k c - rf_hm k x c)) 13 c (rf_hm k x c))
def rf_ho (u : S0) (k : Nat) (sum : Int32) : Nat → Int32 × S0
  | 0 => (sum, u)
  | c + 1 => rf_h1 k (rf_ho u k sum c) c
def rf_hs (u : S0) (k : Nat) (sum : Int32) : S0 := (rf_ho u k sum 3).2
def rf_hv (u : S0) (k : Nat) (sum : Int32) : Int32 := sum - (rf_ho u k sum 3).1
def rf_sm (f : Nat → Int32) : Nat → Int32
  | 0 => 0
  | n + 1 => rf_sm f n + f n
def rf_cp (u : S0) (k1 k2 : Nat) : Nat → S0
  | 0 => u
  | i + 1 => ra_s (rf_cp u k1 k2 i) k2 i ((rf_cp u k1 k2 i).1 k1 i)
/-- a reaper is paid -/
def rf_tk (u : S0) (r : Nat) : Int32 := rf_tb u (u.1 4 r) (rf_cm u r)
def rf_sv (u : S0) (r : Nat) : Int32 := rf_hv u 8 (rf_cm u r - rf_tk u r)
def rf_s1 (u : S0) (r : Nat) : S0 := ra_s (rf_hs u 8 (rf_cm u r - rf_tk u r)) 4 r ((rf_hs u 8 (rf_cm u r - rf_tk u r)).1 4 r - rf_tk u r)
def rf_s2 (u : S0) (r : Nat) : S0 := ra_s (rf_s1 u r) 5 r (rf_cm u r - rf_tk u r - rf_sv u r)
def rf_s3 (u : S0) (r : Nat) : S0 := ra_s (rf_s2 u r) 6 r ((rf_s2 u r).1 6 r + rf_sv u r)
def rf_st (u : S0) (r : Nat) : S0 := ra_s (ra_s (ra_s (rf_s3 u r) 1 r 0) 2 r 0) 3 r 0
def rf_py (u : S0) : Nat → Int32 × S0
  | 0 => (0, u)
  | i + 1 => ((rf_py u i).1 + rf_sv (rf_py u i).2 i, rf_st (rf_py u i).2 i)
def rf_ci (u : S0) : Nat → S0
  | 0 => u
  | i + 1 => rf_hs (rf_ci u i) 12 (rf_re (rf_ci u i) i)
def rf_lk (u : S0) : Nat → Int32 × S0
  | 0 => (0, u)
  | i + 1 => ((rf_lk u i).1 + (rf_re (rf_lk u i).2 i - rf_hv (rf_lk u i).2 12 (rf_re (rf_lk u i).2 i)) / 4, rf_hs (rf_lk u i).2 12 (rf_re (rf_lk u i).2 i))
def rf_co (u : S0) (r c : Nat) : Int32 := (rf_ci (rf_cp u 8 12 3) (r + 1)).1 13 c
def rf_told (u : S0) (r : Nat) (k : Nat) : Int32 := if k < 7 then u.1 k r else rf_hc u r
def rf_wage (u : S0) (r : Nat) (k : Nat) : Int32 := match k with
  | 0 => rf_pc u 7 r
  | 1 => rf_hw u 7 r
  | 2 => rf_ww u 7 r
  | 3 => rf_cm u r
  | 4 => rf_tb u (u.1 4 r) (rf_cm u r)
  | _ => rf_re u r
def rf_cnt (u : S0) (k : Nat) : Int32 := match k with
  | 0 => u.2.2
  | 1 => nI u.2.1
  | 2 => rf_sm (u.1 4) u.2.1
  | 3 => rf_sm (u.1 5) u.2.1
  | 4 => rf_sm (fun c => u.1 8 c * rt_RX0_COIN_WORTH c) 3
  | 5 => rf_sm (rf_ww u 7) u.2.1
  | _ => rf_sm (u.1 6) u.2.1
def rf_uL (u : S0) : Nat → Int64 × Int64
  | 0 => (0, 0)
  | i + 1 => ((rf_uL u i).1 + Int32.toInt64 (rf_hc u i), (rf_uL u i).2 + Int32.toInt64 (rf_pc u 7 i))
/-- the best rate by hours of those below 2 + n -/
def rf_ad (hs ps : Int64) : Nat → Int32
  | 0 => 1
  | n + 1 => if 0 ≤ lg_cmp (rf_absL (Int32.toInt64 (nI (n + 2)) * hs - ps)) (rf_absL (Int32.toInt64 (rf_ad hs ps n) * hs - ps)) then rf_ad hs ps n else nI (n + 2)
/-- weeks: the debt and what comes at the start of the week n + 1, while it goes on -/
def rf_un (u : S0) (r : Nat) : Nat → Int32 × Int32
  | 0 => (u.1 4 r, rf_cm u r)
  | n + 1 => ((rf_un u r n).1 - rf_tb u (rf_un u r n).1 (rf_un u r n).2, rf_ww u 7 r)
/-- n weeks are left to look at, i are past -/
def rf_uf (u : S0) (r : Nat) : Nat → Nat → Int32
  | 0, _ => -1
  | n + 1, i => if (rf_un u r (i + 1)).1 = 0 then nI (i + 1) else rf_uf u r n (i + 1)
def rf_dg (f : Nat → Int32) (d : Int64) : Nat → Int64
  | 0 => d
  | n + 1 => rf_dg f d n * 31 + Int32.toInt64 (f n)
def rf_cs (u : S0) (r : Nat) : S0 := rf_ci (rf_cp u 8 12 3) (r + 1)
def rf_dc (u : S0) (r : Nat) (d : Int64) : Nat → Int64 × S0
  | 0 => (d, u)
  | c + 1 => ((rf_dc u r d c).1 * 31 + Int32.toInt64 (rf_co (rf_dc u r d c).2 r c), rf_cs (rf_dc u r d c).2 r)
def rf_d1 (u : S0) (r : Nat) (d : Int64) : Int64 × S0 := rf_dc u r (rf_dg (rf_wage u r) (rf_dg (rf_told u r) d 8) 6) 3
def rf_dr (u : S0) (d : Int64) : Nat → Int64 × S0
  | 0 => (d, u)
  | i + 1 => rf_d1 (rf_dr u d i).2 i (rf_dr u d i).1
def rf_d0 (u : S0) : Int64 := rf_dg (u.1 8) (rf_dg (u.1 7) (rf_dg (rf_cnt u) 1657 7) 5) 3
def rf_wd (u : S0) (k : Nat) (x : Int32) : S0 := ra_s (rf_cp u 7 11 5) 11 k x
def rf_wk (u : S0) (r : Nat) (x b : Int32) : S0 := if b = 0 then ra_s u 2 r (u.1 2 r + x) else ra_s (ra_s u 2 r (u.1 2 r + x)) 3 r ((ra_s u 2 r (u.1 2 r + x)).1 3 r + 1)
theorem rf_hs2 (u : S0) (k : Nat) (x : Int32) : (rf_hs u k x).2 = u.2 := rfl
theorem rf_st2 (u : S0) (r : Nat) : (rf_st u r).2 = u.2 := rfl
theorem rf_cp2 (u : S0) (a b : Nat) : ∀ n, (rf_cp u a b n).2 = u.2
  | 0 => rfl
  | n + 1 => rf_cp2 u a b n
theorem rf_py2 (u : S0) : ∀ i, (rf_py u i).2.2 = u.2
  | 0 => rfl
  | i + 1 => rf_py2 u i
theorem rf_ci2 (u : S0) : ∀ i, (rf_ci u i).2 = u.2
  | 0 => rfl
  | i + 1 => rf_ci2 u i
theorem rf_lk2 (u : S0) : ∀ i, (rf_lk u i).2.2 = u.2
  | 0 => rfl
  | i + 1 => rf_lk2 u i
theorem rf_cs2 (u : S0) (r : Nat) : (rf_cs u r).2 = u.2 := (rf_ci2 _ _).trans (rf_cp2 u 8 12 3)
theorem rf_dc2 (u : S0) (r : Nat) (d : Int64) : ∀ n, (rf_dc u r d n).2.2 = u.2
  | 0 => rfl
  | n + 1 => (rf_cs2 _ r).trans (rf_dc2 u r d n)
theorem rf_dr2 (u : S0) (d : Int64) : ∀ n, (rf_dr u d n).2.2 = u.2
  | 0 => rfl
  | n + 1 => (rf_dc2 _ _ _ _).trans (rf_dr2 u d n)
def rf_until (u : S0) (r : Nat) : Int32 := if u.1 4 r = 0 then 0 else rf_uf u r 99 0
def rf_advise (u : S0) : Int32 := rf_ad (rf_uL u u.2.1).1 (rf_uL u u.2.1).2 98
theorem kd_X0_wholeParts : yX0_wholeParts.cls ≠ "java/lang/invoke/MethodHandle" ∧ yX0_wholeParts.cls ≠ "java/lang/invoke/VarHandle" ∧ (parseMethodDescriptor yX0_wholeParts.desc).map (fun d => d.parameters.length) = some 2 := by decide +kernel
set_option maxHeartbeats 4000000 in
set_option maxRecDepth 100000 in
/-- wholeParts -/
theorem mX0_wholeParts (l : Launch) (D : va_G) (t : Nat → Nat) (ty : List (ClassId × FieldType)) (w : va_W) (sz : Nat) (x0 x1 : Int32) : gMi l yX0_wholeParts (rw_ yX0_wholeParts cX0_wholeParts 2 (some .int)) (rm_ 0 0 0 0) [.int x0, .int x1] D ty t (w) sz (fun v w' => v = rf_wp x0 x1 ∧ w' = w) := by
  refine g_of (cc := cX0_wholeParts) (nL := 2) (rt := (some .int)) (Q := fun A => va_Qi _ (fun w' U => gQ D A w' U) A) (by decide) (Nat.le_of_ble_eq_true rfl) (fun p e s m args below meth c A ls H C hrt hnm hS hP hD hl => ?_)
  have hx := C.1
  have hb := C.2.1
  have hown := C.2.2.2.1
  have hts := C.2.2.2.2.1
  have hl : lv_has ls 2 [(0, .int x0), (1, .int x1)] := hl
  refine lv_iload_n hx hb dX0_wholeParts_0 rfl (lv_at hl 1 rfl) ?_
  refine lv_iconst (v := 1) hx hb dX0_wholeParts_1 (by decide) ?_
  refine lv_icmp_ge (tgt := 9) hx hb dX0_wholeParts_2 (by decide) (fun c1 => ?_) (fun c1 => ?_)
  · refine lv_iload_n hx hb dX0_wholeParts_9 rfl (lv_at hl 0 rfl) ?_
    refine lv_iload_n hx hb dX0_wholeParts_10 rfl (lv_at hl 1 rfl) ?_
    refine lv_idiv hx hb dX0_wholeParts_11 (fun h9 => absurd c1 (by rw [h9]; decide)) ?_
    exact g_iret C hrt hP hD hS dX0_wholeParts_12 ⟨by rw [rf_wp, if_pos c1], rfl⟩
  · refine lv_iconst (v := 0) hx hb dX0_wholeParts_5 (by decide) ?_
    refine lv_goto (tgt := 12) hx hb dX0_wholeParts_6 (by decide) ?_
    exact g_iret C hrt hP hD hS dX0_wholeParts_12 ⟨by rw [rf_wp, if_neg c1], rfl⟩
theorem kd_X0_hoursThatCount : yX0_hoursThatCount.cls = yX0_hoursThatCount.cls ∧ yX0_hoursThatCount.cls ≠ "java/lang/invoke/MethodHandle" ∧ yX0_hoursThatCount.cls ≠ "java/lang/invoke/VarHandle" ∧ (parseMethodDescriptor yX0_hoursThatCount.desc).map (fun d => d.parameters.length) = some 1 := by decide +kernel
set_option maxHeartbeats 4000000 in
set_option maxRecDepth 100000 in
theorem mX0_hoursThatCount (l : Launch) (D : va_G) (t : Nat → Nat) (cI : ClassId) (o : Nat) (ad : Nat → Nat) (sz : Nat) (u : S0) (r : Nat) (hr8 : r < 8) : gMi l yX0_hoursThatCount (rw_ yX0_hoursThatCount cX0_hoursThatCount 5 (some .int)) (rm_ 1 0 0 21) [.ref o, .int (nI r)] D [(cI, .int)] t (ra_w cI o ad u) sz (fun v w' => v = rf_hc u r ∧ w' = ra_w cI o ad u) := by
  refine g_of (cc := cX0_hoursThatCount) (nL := 5) (rt := (some .int)) (Q := fun A => va_Qi _ (fun w' U => gQ D A w' U) A) (by decide) (Nat.le_of_ble_eq_true rfl) (fun p e s m args below meth c A ls H C hrt hnm hS hP hD hl => ?_)
  have hx := C.1
  have hb := C.2.1
  have hown := C.2.2.2.1
  have hts := C.2.2.2.2.1
  have hl : lv_has ls 5 [(0, .ref o), (1, .int (nI r))] := hl
  refine lv_aload_n hx hb dX0_hoursThatCount_0 rfl (lv_at hl 0 rfl) ?_
  refine x0_gf C hP 3 (by decide) (v := .ref (ad 3)) rfl rfl q14 dX0_hoursThatCount_1 ?_
  refine lv_iload_n hx hb dX0_hoursThatCount_4 rfl (lv_at hl 1 rfl) ?_
  refine x0_ld C hP (k := 3) (i := r) (Or.inl (by decide)) hr8 rfl dX0_hoursThatCount_5 ?_
  refine lv_iconst (v := 1) hx hb dX0_hoursThatCount_6 (by decide) ?_
  refine lv_iadd hx hb dX0_hoursThatCount_7 ?_
  refine lv_iconst (v := 2) hx hb dX0_hoursThatCount_8 (by decide) ?_
  refine lv_idiv hx hb dX0_hoursThatCount_9 (by decide) ?_
  refine lv_topi (fun v1 ev1 => ?_)
  refine lv_istore_n (lv' := [(2, .int v1), (0, .ref o), (1, .int (nI r))]) hx hb dX0_hoursThatCount_10 rfl hl (by decide) rfl (fun ls hl => ?_)
  refine lv_iconst (v := 0) hx hb dX0_hoursThatCount_11 (by decide) ?_
  refine lv_aload_n hx hb dX0_hoursThatCount_12 rfl (lv_at hl 1 rfl) ?_
  refine x0_gf C hP 2 (by decide) (v := .ref (ad 2)) rfl rfl q13 dX0_hoursThatCount_13 ?_
  refine lv_iload_n hx hb dX0_hoursThatCount_16 rfl (lv_at hl 2 rfl) ?_
  refine x0_ld C hP (k := 2) (i := r) (Or.inl (by decide)) hr8 rfl dX0_hoursThatCount_17 ?_
  refine lv_iload_n hx hb dX0_hoursThatCount_18 rfl (lv_at hl 0 rfl) ?_
  refine lv_isub hx hb dX0_hoursThatCount_19 ?_
  refine g_max C q123 q124 q125 q126 hl.1 (Nat.le_of_ble_eq_true rfl) (Nat.le_of_ble_eq_true rfl) (Nat.le_of_ble_eq_true rfl) (Nat.le_of_ble_eq_true rfl) dX0_hoursThatCount_20 ?_
  refine lv_topi (fun v2 ev2 => ?_)
  refine lv_istore_n (lv' := [(3, .int v2), (2, .int v1), (0, .ref o), (1, .int (nI r))]) hx hb dX0_hoursThatCount_23 rfl hl (by decide) rfl (fun ls hl => ?_)
  refine lv_iconst (v := 0) hx hb dX0_hoursThatCount_24 (by decide) ?_
  refine lv_iload_n hx hb dX0_hoursThatCount_25 rfl (lv_at hl 0 rfl) ?_
  refine lv_bipush (v := 60) hx hb dX0_hoursThatCount_26 (by decide) ?_
  refine lv_isub hx hb dX0_hoursThatCount_28 ?_
  refine g_max C q123 q124 q125 q126 hl.1 (Nat.le_of_ble_eq_true rfl) (Nat.le_of_ble_eq_true rfl) (Nat.le_of_ble_eq_true rfl) (Nat.le_of_ble_eq_true rfl) dX0_hoursThatCount_29 ?_
  refine lv_topi (fun v3 ev3 => ?_)
  refine lv_istore (lv' := [(4, .int v3), (3, .int v2), (2, .int v1), (0, .ref o), (1, .int (nI r))]) hx hb dX0_hoursThatCount_32 hl (by decide) rfl (fun ls hl => ?_)
  refine lv_iload_n hx hb dX0_hoursThatCount_34 rfl (lv_at hl 1 rfl) ?_
  refine lv_iload hx hb dX0_hoursThatCount_35 (lv_at hl 0 rfl) ?_
  refine lv_iconst (v := 2) hx hb dX0_hoursThatCount_37 (by decide) ?_
  refine lv_idiv hx hb dX0_hoursThatCount_38 (by decide) ?_
  refine lv_iadd hx hb dX0_hoursThatCount_39 ?_
  exact g_iret C hrt hP hD hS dX0_hoursThatCount_40 ⟨by subst ev3; subst ev2; subst ev1; rfl, by subst ev3; subst ev2; subst ev1; rfl⟩
theorem kd_X0_wageByPieces : yX0_wageByPieces.cls = yX0_wageByPieces.cls ∧ yX0_wageByPieces.cls ≠ "java/lang/invoke/MethodHandle" ∧ yX0_wageByPieces.cls ≠ "java/lang/invoke/VarHandle" ∧ (parseMethodDescriptor yX0_wageByPieces.desc).map (fun d => d.parameters.length) = some 2 := by decide +kernel
set_option maxHeartbeats 4000000 in
set_option maxRecDepth 100000 in
theorem mX0_wageByPieces (l : Launch) (D : va_G) (t : Nat → Nat) (cI : ClassId) (o : Nat) (ad : Nat → Nat) (sz : Nat) (u : S0) (k : Nat) (hk : k = 7 ∨ k = 11) (r : Nat) (hr8 : r < 8) : gMi l yX0_wageByPieces (rw_ yX0_wageByPieces cX0_wageByPieces 8 (some .int)) (rm_ 1 0 0 21) [.ref o, .int (nI r), .ref (ad k)] D [(cI, .int)] t (ra_w cI o ad u) sz (fun v w' => v = rf_pc u k r ∧ w' = ra_w cI o ad u) := by
  refine g_of (cc := cX0_wageByPieces) (nL := 8) (rt := (some .int)) (Q := fun A => va_Qi _ (fun w' U => gQ D A w' U) A) (by decide) (Nat.le_of_ble_eq_true rfl) (fun p e s m args below meth c A ls H C hrt hnm hS hP hD hl => ?_)
  have hx := C.1
  have hb := C.2.1
  have hown := C.2.2.2.1
  have hts := C.2.2.2.2.1
  have hl : lv_has ls 8 [(0, .ref o), (1, .int (nI r)), (2, .ref (ad k))] := hl
  refine lv_aload_n hx hb dX0_wageByPieces_0 rfl (lv_at hl 0 rfl) ?_
  refine x0_gf C hP 1 (by decide) (v := .ref (ad 1)) rfl rfl q12 dX0_wageByPieces_1 ?_
  refine lv_iload_n hx hb dX0_wageByPieces_4 rfl (lv_at hl 1 rfl) ?_
  refine x0_ld C hP (k := 1) (i := r) (Or.inl (by decide)) hr8 rfl dX0_wageByPieces_5 ?_
  refine lv_aload_n hx hb dX0_wageByPieces_6 rfl (lv_at hl 2 rfl) ?_
  refine lv_iconst (v := 2) hx hb dX0_wageByPieces_7 (by decide) ?_
  refine x0_ld C hP (k := k) (i := 2) (Or.elim hk (fun h => h ▸ Or.inl (by decide)) (fun h => h ▸ Or.inr ⟨by decide, by decide⟩)) (by rcases hk with rfl | rfl <;> decide) rfl dX0_wageByPieces_8 ?_
  refine g_min C q131 q132 q125 q133 hl.1 (Nat.le_of_ble_eq_true rfl) (Nat.le_of_ble_eq_true rfl) (Nat.le_of_ble_eq_true rfl) (Nat.le_of_ble_eq_true rfl) dX0_wageByPieces_9 ?_
  refine lv_topi (fun v1 ev1 => ?_)
  refine lv_istore_n (lv' := [(3, .int v1), (0, .ref o), (1, .int (nI r)), (2, .ref (ad k))]) hx hb dX0_wageByPieces_12 rfl hl (by decide) rfl (fun ls hl => ?_)
  refine lv_aload_n hx hb dX0_wageByPieces_13 rfl (lv_at hl 1 rfl) ?_
  refine x0_gf C hP 1 (by decide) (v := .ref (ad 1)) rfl rfl q12 dX0_wageByPieces_14 ?_
  refine lv_iload_n hx hb dX0_wageByPieces_17 rfl (lv_at hl 2 rfl) ?_
  refine x0_ld C hP (k := 1) (i := r) (Or.inl (by decide)) hr8 rfl dX0_wageByPieces_18 ?_
  refine lv_iload_n hx hb dX0_wageByPieces_19 rfl (lv_at hl 0 rfl) ?_
  refine lv_isub hx hb dX0_wageByPieces_20 ?_
  refine lv_i2l hx hb dX0_wageByPieces_21 rfl ?_
  refine lv_topl (fun v2 ev2 => ?_)
  refine lv_lstore (lv' := [(4, .long v2), (3, .int v1), (0, .ref o), (1, .int (nI r)), (2, .ref (ad k))]) hx hb dX0_wageByPieces_22 hl (by decide) rfl (fun ls hl => ?_)
  refine lv_aload_n hx hb dX0_wageByPieces_24 rfl (lv_at hl 4 rfl) ?_
  refine lv_iconst (v := 0) hx hb dX0_wageByPieces_25 (by decide) ?_
  refine x0_ld C hP (k := k) (i := 0) (Or.elim hk (fun h => h ▸ Or.inl (by decide)) (fun h => h ▸ Or.inr ⟨by decide, by decide⟩)) (by rcases hk with rfl | rfl <;> decide) rfl dX0_wageByPieces_26 ?_
  refine lv_i2l hx hb dX0_wageByPieces_27 rfl ?_
  refine lv_lload hx hb dX0_wageByPieces_28 (lv_at hl 0 rfl) ?_
  refine lv_lmul hx hb dX0_wageByPieces_30 ?_
  refine lv_bipush (v := 100) hx hb dX0_wageByPieces_31 (by decide) ?_
  refine lv_aload_n hx hb dX0_wageByPieces_33 rfl (lv_at hl 4 rfl) ?_
  refine lv_iconst (v := 3) hx hb dX0_wageByPieces_34 (by decide) ?_
  refine x0_ld C hP (k := k) (i := 3) (Or.elim hk (fun h => h ▸ Or.inl (by decide)) (fun h => h ▸ Or.inr ⟨by decide, by decide⟩)) (by rcases hk with rfl | rfl <;> decide) rfl dX0_wageByPieces_35 ?_
  refine lv_iadd hx hb dX0_wageByPieces_36 ?_
  refine lv_i2l hx hb dX0_wageByPieces_37 rfl ?_
  refine lv_lmul hx hb dX0_wageByPieces_38 ?_
  refine lv_ldc2 (v := 1000) hx hb hown (hts _ q134) dX0_wageByPieces_39 ?_
  refine lv_ldiv hx hb dX0_wageByPieces_42 (by decide) ?_
  refine lv_topl (fun v3 ev3 => ?_)
  refine lv_lstore (lv' := [(6, .long v3), (4, .long v2), (3, .int v1), (0, .ref o), (1, .int (nI r)), (2, .ref (ad k))]) hx hb dX0_wageByPieces_43 hl (by decide) rfl (fun ls hl => ?_)
  refine lv_aload_n hx hb dX0_wageByPieces_45 rfl (lv_at hl 5 rfl) ?_
  refine lv_iconst (v := 0) hx hb dX0_wageByPieces_46 (by decide) ?_
  refine x0_ld C hP (k := k) (i := 0) (Or.elim hk (fun h => h ▸ Or.inl (by decide)) (fun h => h ▸ Or.inr ⟨by decide, by decide⟩)) (by rcases hk with rfl | rfl <;> decide) rfl dX0_wageByPieces_47 ?_
  refine lv_iload_n hx hb dX0_wageByPieces_48 rfl (lv_at hl 2 rfl) ?_
  refine lv_imul hx hb dX0_wageByPieces_49 ?_
  refine lv_bipush (v := 10) hx hb dX0_wageByPieces_50 (by decide) ?_
  refine lv_idiv hx hb dX0_wageByPieces_52 (by decide) ?_
  refine lv_lload hx hb dX0_wageByPieces_53 (lv_at hl 0 rfl) ?_
  refine lv_l2i hx hb dX0_wageByPieces_55 rfl ?_
  refine lv_iadd hx hb dX0_wageByPieces_56 ?_
  exact g_iret C hrt hP hD hS dX0_wageByPieces_57 ⟨by subst ev3; subst ev2; subst ev1; rfl, by subst ev3; subst ev2; subst ev1; rfl⟩
theorem kd_X0_wageByHours : yX0_wageByHours.cls = yX0_wageByHours.cls ∧ yX0_wageByHours.cls ≠ "java/lang/invoke/MethodHandle" ∧ yX0_wageByHours.cls ≠ "java/lang/invoke/VarHandle" ∧ (parseMethodDescriptor yX0_wageByHours.desc).map (fun d => d.parameters.length) = some 2 := by decide +kernel
set_option maxHeartbeats 4000000 in
set_option maxRecDepth 100000 in
theorem mX0_wageByHours (l : Launch) (D : va_G) (t : Nat → Nat) (cI : ClassId) (o : Nat) (ad : Nat → Nat) (sz : Nat) (u : S0) (k : Nat) (hk : k = 7 ∨ k = 11) (r : Nat) (hr8 : r < 8) : gMi l yX0_wageByHours (rw_ yX0_wageByHours cX0_wageByHours 3 (some .int)) (rm_ 2 0 0 45) [.ref o, .int (nI r), .ref (ad k)] D [(cI, .int)] t (ra_w cI o ad u) sz (fun v w' => v = rf_hw u k r ∧ w' = ra_w cI o ad u) := by
  refine g_of (cc := cX0_wageByHours) (nL := 3) (rt := (some .int)) (Q := fun A => va_Qi _ (fun w' U => gQ D A w' U) A) (by decide) (Nat.le_of_ble_eq_true rfl) (fun p e s m args below meth c A ls H C hrt hnm hS hP hD hl => ?_)
  have hx := C.1
  have hb := C.2.1
  have hown := C.2.2.2.1
  have hts := C.2.2.2.2.1
  have hl : lv_has ls 3 [(0, .ref o), (1, .int (nI r)), (2, .ref (ad k))] := hl
  refine lv_aload_n hx hb dX0_wageByHours_0 rfl (lv_at hl 2 rfl) ?_
  refine lv_iconst (v := 1) hx hb dX0_wageByHours_1 (by decide) ?_
  refine x0_ld C hP (k := k) (i := 1) (Or.elim hk (fun h => h ▸ Or.inl (by decide)) (fun h => h ▸ Or.inr ⟨by decide, by decide⟩)) (by rcases hk with rfl | rfl <;> decide) rfl dX0_wageByHours_2 ?_
  refine lv_aload_n hx hb dX0_wageByHours_3 rfl (lv_at hl 0 rfl) ?_
  refine lv_iload_n hx hb dX0_wageByHours_4 rfl (lv_at hl 1 rfl) ?_
  refine g_ci (wr := []) (cells' := 0) (slots' := 0) rfl rfl C rd_nil hD hS (g_runV (wr := []) (n := 1) C (mX0_hoursThatCount l D t cI o ad H.size u r hr8) (rw_V q139 q140 q141 q2 q142) kd_X0_hoursThatCount ⟨Nat.le_of_ble_eq_true rfl, Nat.le_of_ble_eq_true rfl⟩ (ci := 0) rfl rfl rfl C.2.2.2.2.2.1 hP hD hS hl.1 rfl rfl (Nat.le_of_ble_eq_true rfl) dX0_wageByHours_5 ⟨Nat.le_of_ble_eq_true rfl, Nat.le_of_ble_eq_true rfl⟩) (fun v w' H locs hv _ _ hP hD hS => ?_)
  obtain ⟨rfl, rfl⟩ := hv
  have hD : va_D A (ra_w cI o ad u) := hD
  refine lv_imul hx hb dX0_wageByHours_8 ?_
  exact g_iret C hrt hP hD hS dX0_wageByHours_9 ⟨by skip; rfl, by skip; rfl⟩
theorem kd_X0_weekWage : yX0_weekWage.cls = yX0_weekWage.cls ∧ yX0_weekWage.cls ≠ "java/lang/invoke/MethodHandle" ∧ yX0_weekWage.cls ≠ "java/lang/invoke/VarHandle" ∧ (parseMethodDescriptor yX0_weekWage.desc).map (fun d => d.parameters.length) = some 2 := by decide +kernel
set_option maxHeartbeats 4000000 in
set_option maxRecDepth 100000 in
theorem mX0_weekWage (l : Launch) (D : va_G) (t : Nat → Nat) (cI : ClassId) (o : Nat) (ad : Nat → Nat) (sz : Nat) (u : S0) (k : Nat) (hk : k = 7 ∨ k = 11) (r : Nat) (hr8 : r < 8) : gMi l yX0_weekWage (rw_ yX0_weekWage cX0_weekWage 3 (some .int)) (rm_ 3 0 0 67) [.ref o, .int (nI r), .ref (ad k)] D [(cI, .int)] t (ra_w cI o ad u) sz (fun v w' => v = rf_ww u k r ∧ w' = ra_w cI o ad u) := by
  refine g_of (cc := cX0_weekWage) (nL := 3) (rt := (some .int)) (Q := fun A => va_Qi _ (fun w' U => gQ D A w' U) A) (by decide) (Nat.le_of_ble_eq_true rfl) (fun p e s m args below meth c A ls H C hrt hnm hS hP hD hl => ?_)
  have hx := C.1
  have hb := C.2.1
  have hown := C.2.2.2.1
  have hts := C.2.2.2.2.1
  have hl : lv_has ls 3 [(0, .ref o), (1, .int (nI r)), (2, .ref (ad k))] := hl
  by_cases k0 : u.1 0 r = 0
  · refine lv_aload_n hx hb dX0_weekWage_0 rfl (lv_at hl 0 rfl) ?_
    refine x0_gf C hP 0 (by decide) (v := .ref (ad 0)) rfl rfl q11 dX0_weekWage_1 ?_
    refine lv_iload_n hx hb dX0_weekWage_4 rfl (lv_at hl 1 rfl) ?_
    refine x0_ld C hP (k := 0) (i := r) (Or.inl (by decide)) hr8 rfl dX0_weekWage_5 ?_
    rw [k0]
    refine lv_lookup (off := 26) (tgt := 32) hx hb dX0_weekWage_6 (by decide) rfl (by decide) ?_
    refine lv_aload_n hx hb dX0_weekWage_32 rfl (lv_at hl 0 rfl) ?_
    refine lv_iload_n hx hb dX0_weekWage_33 rfl (lv_at hl 1 rfl) ?_
    refine lv_aload_n hx hb dX0_weekWage_34 rfl (lv_at hl 2 rfl) ?_
    refine g_ci (wr := []) (cells' := 0) (slots' := 0) rfl rfl C rd_nil hD hS (g_runV (wr := []) (n := 2) C (mX0_wageByPieces l D t cI o ad H.size u k hk r hr8) (rw_V q127 q128 q129 q2 q130) kd_X0_wageByPieces ⟨Nat.le_of_ble_eq_true rfl, Nat.le_of_ble_eq_true rfl⟩ (ci := 0) rfl rfl rfl C.2.2.2.2.2.1 hP hD hS hl.1 rfl rfl (Nat.le_of_ble_eq_true rfl) dX0_weekWage_35 ⟨Nat.le_of_ble_eq_true rfl, Nat.le_of_ble_eq_true rfl⟩) (fun v w' H locs hv _ _ hP hD hS => ?_)
    obtain ⟨rfl, rfl⟩ := hv
    have hD : va_D A (ra_w cI o ad u) := hD
    exact g_iret C hrt hP hD hS dX0_weekWage_38 ⟨by rw [rf_ww, if_pos k0], rfl⟩
  by_cases k1 : u.1 0 r = 1
  · refine lv_aload_n hx hb dX0_weekWage_0 rfl (lv_at hl 0 rfl) ?_
    refine x0_gf C hP 0 (by decide) (v := .ref (ad 0)) rfl rfl q11 dX0_weekWage_1 ?_
    refine lv_iload_n hx hb dX0_weekWage_4 rfl (lv_at hl 1 rfl) ?_
    refine x0_ld C hP (k := 0) (i := r) (Or.inl (by decide)) hr8 rfl dX0_weekWage_5 ?_
    rw [k1]
    refine lv_lookup (off := 33) (tgt := 39) hx hb dX0_weekWage_6 (by decide) rfl (by decide) ?_
    refine lv_aload_n hx hb dX0_weekWage_39 rfl (lv_at hl 0 rfl) ?_
    refine lv_iload_n hx hb dX0_weekWage_40 rfl (lv_at hl 1 rfl) ?_
    refine lv_aload_n hx hb dX0_weekWage_41 rfl (lv_at hl 2 rfl) ?_
    refine g_ci (wr := []) (cells' := 0) (slots' := 0) rfl rfl C rd_nil hD hS (g_runV (wr := []) (n := 2) C (mX0_wageByHours l D t cI o ad H.size u k hk r hr8) (rw_V q135 q136 q137 q2 q138) kd_X0_wageByHours ⟨Nat.le_of_ble_eq_true rfl, Nat.le_of_ble_eq_true rfl⟩ (ci := 0) rfl rfl rfl C.2.2.2.2.2.1 hP hD hS hl.1 rfl rfl (Nat.le_of_ble_eq_true rfl) dX0_weekWage_42 ⟨Nat.le_of_ble_eq_true rfl, Nat.le_of_ble_eq_true rfl⟩) (fun v w' H locs hv _ _ hP hD hS => ?_)
    obtain ⟨rfl, rfl⟩ := hv
    have hD : va_D A (ra_w cI o ad u) := hD
    exact g_iret C hrt hP hD hS dX0_weekWage_45 ⟨by rw [rf_ww, if_neg (by rw [k1]; decide), if_pos k1], rfl⟩
  · refine lv_aload_n hx hb dX0_weekWage_0 rfl (lv_at hl 0 rfl) ?_
    refine x0_gf C hP 0 (by decide) (v := .ref (ad 0)) rfl rfl q11 dX0_weekWage_1 ?_
    refine lv_iload_n hx hb dX0_weekWage_4 rfl (lv_at hl 1 rfl) ?_
    refine x0_ld C hP (k := 0) (i := r) (Or.inl (by decide)) hr8 rfl dX0_weekWage_5 ?_
    refine lv_lookup (off := 40) (tgt := 46) hx hb dX0_weekWage_6 (by decide) ((lv_osw k0 rfl).trans ((lv_osw k1 rfl).trans rfl)) (by decide) ?_
    refine lv_aload_n hx hb dX0_weekWage_46 rfl (lv_at hl 0 rfl) ?_
    refine lv_iload_n hx hb dX0_weekWage_47 rfl (lv_at hl 1 rfl) ?_
    refine lv_aload_n hx hb dX0_weekWage_48 rfl (lv_at hl 2 rfl) ?_
    refine g_ci (wr := []) (cells' := 0) (slots' := 0) rfl rfl C rd_nil hD hS (g_runV (wr := []) (n := 2) C (mX0_wageByPieces l D t cI o ad H.size u k hk r hr8) (rw_V q127 q128 q129 q2 q130) kd_X0_wageByPieces ⟨Nat.le_of_ble_eq_true rfl, Nat.le_of_ble_eq_true rfl⟩ (ci := 0) rfl rfl rfl C.2.2.2.2.2.1 hP hD hS hl.1 rfl rfl (Nat.le_of_ble_eq_true rfl) dX0_weekWage_49 ⟨Nat.le_of_ble_eq_true rfl, Nat.le_of_ble_eq_true rfl⟩) (fun v w' H locs hv _ _ hP hD hS => ?_)
    obtain ⟨rfl, rfl⟩ := hv
    have hD : va_D A (ra_w cI o ad u) := hD
    refine lv_aload_n hx hb dX0_weekWage_52 rfl (lv_at hl 0 rfl) ?_
    refine lv_iload_n hx hb dX0_weekWage_53 rfl (lv_at hl 1 rfl) ?_
    refine lv_aload_n hx hb dX0_weekWage_54 rfl (lv_at hl 2 rfl) ?_
    refine g_ci (wr := []) (cells' := 0) (slots' := 0) rfl rfl C rd_nil hD hS (g_runV (wr := []) (n := 2) C (mX0_wageByHours l D t cI o ad H.size u k hk r hr8) (rw_V q135 q136 q137 q2 q138) kd_X0_wageByHours ⟨Nat.le_of_ble_eq_true rfl, Nat.le_of_ble_eq_true rfl⟩ (ci := 0) rfl rfl rfl C.2.2.2.2.2.1 hP hD hS hl.1 rfl rfl (Nat.le_of_ble_eq_true rfl) dX0_weekWage_55 ⟨Nat.le_of_ble_eq_true rfl, Nat.le_of_ble_eq_true rfl⟩) (fun v w' H locs hv _ _ hP hD hS => ?_)
    obtain ⟨rfl, rfl⟩ := hv
    have hD : va_D A (ra_w cI o ad u) := hD
    refine g_max C q123 q124 q125 q126 hl.1 (Nat.le_of_ble_eq_true rfl) (Nat.le_of_ble_eq_true rfl) (Nat.le_of_ble_eq_true rfl) (Nat.le_of_ble_eq_true rfl) dX0_weekWage_58 ?_
    exact g_iret C hrt hP hD hS dX0_weekWage_61 ⟨by rw [rf_ww, if_neg k0, if_neg k1], rfl⟩
theorem kd_X0_coming : yX0_coming.cls = yX0_coming.cls ∧ yX0_coming.cls ≠ "java/lang/invoke/MethodHandle" ∧ yX0_coming.cls ≠ "java/lang/invoke/VarHandle" ∧ (parseMethodDescriptor yX0_coming.desc).map (fun d => d.parameters.length) = some 1 := by decide +kernel
set_option maxHeartbeats 4000000 in
set_option maxRecDepth 100000 in
theorem mX0_coming (l : Launch) (D : va_G) (t : Nat → Nat) (cI : ClassId) (o : Nat) (ad : Nat → Nat) (sz : Nat) (u : S0) (r : Nat) (hr8 : r < 8) : gMi l yX0_coming (rw_ yX0_coming cX0_coming 2 (some .int)) (rm_ 4 0 0 89) [.ref o, .int (nI r)] D [(cI, .int)] t (ra_w cI o ad u) sz (fun v w' => v = rf_cm u r ∧ w' = ra_w cI o ad u) := by
  refine g_of (cc := cX0_coming) (nL := 2) (rt := (some .int)) (Q := fun A => va_Qi _ (fun w' U => gQ D A w' U) A) (by decide) (Nat.le_of_ble_eq_true rfl) (fun p e s m args below meth c A ls H C hrt hnm hS hP hD hl => ?_)
  have hx := C.1
  have hb := C.2.1
  have hown := C.2.2.2.1
  have hts := C.2.2.2.2.1
  have hl : lv_has ls 2 [(0, .ref o), (1, .int (nI r))] := hl
  refine lv_aload_n hx hb dX0_coming_0 rfl (lv_at hl 0 rfl) ?_
  refine lv_iload_n hx hb dX0_coming_1 rfl (lv_at hl 1 rfl) ?_
  refine lv_aload_n hx hb dX0_coming_2 rfl (lv_at hl 0 rfl) ?_
  refine x0_gf C hP 7 (by decide) (v := .ref (ad 7)) rfl rfl q18 dX0_coming_3 ?_
  refine g_ci (wr := []) (cells' := 0) (slots' := 0) rfl rfl C rd_nil hD hS (g_runV (wr := []) (n := 2) C (mX0_weekWage l D t cI o ad H.size u 7 (Or.inl rfl) r hr8) (rw_V q119 q120 q121 q2 q122) kd_X0_weekWage ⟨Nat.le_of_ble_eq_true rfl, Nat.le_of_ble_eq_true rfl⟩ (ci := 0) rfl rfl rfl C.2.2.2.2.2.1 hP hD hS hl.1 rfl rfl (Nat.le_of_ble_eq_true rfl) dX0_coming_6 ⟨Nat.le_of_ble_eq_true rfl, Nat.le_of_ble_eq_true rfl⟩) (fun v w' H locs hv _ _ hP hD hS => ?_)
  obtain ⟨rfl, rfl⟩ := hv
  have hD : va_D A (ra_w cI o ad u) := hD
  refine lv_aload_n hx hb dX0_coming_9 rfl (lv_at hl 0 rfl) ?_
  refine x0_gf C hP 5 (by decide) (v := .ref (ad 5)) rfl rfl q16 dX0_coming_10 ?_
  refine lv_iload_n hx hb dX0_coming_13 rfl (lv_at hl 1 rfl) ?_
  refine x0_ld C hP (k := 5) (i := r) (Or.inl (by decide)) hr8 rfl dX0_coming_14 ?_
  refine lv_iadd hx hb dX0_coming_15 ?_
  exact g_iret C hrt hP hD hS dX0_coming_16 ⟨by skip; rfl, by skip; rfl⟩
theorem kd_X0_takenBack : yX0_takenBack.cls = yX0_takenBack.cls ∧ yX0_takenBack.cls ≠ "java/lang/invoke/MethodHandle" ∧ yX0_takenBack.cls ≠ "java/lang/invoke/VarHandle" ∧ (parseMethodDescriptor yX0_takenBack.desc).map (fun d => d.parameters.length) = some 2 := by decide +kernel
set_option maxHeartbeats 4000000 in
set_option maxRecDepth 100000 in
theorem mX0_takenBack (l : Launch) (D : va_G) (t : Nat → Nat) (cI : ClassId) (o : Nat) (ad : Nat → Nat) (sz : Nat) (u : S0) (x1 x2 : Int32) : gMi l yX0_takenBack (rw_ yX0_takenBack cX0_takenBack 3 (some .int)) (rm_ 1 0 0 21) [.ref o, .int x1, .int x2] D [(cI, .int)] t (ra_w cI o ad u) sz (fun v w' => v = rf_tb u x1 x2 ∧ w' = ra_w cI o ad u) := by
  refine g_of (cc := cX0_takenBack) (nL := 3) (rt := (some .int)) (Q := fun A => va_Qi _ (fun w' U => gQ D A w' U) A) (by decide) (Nat.le_of_ble_eq_true rfl) (fun p e s m args below meth c A ls H C hrt hnm hS hP hD hl => ?_)
  have hx := C.1
  have hb := C.2.1
  have hown := C.2.2.2.1
  have hts := C.2.2.2.2.1
  have hl : lv_has ls 3 [(0, .ref o), (1, .int x1), (2, .int x2)] := hl
  refine lv_iload_n hx hb dX0_takenBack_0 rfl (lv_at hl 1 rfl) ?_
  refine lv_iload_n hx hb dX0_takenBack_1 rfl (lv_at hl 2 rfl) ?_
  refine lv_aload_n hx hb dX0_takenBack_2 rfl (lv_at hl 0 rfl) ?_
  refine x0_gf C hP 7 (by decide) (v := .ref (ad 7)) rfl rfl q18 dX0_takenBack_3 ?_
  refine lv_iconst (v := 4) hx hb dX0_takenBack_6 (by decide) ?_
  refine x0_ld C hP (k := 7) (i := 4) (Or.inl (by decide)) (by decide) rfl dX0_takenBack_7 ?_
  refine g_ci (wr := []) (cells' := 0) (slots' := 0) rfl rfl C rd_nil hD hS (g_runS (wr := []) (n := 2) (As := [.int x2, .int (u.1 7 4)]) C (mX0_wholeParts l D t [(cI, .int)] (ra_w cI o ad u) H.size x2 (u.1 7 4)) (rw_S q147 q148 q2 q149) kd_X0_wholeParts ⟨Nat.le_of_ble_eq_true rfl, Nat.le_of_ble_eq_true rfl⟩ C.2.2.2.2.2.1 hP hD hS hl.1 rfl rfl (Nat.le_of_ble_eq_true rfl) dX0_takenBack_8 ⟨Nat.le_of_ble_eq_true rfl, Nat.le_of_ble_eq_true rfl⟩) (fun v w' H locs hv _ _ hP hD hS => ?_)
  obtain ⟨rfl, rfl⟩ := hv
  have hD : va_D A (ra_w cI o ad u) := hD
  refine g_min C q131 q132 q125 q133 hl.1 (Nat.le_of_ble_eq_true rfl) (Nat.le_of_ble_eq_true rfl) (Nat.le_of_ble_eq_true rfl) (Nat.le_of_ble_eq_true rfl) dX0_takenBack_11 ?_
  exact g_iret C hrt hP hD hS dX0_takenBack_14 ⟨by skip; rfl, by skip; rfl⟩
theorem kd_X0_restToPay : yX0_restToPay.cls = yX0_restToPay.cls ∧ yX0_restToPay.cls ≠ "java/lang/invoke/MethodHandle" ∧ yX0_restToPay.cls ≠ "java/lang/invoke/VarHandle" ∧ (parseMethodDescriptor yX0_restToPay.desc).map (fun d => d.parameters.length) = some 1 := by decide +kernel
set_option maxHeartbeats 4000000 in
set_option maxRecDepth 100000 in
theorem mX0_restToPay (l : Launch) (D : va_G) (t : Nat → Nat) (cI : ClassId) (o : Nat) (ad : Nat → Nat) (sz : Nat) (u : S0) (r : Nat) (hr8 : r < 8) : gMi l yX0_restToPay (rw_ yX0_restToPay cX0_restToPay 3 (some .int)) (rm_ 5 0 0 110) [.ref o, .int (nI r)] D [(cI, .int)] t (ra_w cI o ad u) sz (fun v w' => v = rf_re u r ∧ w' = ra_w cI o ad u) := by
  refine g_of (cc := cX0_restToPay) (nL := 3) (rt := (some .int)) (Q := fun A => va_Qi _ (fun w' U => gQ D A w' U) A) (by decide) (Nat.le_of_ble_eq_true rfl) (fun p e s m args below meth c A ls H C hrt hnm hS hP hD hl => ?_)
  have hx := C.1
  have hb := C.2.1
  have hown := C.2.2.2.1
  have hts := C.2.2.2.2.1
  have hl : lv_has ls 3 [(0, .ref o), (1, .int (nI r))] := hl
  refine lv_aload_n hx hb dX0_restToPay_0 rfl (lv_at hl 0 rfl) ?_
  refine lv_iload_n hx hb dX0_restToPay_1 rfl (lv_at hl 1 rfl) ?_
  refine g_ci (wr := []) (cells' := 0) (slots' := 0) rfl rfl C rd_nil hD hS (g_runV (wr := []) (n := 1) C (mX0_coming l D t cI o ad H.size u r hr8) (rw_V q115 q116 q117 q2 q118) kd_X0_coming ⟨Nat.le_of_ble_eq_true rfl, Nat.le_of_ble_eq_true rfl⟩ (ci := 0) rfl rfl rfl C.2.2.2.2.2.1 hP hD hS hl.1 rfl rfl (Nat.le_of_ble_eq_true rfl) dX0_restToPay_2 ⟨Nat.le_of_ble_eq_true rfl, Nat.le_of_ble_eq_true rfl⟩) (fun v w' H locs hv _ _ hP hD hS => ?_)
  obtain ⟨rfl, rfl⟩ := hv
  have hD : va_D A (ra_w cI o ad u) := hD
  refine lv_topi (fun v1 ev1 => ?_)
  refine lv_istore_n (lv' := [(2, .int v1), (0, .ref o), (1, .int (nI r))]) hx hb dX0_restToPay_5 rfl hl (by decide) rfl (fun ls hl => ?_)
  refine lv_iload_n hx hb dX0_restToPay_6 rfl (lv_at hl 0 rfl) ?_
  refine lv_aload_n hx hb dX0_restToPay_7 rfl (lv_at hl 1 rfl) ?_
  refine lv_aload_n hx hb dX0_restToPay_8 rfl (lv_at hl 1 rfl) ?_
  refine x0_gf C hP 4 (by decide) (v := .ref (ad 4)) rfl rfl q15 dX0_restToPay_9 ?_
  refine lv_iload_n hx hb dX0_restToPay_12 rfl (lv_at hl 2 rfl) ?_
  refine x0_ld C hP (k := 4) (i := r) (Or.inl (by decide)) hr8 rfl dX0_restToPay_13 ?_
  refine lv_iload_n hx hb dX0_restToPay_14 rfl (lv_at hl 0 rfl) ?_
  refine g_ci (wr := []) (cells' := 0) (slots' := 0) rfl rfl C rd_nil hD hS (g_runV (wr := []) (n := 2) C (mX0_takenBack l D t cI o ad H.size u (u.1 4 r) v1) (rw_V q143 q144 q145 q2 q146) kd_X0_takenBack ⟨Nat.le_of_ble_eq_true rfl, Nat.le_of_ble_eq_true rfl⟩ (ci := 0) rfl rfl rfl C.2.2.2.2.2.1 hP hD hS hl.1 rfl rfl (Nat.le_of_ble_eq_true rfl) dX0_restToPay_15 ⟨Nat.le_of_ble_eq_true rfl, Nat.le_of_ble_eq_true rfl⟩) (fun v w' H locs hv _ _ hP hD hS => ?_)
  obtain ⟨rfl, rfl⟩ := hv
  have hD : va_D A (ra_w cI o ad u) := hD
  refine lv_isub hx hb dX0_restToPay_18 ?_
  exact g_iret C hrt hP hD hS dX0_restToPay_19 ⟨by subst ev1; rfl, by subst ev1; rfl⟩
theorem kd_X0_copyRow : yX0_copyRow.cls ≠ "java/lang/invoke/MethodHandle" ∧ yX0_copyRow.cls ≠ "java/lang/invoke/VarHandle" ∧ (parseMethodDescriptor yX0_copyRow.desc).map (fun d => d.parameters.length) = some 3 := by decide +kernel
set_option maxHeartbeats 4000000 in
set_option maxRecDepth 100000 in
theorem lpX0_copyRow {p : Program} {l : Launch} {e : Env} {s : State} {m : MethodId} {args : Array Value} {below : List Frame} {meth : Method} {c : Code} {Q : State → Prop} {D : va_G} {t : Nat → Nat} {A : Nat → Prop} {cI : ClassId} {o : Nat} {ad : Nat → Nat} {u : S0} {k1 k2 n0 : Nat} (C : gC p s m args meth c cX0_copyRow 4 RX0 D [(cI, .int)] t A) (hk1 : ra_ok k1) (hk2 : ra_ok k2) (hn1 : n0 ≤ ra_len k1) (hn2 : n0 ≤ ra_len k2) (hn8 : n0 ≤ 8) (kk : ∀ (H : Heap) (locs : List Loc) (ls : Array Slot), va_P D vwCl (ra_w cI o ad (rf_cp u k1 k2 n0)) H → va_D A (ra_w cI o ad (rf_cp u k1 k2 n0)) → va_S A s.heap H locs → lv_has ls 4 [(0, .ref (ad k1)), (1, .ref (ad k2)), (2, .int (nI n0)), (3, .int (nI n0))] → W p l e (rm_ 0 0 0 0) s m args below meth c H locs 0 0 Q (F0 m 19 ls [])) :
    ∀ (n i : Nat), i + n = n0 → ∀ (H : Heap) (locs : List Loc) (ls : Array Slot), va_P D vwCl (ra_w cI o ad (rf_cp u k1 k2 i)) H → va_D A (ra_w cI o ad (rf_cp u k1 k2 i)) → va_S A s.heap H locs → lv_has ls 4 [(0, .ref (ad k1)), (1, .ref (ad k2)), (2, .int (nI n0)), (3, .int (nI i))] → W p l e (rm_ 0 0 0 0) s m args below meth c H locs 0 0 Q (F0 m 2 ls []) := by
  have hx := C.1
  have hb := C.2.1
  have hown := C.2.2.2.1
  have hts := C.2.2.2.2.1
  intro n
  induction n with
  | zero =>
    intro i hi H locs ls hP hD hS hl
    have hiN : i = n0 := by omega
    refine lv_iload_n hx hb dX0_copyRow_2 rfl (lv_at hl 3 rfl) ?_
    refine lv_iload_n hx hb dX0_copyRow_3 rfl (lv_at hl 2 rfl) ?_
    refine lv_icmp_ge (tgt := 19) hx hb dX0_copyRow_4 (by decide) (fun c1 => ?_) (fun c1 => absurd ((nI_leI (a := n0) (b := i) (by omega) (by omega)).mpr (by omega)) c1)
    subst hiN
    exact kk _ _ _ hP hD hS (lv_sub hl [0, 1, 2, 3] rfl)
  | succ n ih =>
    intro i hi H locs ls hP hD hS hl
    have hin : i < n0 := by omega
    refine lv_iload_n hx hb dX0_copyRow_2 rfl (lv_at hl 3 rfl) ?_
    refine lv_iload_n hx hb dX0_copyRow_3 rfl (lv_at hl 2 rfl) ?_
    refine lv_icmp_ge (tgt := 19) hx hb dX0_copyRow_4 (by decide) (fun c1 => absurd c1 (fun h9 => absurd ((nI_leI (a := n0) (b := i) (by omega) (by omega)).mp h9) (by omega))) (fun c1 => ?_)
    refine lv_aload_n hx hb dX0_copyRow_7 rfl (lv_at hl 1 rfl) ?_
    refine lv_iload_n hx hb dX0_copyRow_8 rfl (lv_at hl 3 rfl) ?_
    refine lv_aload_n hx hb dX0_copyRow_9 rfl (lv_at hl 0 rfl) ?_
    refine lv_iload_n hx hb dX0_copyRow_10 rfl (lv_at hl 3 rfl) ?_
    refine x0_ld C hP (k := k1) (i := i) hk1 (by omega) rfl dX0_copyRow_11 ?_
    refine x0_st C hP hD hS (k := k2) (i := i) hk2 (by omega) rfl dX0_copyRow_12 (fun H locs hP hD hS => ?_)
    obtain ⟨u2, eu2⟩ : ∃ z : S0, z = ra_s (rf_cp u k1 k2 i) k2 i ((rf_cp u k1 k2 i).1 k1 i) := ⟨_, rfl⟩
    have hP : va_P D vwCl (ra_w cI o ad u2) H := by rw [eu2]; exact hP
    have hD : va_D A (ra_w cI o ad u2) := by rw [eu2]; exact hD
    refine lv_iinc (v := nI (i + 1)) (lv' := [(3, .int (nI (i + 1))), (0, .ref (ad k1)), (1, .ref (ad k2)), (2, .int (nI n0))]) hx hb dX0_copyRow_13 hl (k := 3) rfl (nI_1 _) (by decide) rfl (fun ls hl => ?_)
    refine lv_goto (tgt := 2) hx hb dX0_copyRow_16 (by decide) ?_
    subst eu2
    exact ih (i + 1) (by omega) _ _ _ hP hD hS (lv_sub hl [1, 2, 3, 0] rfl)
set_option maxHeartbeats 4000000 in
set_option maxRecDepth 100000 in
theorem mX0_copyRow (l : Launch) (D : va_G) (t : Nat → Nat) (cI : ClassId) (o : Nat) (ad : Nat → Nat) (sz : Nat) (u : S0) (k1 k2 n0 : Nat) (hk1 : ra_ok k1) (hk2 : ra_ok k2) (hn1 : n0 ≤ ra_len k1) (hn2 : n0 ≤ ra_len k2) (hn8 : n0 ≤ 8) : gMv l yX0_copyRow (rw_ yX0_copyRow cX0_copyRow 4 none) (rm_ 0 0 0 0) [.ref (ad k1), .ref (ad k2), .int (nI n0)] D [(cI, .int)] t (ra_w cI o ad u) sz (fun w' => w' = ra_w cI o ad (rf_cp u k1 k2 n0)) := by
  refine g_of (cc := cX0_copyRow) (nL := 4) (rt := none) (Q := fun A => va_Qv _ (fun w' U => gQ D A w' U) A) (by decide) (Nat.le_of_ble_eq_true rfl) (fun p e s m args below meth c A ls H C hrt hnm hS hP hD hl => ?_)
  have hx := C.1
  have hb := C.2.1
  have hown := C.2.2.2.1
  have hts := C.2.2.2.2.1
  have hl : lv_has ls 4 [(0, .ref (ad k1)), (1, .ref (ad k2)), (2, .int (nI n0))] := hl
  refine lv_iconst (v := 0) hx hb dX0_copyRow_0 (by decide) ?_
  refine lv_istore_n (lv' := [(3, .int 0), (0, .ref (ad k1)), (1, .ref (ad k2)), (2, .int (nI n0))]) hx hb dX0_copyRow_1 rfl hl (by decide) rfl (fun ls hl => ?_)
  refine lpX0_copyRow  C hk1 hk2 hn1 hn2 hn8 (fun H locs ls hP hD hS hl => ?_) n0 0 (by omega) _ _ _ hP hD hS (lv_sub hl [1, 2, 3, 0] rfl)
  exact g_vret C hrt hP hD hS dX0_copyRow_19 (by skip; rfl)
theorem kd_X0_handOut : yX0_handOut.cls = yX0_handOut.cls ∧ yX0_handOut.cls ≠ "java/lang/invoke/MethodHandle" ∧ yX0_handOut.cls ≠ "java/lang/invoke/VarHandle" ∧ (parseMethodDescriptor yX0_handOut.desc).map (fun d => d.parameters.length) = some 2 := by decide +kernel
set_option maxHeartbeats 4000000 in
set_option maxRecDepth 100000 in
theorem lpX0_handOut {p : Program} {l : Launch} {e : Env} {s : State} {m : MethodId} {args : Array Value} {below : List Frame} {meth : Method} {c : Code} {Q : State → Prop} {D : va_G} {t : Nat → Nat} {A : Nat → Prop} {cI : ClassId} {o : Nat} {ad : Nat → Nat} {u : S0} {k : Nat} {sm : Int32} (C : gC p s m args meth c cX0_handOut 6 RX0 D [(cI, .int)] t A) (hk : k = 8 ∨ k = 12) (kk : ∀ (H : Heap) (locs : List Loc) (ls : Array Slot), va_P D vwCl (ra_w cI o ad ((rf_ho u k sm 3).2)) H → va_D A (ra_w cI o ad ((rf_ho u k sm 3).2)) → va_S A s.heap H locs → lv_has ls 6 [(0, .ref o), (1, .ref (ad k)), (2, .int sm), (3, .int ((rf_ho u k sm 3).1)), (4, .int (nI 3))] → W p l e (rm_ 1 0 0 21) s m args below meth c H locs 0 0 Q (F0 m 66 ls [])) :
    ∀ (n i : Nat), i + n = 3 → ∀ (H : Heap) (locs : List Loc) (ls : Array Slot), va_P D vwCl (ra_w cI o ad ((rf_ho u k sm i).2)) H → va_D A (ra_w cI o ad ((rf_ho u k sm i).2)) → va_S A s.heap H locs → lv_has ls 6 [(0, .ref o), (1, .ref (ad k)), (2, .int sm), (3, .int ((rf_ho u k sm i).1)), (4, .int (nI i))] → W p l e (rm_ 1 0 0 21) s m args below meth c H locs 0 0 Q (F0 m 5 ls []) := by
  have hx := C.1
  have hb := C.2.1
  have hown := C.2.2.2.1
  have hts := C.2.2.2.2.1
  intro n
  induction n with
  | zero =>
    intro i hi H locs ls hP hD hS hl
    have hiN : i = 3 := by omega
    refine lv_iload hx hb dX0_handOut_5 (lv_at hl 4 rfl) ?_
    refine lv_iconst (v := 3) hx hb dX0_handOut_7 (by decide) ?_
    refine lv_icmp_ge (tgt := 66) hx hb dX0_handOut_8 (by decide) (fun c1 => ?_) (fun c1 => absurd ((nI_leI (a := 3) (b := i) (by omega) (by omega)).mpr (by omega)) c1)
    subst hiN
    exact kk _ _ _ hP hD hS (lv_sub hl [0, 1, 2, 3, 4] rfl)
  | succ n ih =>
    intro i hi H locs ls hP hD hS hl
    have hin : i < 3 := by omega
    refine lv_iload hx hb dX0_handOut_5 (lv_at hl 4 rfl) ?_
    refine lv_iconst (v := 3) hx hb dX0_handOut_7 (by decide) ?_
    refine lv_icmp_ge (tgt := 66) hx hb dX0_handOut_8 (by decide) (fun c1 => absurd c1 (fun h9 => absurd ((nI_leI (a := 3) (b := i) (by omega) (by omega)).mp h9) (by omega))) (fun c1 => ?_)
    refine lv_iload_n hx hb dX0_handOut_11 rfl (lv_at hl 3 rfl) ?_
    refine g_gs C hS (C.2.2.2.2.2.2.2.1.2.2.2.2.1) q154 dX0_handOut_12 ?_
    refine lv_iload hx hb dX0_handOut_15 (lv_at hl 4 rfl) ?_
    refine g_ti C hS (N := 3) (i := i) (f := rt_RX0_COIN_WORTH) C.2.2.2.2.2.2.2.1.2.2.2.2.2.1 (by decide) hin rfl dX0_handOut_17 ?_
    refine g_ci (wr := []) (cells' := 0) (slots' := 0) rfl rfl C rd_nil hD hS (g_runS (wr := []) (n := 2) (As := [.int ((rf_ho u k sm i).1), .int (rt_RX0_COIN_WORTH i)]) C (mX0_wholeParts l D t [(cI, .int)] (ra_w cI o ad ((rf_ho u k sm i).2)) H.size ((rf_ho u k sm i).1) (rt_RX0_COIN_WORTH i)) (rw_S q147 q148 q2 q149) kd_X0_wholeParts ⟨Nat.le_of_ble_eq_true rfl, Nat.le_of_ble_eq_true rfl⟩ C.2.2.2.2.2.1 hP hD hS hl.1 rfl rfl (Nat.le_of_ble_eq_true rfl) dX0_handOut_18 ⟨Nat.le_of_ble_eq_true rfl, Nat.le_of_ble_eq_true rfl⟩) (fun v w' H locs hv _ _ hP hD hS => ?_)
    obtain ⟨rfl, rfl⟩ := hv
    have hD : va_D A (ra_w cI o ad ((rf_ho u k sm i).2)) := hD
    refine lv_aload_n hx hb dX0_handOut_21 rfl (lv_at hl 1 rfl) ?_
    refine lv_iload hx hb dX0_handOut_22 (lv_at hl 4 rfl) ?_
    refine x0_ld C hP (k := k) (i := i) (Or.elim hk (fun h => h ▸ Or.inl (by decide)) (fun h => h ▸ Or.inr ⟨by decide, by decide⟩)) (by rcases hk with rfl | rfl <;> exact hin) rfl dX0_handOut_24 ?_
    refine g_min C q131 q132 q125 q133 hl.1 (Nat.le_of_ble_eq_true rfl) (Nat.le_of_ble_eq_true rfl) (Nat.le_of_ble_eq_true rfl) (Nat.le_of_ble_eq_true rfl) dX0_handOut_25 ?_
    refine lv_topi (fun v2 ev2 => ?_)
    refine lv_istore (lv' := [(5, .int v2), (0, .ref o), (1, .ref (ad k)), (2, .int sm), (3, .int ((rf_ho u k sm i).1)), (4, .int (nI i))]) hx hb dX0_handOut_28 hl (by decide) rfl (fun ls hl => ?_)
    refine lv_aload_n hx hb dX0_handOut_30 rfl (lv_at hl 2 rfl) ?_
    refine lv_iload hx hb dX0_handOut_31 (lv_at hl 5 rfl) ?_
    refine lv_dup2_11 hx hb dX0_handOut_33 rfl rfl ?_
    refine x0_ld C hP (k := k) (i := i) (Or.elim hk (fun h => h ▸ Or.inl (by decide)) (fun h => h ▸ Or.inr ⟨by decide, by decide⟩)) (by rcases hk with rfl | rfl <;> exact hin) rfl dX0_handOut_34 ?_
    refine lv_iload hx hb dX0_handOut_35 (lv_at hl 0 rfl) ?_
    refine lv_isub hx hb dX0_handOut_37 ?_
    refine x0_st C hP hD hS (k := k) (i := i) (Or.elim hk (fun h => h ▸ Or.inl (by decide)) (fun h => h ▸ Or.inr ⟨by decide, by decide⟩)) (by rcases hk with rfl | rfl <;> exact hin) rfl dX0_handOut_38 (fun H locs hP hD hS => ?_)
    obtain ⟨u3, eu3⟩ : ∃ z : S0, z = ra_s ((rf_ho u k sm i).2) k i ((((rf_ho u k sm i).2).1 k i) - v2) := ⟨_, rfl⟩
    have hP : va_P D vwCl (ra_w cI o ad u3) H := by rw [eu3]; exact hP
    have hD : va_D A (ra_w cI o ad u3) := by rw [eu3]; exact hD
    refine lv_aload_n hx hb dX0_handOut_39 rfl (lv_at hl 1 rfl) ?_
    refine x0_gf C hP 13 (by decide) (v := .ref (ad 13)) rfl rfl q22 dX0_handOut_40 ?_
    refine lv_iload hx hb dX0_handOut_43 (lv_at hl 5 rfl) ?_
    refine lv_iload hx hb dX0_handOut_45 (lv_at hl 0 rfl) ?_
    refine x0_st C hP hD hS (k := 13) (i := i) (Or.inr ⟨by decide, by decide⟩) hin rfl dX0_handOut_47 (fun H locs hP hD hS => ?_)
    obtain ⟨u4, eu4⟩ : ∃ z : S0, z = ra_s u3 13 i v2 := ⟨_, rfl⟩
    have hP : va_P D vwCl (ra_w cI o ad u4) H := by rw [eu4]; exact hP
    have hD : va_D A (ra_w cI o ad u4) := by rw [eu4]; exact hD
    refine lv_iload_n hx hb dX0_handOut_48 rfl (lv_at hl 4 rfl) ?_
    refine lv_iload hx hb dX0_handOut_49 (lv_at hl 0 rfl) ?_
    refine g_gs C hS (C.2.2.2.2.2.2.2.1.2.2.2.2.1) q154 dX0_handOut_51 ?_
    refine lv_iload hx hb dX0_handOut_54 (lv_at hl 5 rfl) ?_
    refine g_ti C hS (N := 3) (i := i) (f := rt_RX0_COIN_WORTH) C.2.2.2.2.2.2.2.1.2.2.2.2.2.1 (by decide) hin rfl dX0_handOut_56 ?_
    refine lv_imul hx hb dX0_handOut_57 ?_
    refine lv_isub hx hb dX0_handOut_58 ?_
    refine lv_topi (fun v5 ev5 => ?_)
    refine lv_istore_n (lv' := [(3, .int v5), (5, .int v2), (0, .ref o), (1, .ref (ad k)), (2, .int sm), (4, .int (nI i))]) hx hb dX0_handOut_59 rfl hl (by decide) rfl (fun ls hl => ?_)
    refine lv_iinc (v := nI (i + 1)) (lv' := [(4, .int (nI (i + 1))), (3, .int v5), (5, .int v2), (0, .ref o), (1, .ref (ad k)), (2, .int sm)]) hx hb dX0_handOut_60 hl (k := 5) rfl (nI_1 _) (by decide) rfl (fun ls hl => ?_)
    refine lv_goto (tgt := 5) hx hb dX0_handOut_63 (by decide) ?_
    subst ev5; subst eu4; subst eu3; subst ev2
    exact ih (i + 1) (by omega) _ _ _ hP hD hS (lv_sub hl [3, 4, 5, 1, 0] rfl)
set_option maxHeartbeats 4000000 in
set_option maxRecDepth 100000 in
theorem mX0_handOut (l : Launch) (D : va_G) (t : Nat → Nat) (cI : ClassId) (o : Nat) (ad : Nat → Nat) (sz : Nat) (u : S0) (k : Nat) (hk : k = 8 ∨ k = 12) (sm : Int32) : gMi l yX0_handOut (rw_ yX0_handOut cX0_handOut 6 (some .int)) (rm_ 1 0 0 21) [.ref o, .ref (ad k), .int sm] D [(cI, .int)] t (ra_w cI o ad u) sz (fun v w' => v = rf_hv u k sm ∧ w' = ra_w cI o ad (rf_hs u k sm)) := by
  refine g_of (cc := cX0_handOut) (nL := 6) (rt := (some .int)) (Q := fun A => va_Qi _ (fun w' U => gQ D A w' U) A) (by decide) (Nat.le_of_ble_eq_true rfl) (fun p e s m args below meth c A ls H C hrt hnm hS hP hD hl => ?_)
  have hx := C.1
  have hb := C.2.1
  have hown := C.2.2.2.1
  have hts := C.2.2.2.2.1
  have hl : lv_has ls 6 [(0, .ref o), (1, .ref (ad k)), (2, .int sm)] := hl
  refine lv_iload_n hx hb dX0_handOut_0 rfl (lv_at hl 2 rfl) ?_
  refine lv_istore_n (lv' := [(3, .int sm), (0, .ref o), (1, .ref (ad k)), (2, .int sm)]) hx hb dX0_handOut_1 rfl hl (by decide) rfl (fun ls hl => ?_)
  refine lv_iconst (v := 0) hx hb dX0_handOut_2 (by decide) ?_
  refine lv_istore (lv' := [(4, .int 0), (3, .int sm), (0, .ref o), (1, .ref (ad k)), (2, .int sm)]) hx hb dX0_handOut_3 hl (by decide) rfl (fun ls hl => ?_)
  refine lpX0_handOut  C hk (fun H locs ls hP hD hS hl => ?_) 3 0 (by omega) _ _ _ hP hD hS (lv_sub hl [2, 3, 4, 1, 0] rfl)
  refine lv_iload_n hx hb dX0_handOut_66 rfl (lv_at hl 2 rfl) ?_
  refine lv_iload_n hx hb dX0_handOut_67 rfl (lv_at hl 3 rfl) ?_
  refine lv_isub hx hb dX0_handOut_68 ?_
  exact g_iret C hrt hP hD hS dX0_handOut_69 ⟨by skip; rfl, by skip; rfl⟩
theorem kd_X0_settle : yX0_settle.cls = yX0_settle.cls ∧ yX0_settle.cls ≠ "java/lang/invoke/MethodHandle" ∧ yX0_settle.cls ≠ "java/lang/invoke/VarHandle" ∧ (parseMethodDescriptor yX0_settle.desc).map (fun d => d.parameters.length) = some 1 := by decide +kernel
set_option maxHeartbeats 4000000 in
set_option maxRecDepth 100000 in
theorem mX0_settle (l : Launch) (D : va_G) (t : Nat → Nat) (cI : ClassId) (o : Nat) (ad : Nat → Nat) (sz : Nat) (u : S0) (r : Nat) (hr8 : r < 8) : gMi l yX0_settle (rw_ yX0_settle cX0_settle 5 (some .int)) (rm_ 5 0 0 110) [.ref o, .int (nI r)] D [(cI, .int)] t (ra_w cI o ad u) sz (fun v w' => v = rf_sv u r ∧ w' = ra_w cI o ad (rf_st u r)) := by
  refine g_of (cc := cX0_settle) (nL := 5) (rt := (some .int)) (Q := fun A => va_Qi _ (fun w' U => gQ D A w' U) A) (by decide) (Nat.le_of_ble_eq_true rfl) (fun p e s m args below meth c A ls H C hrt hnm hS hP hD hl => ?_)
  have hx := C.1
  have hb := C.2.1
  have hown := C.2.2.2.1
  have hts := C.2.2.2.2.1
  have hl : lv_has ls 5 [(0, .ref o), (1, .int (nI r))] := hl
  refine lv_aload_n hx hb dX0_settle_0 rfl (lv_at hl 0 rfl) ?_
  refine lv_iload_n hx hb dX0_settle_1 rfl (lv_at hl 1 rfl) ?_
  refine g_ci (wr := []) (cells' := 0) (slots' := 0) rfl rfl C rd_nil hD hS (g_runV (wr := []) (n := 1) C (mX0_coming l D t cI o ad H.size u r hr8) (rw_V q115 q116 q117 q2 q118) kd_X0_coming ⟨Nat.le_of_ble_eq_true rfl, Nat.le_of_ble_eq_true rfl⟩ (ci := 0) rfl rfl rfl C.2.2.2.2.2.1 hP hD hS hl.1 rfl rfl (Nat.le_of_ble_eq_true rfl) dX0_settle_2 ⟨Nat.le_of_ble_eq_true rfl, Nat.le_of_ble_eq_true rfl⟩) (fun v w' H locs hv _ _ hP hD hS => ?_)
  obtain ⟨rfl, rfl⟩ := hv
  have hD : va_D A (ra_w cI o ad u) := hD
  refine lv_topi (fun v1 ev1 => ?_)
  refine lv_istore_n (lv' := [(2, .int v1), (0, .ref o), (1, .int (nI r))]) hx hb dX0_settle_5 rfl hl (by decide) rfl (fun ls hl => ?_)
  refine lv_aload_n hx hb dX0_settle_6 rfl (lv_at hl 1 rfl) ?_
  refine lv_aload_n hx hb dX0_settle_7 rfl (lv_at hl 1 rfl) ?_
  refine x0_gf C hP 4 (by decide) (v := .ref (ad 4)) rfl rfl q15 dX0_settle_8 ?_
  refine lv_iload_n hx hb dX0_settle_11 rfl (lv_at hl 2 rfl) ?_
  refine x0_ld C hP (k := 4) (i := r) (Or.inl (by decide)) hr8 rfl dX0_settle_12 ?_
  refine lv_iload_n hx hb dX0_settle_13 rfl (lv_at hl 0 rfl) ?_
  refine g_ci (wr := []) (cells' := 0) (slots' := 0) rfl rfl C rd_nil hD hS (g_runV (wr := []) (n := 2) C (mX0_takenBack l D t cI o ad H.size u (u.1 4 r) v1) (rw_V q143 q144 q145 q2 q146) kd_X0_takenBack ⟨Nat.le_of_ble_eq_true rfl, Nat.le_of_ble_eq_true rfl⟩ (ci := 0) rfl rfl rfl C.2.2.2.2.2.1 hP hD hS hl.1 rfl rfl (Nat.le_of_ble_eq_true rfl) dX0_settle_14 ⟨Nat.le_of_ble_eq_true rfl, Nat.le_of_ble_eq_true rfl⟩) (fun v w' H locs hv _ _ hP hD hS => ?_)
  obtain ⟨rfl, rfl⟩ := hv
  have hD : va_D A (ra_w cI o ad u) := hD
  refine lv_topi (fun v2 ev2 => ?_)
  refine lv_istore_n (lv' := [(3, .int v2), (2, .int v1), (0, .ref o), (1, .int (nI r))]) hx hb dX0_settle_17 rfl hl (by decide) rfl (fun ls hl => ?_)
  refine lv_aload_n hx hb dX0_settle_18 rfl (lv_at hl 2 rfl) ?_
  refine lv_aload_n hx hb dX0_settle_19 rfl (lv_at hl 2 rfl) ?_
  refine x0_gf C hP 8 (by decide) (v := .ref (ad 8)) rfl rfl q19 dX0_settle_20 ?_
  refine lv_iload_n hx hb dX0_settle_23 rfl (lv_at hl 1 rfl) ?_
  refine lv_iload_n hx hb dX0_settle_24 rfl (lv_at hl 0 rfl) ?_
  refine lv_isub hx hb dX0_settle_25 ?_
  refine g_ci (wr := []) (cells' := 0) (slots' := 0) rfl rfl C rd_nil hD hS (g_runV (wr := []) (n := 2) C (mX0_handOut l D t cI o ad H.size u 8 (Or.inl rfl) (v1 - v2)) (rw_V q150 q151 q152 q2 q153) kd_X0_handOut ⟨Nat.le_of_ble_eq_true rfl, Nat.le_of_ble_eq_true rfl⟩ (ci := 0) rfl rfl rfl C.2.2.2.2.2.1 hP hD hS hl.1 rfl rfl (Nat.le_of_ble_eq_true rfl) dX0_settle_26 ⟨Nat.le_of_ble_eq_true rfl, Nat.le_of_ble_eq_true rfl⟩) (fun v w' H locs hv _ _ hP hD hS => ?_)
  obtain ⟨rfl, rfl⟩ := hv
  have hD : va_D A (ra_w cI o ad (rf_hs u 8 (v1 - v2))) := hD
  obtain ⟨u3, eu3⟩ : ∃ z : S0, z = rf_hs u 8 (v1 - v2) := ⟨_, rfl⟩
  have hP : va_P D vwCl (ra_w cI o ad u3) H := by rw [eu3]; exact hP
  have hD : va_D A (ra_w cI o ad u3) := by rw [eu3]; exact hD
  refine lv_topi (fun v4 ev4 => ?_)
  refine lv_istore (lv' := [(4, .int v4), (3, .int v2), (2, .int v1), (0, .ref o), (1, .int (nI r))]) hx hb dX0_settle_29 hl (by decide) rfl (fun ls hl => ?_)
  refine lv_aload_n hx hb dX0_settle_31 rfl (lv_at hl 3 rfl) ?_
  refine x0_gf C hP 4 (by decide) (v := .ref (ad 4)) rfl rfl q15 dX0_settle_32 ?_
  refine lv_iload_n hx hb dX0_settle_35 rfl (lv_at hl 4 rfl) ?_
  refine lv_dup2_11 hx hb dX0_settle_36 rfl rfl ?_
  refine x0_ld C hP (k := 4) (i := r) (Or.inl (by decide)) hr8 rfl dX0_settle_37 ?_
  refine lv_iload_n hx hb dX0_settle_38 rfl (lv_at hl 1 rfl) ?_
  refine lv_isub hx hb dX0_settle_39 ?_
  refine x0_st C hP hD hS (k := 4) (i := r) (Or.inl (by decide)) hr8 rfl dX0_settle_40 (fun H locs hP hD hS => ?_)
  obtain ⟨u5, eu5⟩ : ∃ z : S0, z = ra_s u3 4 r ((u3.1 4 r) - v2) := ⟨_, rfl⟩
  have hP : va_P D vwCl (ra_w cI o ad u5) H := by rw [eu5]; exact hP
  have hD : va_D A (ra_w cI o ad u5) := by rw [eu5]; exact hD
  refine lv_aload_n hx hb dX0_settle_41 rfl (lv_at hl 3 rfl) ?_
  refine x0_gf C hP 5 (by decide) (v := .ref (ad 5)) rfl rfl q16 dX0_settle_42 ?_
  refine lv_iload_n hx hb dX0_settle_45 rfl (lv_at hl 4 rfl) ?_
  refine lv_iload_n hx hb dX0_settle_46 rfl (lv_at hl 2 rfl) ?_
  refine lv_iload_n hx hb dX0_settle_47 rfl (lv_at hl 1 rfl) ?_
  refine lv_isub hx hb dX0_settle_48 ?_
  refine lv_iload hx hb dX0_settle_49 (lv_at hl 0 rfl) ?_
  refine lv_isub hx hb dX0_settle_51 ?_
  refine x0_st C hP hD hS (k := 5) (i := r) (Or.inl (by decide)) hr8 rfl dX0_settle_52 (fun H locs hP hD hS => ?_)
  obtain ⟨u6, eu6⟩ : ∃ z : S0, z = ra_s u5 5 r ((v1 - v2) - v4) := ⟨_, rfl⟩
  have hP : va_P D vwCl (ra_w cI o ad u6) H := by rw [eu6]; exact hP
  have hD : va_D A (ra_w cI o ad u6) := by rw [eu6]; exact hD
  refine lv_aload_n hx hb dX0_settle_53 rfl (lv_at hl 3 rfl) ?_
  refine x0_gf C hP 6 (by decide) (v := .ref (ad 6)) rfl rfl q17 dX0_settle_54 ?_
  refine lv_iload_n hx hb dX0_settle_57 rfl (lv_at hl 4 rfl) ?_
  refine lv_dup2_11 hx hb dX0_settle_58 rfl rfl ?_
  refine x0_ld C hP (k := 6) (i := r) (Or.inl (by decide)) hr8 rfl dX0_settle_59 ?_
  refine lv_iload hx hb dX0_settle_60 (lv_at hl 0 rfl) ?_
  refine lv_iadd hx hb dX0_settle_62 ?_
  refine x0_st C hP hD hS (k := 6) (i := r) (Or.inl (by decide)) hr8 rfl dX0_settle_63 (fun H locs hP hD hS => ?_)
  obtain ⟨u7, eu7⟩ : ∃ z : S0, z = ra_s u6 6 r ((u6.1 6 r) + v4) := ⟨_, rfl⟩
  have hP : va_P D vwCl (ra_w cI o ad u7) H := by rw [eu7]; exact hP
  have hD : va_D A (ra_w cI o ad u7) := by rw [eu7]; exact hD
  refine lv_aload_n hx hb dX0_settle_64 rfl (lv_at hl 3 rfl) ?_
  refine x0_gf C hP 1 (by decide) (v := .ref (ad 1)) rfl rfl q12 dX0_settle_65 ?_
  refine lv_iload_n hx hb dX0_settle_68 rfl (lv_at hl 4 rfl) ?_
  refine lv_iconst (v := 0) hx hb dX0_settle_69 (by decide) ?_
  refine x0_st C hP hD hS (k := 1) (i := r) (Or.inl (by decide)) hr8 rfl dX0_settle_70 (fun H locs hP hD hS => ?_)
  obtain ⟨u8, eu8⟩ : ∃ z : S0, z = ra_s u7 1 r 0 := ⟨_, rfl⟩
  have hP : va_P D vwCl (ra_w cI o ad u8) H := by rw [eu8]; exact hP
  have hD : va_D A (ra_w cI o ad u8) := by rw [eu8]; exact hD
  refine lv_aload_n hx hb dX0_settle_71 rfl (lv_at hl 3 rfl) ?_
  refine x0_gf C hP 2 (by decide) (v := .ref (ad 2)) rfl rfl q13 dX0_settle_72 ?_
  refine lv_iload_n hx hb dX0_settle_75 rfl (lv_at hl 4 rfl) ?_
  refine lv_iconst (v := 0) hx hb dX0_settle_76 (by decide) ?_
  refine x0_st C hP hD hS (k := 2) (i := r) (Or.inl (by decide)) hr8 rfl dX0_settle_77 (fun H locs hP hD hS => ?_)
  obtain ⟨u9, eu9⟩ : ∃ z : S0, z = ra_s u8 2 r 0 := ⟨_, rfl⟩
  have hP : va_P D vwCl (ra_w cI o ad u9) H := by rw [eu9]; exact hP
  have hD : va_D A (ra_w cI o ad u9) := by rw [eu9]; exact hD
  refine lv_aload_n hx hb dX0_settle_78 rfl (lv_at hl 3 rfl) ?_
  refine x0_gf C hP 3 (by decide) (v := .ref (ad 3)) rfl rfl q14 dX0_settle_79 ?_
  refine lv_iload_n hx hb dX0_settle_82 rfl (lv_at hl 4 rfl) ?_
  refine lv_iconst (v := 0) hx hb dX0_settle_83 (by decide) ?_
  refine x0_st C hP hD hS (k := 3) (i := r) (Or.inl (by decide)) hr8 rfl dX0_settle_84 (fun H locs hP hD hS => ?_)
  obtain ⟨u10, eu10⟩ : ∃ z : S0, z = ra_s u9 3 r 0 := ⟨_, rfl⟩
  have hP : va_P D vwCl (ra_w cI o ad u10) H := by rw [eu10]; exact hP
  have hD : va_D A (ra_w cI o ad u10) := by rw [eu10]; exact hD
  refine lv_iload hx hb dX0_settle_85 (lv_at hl 0 rfl) ?_
  exact g_iret C hrt hP hD hS dX0_settle_87 ⟨by subst eu10; subst eu9; subst eu8; subst eu7; subst eu6; subst eu5; subst ev4; subst eu3; subst ev2; subst ev1; rfl, by subst eu10; subst eu9; subst eu8; subst eu7; subst eu6; subst eu5; subst ev4; subst eu3; subst ev2; subst ev1; rfl⟩
theorem kd_X0_allWages : yX0_allWages.cls = yX0_allWages.cls ∧ yX0_allWages.cls ≠ "java/lang/invoke/MethodHandle" ∧ yX0_allWages.cls ≠ "java/lang/invoke/VarHandle" ∧ (parseMethodDescriptor yX0_allWages.desc).map (fun d => d.parameters.length) = some 1 := by decide +kernel
set_option maxHeartbeats 4000000 in
set_option maxRecDepth 100000 in
theorem lpX0_allWages {p : Program} {l : Launch} {e : Env} {s : State} {m : MethodId} {args : Array Value} {below : List Frame} {meth : Method} {c : Code} {Q : State → Prop} {D : va_G} {t : Nat → Nat} {A : Nat → Prop} {cI : ClassId} {o : Nat} {ad : Nat → Nat} {u : S0} {k : Nat} (C : gC p s m args meth c cX0_allWages 4 RX0 D [(cI, .int)] t A) (hh : u.2.1 ≤ 8) (hk : k = 7 ∨ k = 11) (kk : ∀ (H : Heap) (locs : List Loc) (ls : Array Slot), va_P D vwCl (ra_w cI o ad u) H → va_D A (ra_w cI o ad u) → va_S A s.heap H locs → lv_has ls 4 [(0, .ref o), (1, .ref (ad k)), (2, .int (rf_sm (rf_ww u k) u.2.1)), (3, .int (nI u.2.1))] → W p l e (rm_ 4 0 0 89) s m args below meth c H locs 0 0 Q (F0 m 27 ls [])) :
    ∀ (n i : Nat), i + n = u.2.1 → ∀ (H : Heap) (locs : List Loc) (ls : Array Slot), va_P D vwCl (ra_w cI o ad u) H → va_D A (ra_w cI o ad u) → va_S A s.heap H locs → lv_has ls 4 [(0, .ref o), (1, .ref (ad k)), (2, .int (rf_sm (rf_ww u k) i)), (3, .int (nI i))] → W p l e (rm_ 4 0 0 89) s m args below meth c H locs 0 0 Q (F0 m 4 ls []) := by
  have hx := C.1
  have hb := C.2.1
  have hown := C.2.2.2.1
  have hts := C.2.2.2.2.1
  intro n
  induction n with
  | zero =>
    intro i hi H locs ls hP hD hS hl
    have hiN : i = u.2.1 := by omega
    refine lv_iload_n hx hb dX0_allWages_4 rfl (lv_at hl 3 rfl) ?_
    refine lv_aload_n hx hb dX0_allWages_5 rfl (lv_at hl 0 rfl) ?_
    refine x0_gf C hP 9 (by decide) (v := .int (nI u.2.1)) rfl rfl q66 dX0_allWages_6 ?_
    refine lv_icmp_ge (tgt := 27) hx hb dX0_allWages_9 (by decide) (fun c1 => ?_) (fun c1 => absurd ((nI_leI (a := u.2.1) (b := i) (by omega) (by omega)).mpr (by omega)) c1)
    subst hiN
    exact kk _ _ _ hP hD hS (lv_sub hl [0, 1, 2, 3] rfl)
  | succ n ih =>
    intro i hi H locs ls hP hD hS hl
    have hin : i < u.2.1 := by omega
    refine lv_iload_n hx hb dX0_allWages_4 rfl (lv_at hl 3 rfl) ?_
    refine lv_aload_n hx hb dX0_allWages_5 rfl (lv_at hl 0 rfl) ?_
    refine x0_gf C hP 9 (by decide) (v := .int (nI u.2.1)) rfl rfl q66 dX0_allWages_6 ?_
    refine lv_icmp_ge (tgt := 27) hx hb dX0_allWages_9 (by decide) (fun c1 => absurd c1 (fun h9 => absurd ((nI_leI (a := u.2.1) (b := i) (by omega) (by omega)).mp h9) (by omega))) (fun c1 => ?_)
    refine lv_iload_n hx hb dX0_allWages_12 rfl (lv_at hl 2 rfl) ?_
    refine lv_aload_n hx hb dX0_allWages_13 rfl (lv_at hl 0 rfl) ?_
    refine lv_iload_n hx hb dX0_allWages_14 rfl (lv_at hl 3 rfl) ?_
    refine lv_aload_n hx hb dX0_allWages_15 rfl (lv_at hl 1 rfl) ?_
    refine g_ci (wr := []) (cells' := 0) (slots' := 0) rfl rfl C rd_nil hD hS (g_runV (wr := []) (n := 2) C (mX0_weekWage l D t cI o ad H.size u k hk i (by omega)) (rw_V q119 q120 q121 q2 q122) kd_X0_weekWage ⟨Nat.le_of_ble_eq_true rfl, Nat.le_of_ble_eq_true rfl⟩ (ci := 0) rfl rfl rfl C.2.2.2.2.2.1 hP hD hS hl.1 rfl rfl (Nat.le_of_ble_eq_true rfl) dX0_allWages_16 ⟨Nat.le_of_ble_eq_true rfl, Nat.le_of_ble_eq_true rfl⟩) (fun v w' H locs hv _ _ hP hD hS => ?_)
    obtain ⟨rfl, rfl⟩ := hv
    have hD : va_D A (ra_w cI o ad u) := hD
    refine lv_iadd hx hb dX0_allWages_19 ?_
    refine lv_topi (fun v2 ev2 => ?_)
    refine lv_istore_n (lv' := [(2, .int v2), (0, .ref o), (1, .ref (ad k)), (3, .int (nI i))]) hx hb dX0_allWages_20 rfl hl (by decide) rfl (fun ls hl => ?_)
    refine lv_iinc (v := nI (i + 1)) (lv' := [(3, .int (nI (i + 1))), (2, .int v2), (0, .ref o), (1, .ref (ad k))]) hx hb dX0_allWages_21 hl (k := 3) rfl (nI_1 _) (by decide) rfl (fun ls hl => ?_)
    refine lv_goto (tgt := 4) hx hb dX0_allWages_24 (by decide) ?_
    subst ev2
    exact ih (i + 1) (by omega) _ _ _ hP hD hS (lv_sub hl [2, 3, 1, 0] rfl)
set_option maxHeartbeats 4000000 in
set_option maxRecDepth 100000 in
theorem mX0_allWages (l : Launch) (D : va_G) (t : Nat → Nat) (cI : ClassId) (o : Nat) (ad : Nat → Nat) (sz : Nat) (u : S0) (k : Nat) (hk : k = 7 ∨ k = 11) (hh : u.2.1 ≤ 8) : gMi l yX0_allWages (rw_ yX0_allWages cX0_allWages 4 (some .int)) (rm_ 4 0 0 89) [.ref o, .ref (ad k)] D [(cI, .int)] t (ra_w cI o ad u) sz (fun v w' => v = rf_sm (rf_ww u k) u.2.1 ∧ w' = ra_w cI o ad u) := by
  refine g_of (cc := cX0_allWages) (nL := 4) (rt := (some .int)) (Q := fun A => va_Qi _ (fun w' U => gQ D A w' U) A) (by decide) (Nat.le_of_ble_eq_true rfl) (fun p e s m args below meth c A ls H C hrt hnm hS hP hD hl => ?_)
  have hx := C.1
  have hb := C.2.1
  have hown := C.2.2.2.1
  have hts := C.2.2.2.2.1
  have hl : lv_has ls 4 [(0, .ref o), (1, .ref (ad k))] := hl
  refine lv_iconst (v := 0) hx hb dX0_allWages_0 (by decide) ?_
  refine lv_istore_n (lv' := [(2, .int 0), (0, .ref o), (1, .ref (ad k))]) hx hb dX0_allWages_1 rfl hl (by decide) rfl (fun ls hl => ?_)
  refine lv_iconst (v := 0) hx hb dX0_allWages_2 (by decide) ?_
  refine lv_istore_n (lv' := [(3, .int 0), (2, .int 0), (0, .ref o), (1, .ref (ad k))]) hx hb dX0_allWages_3 rfl hl (by decide) rfl (fun ls hl => ?_)
  refine lpX0_allWages  C hh hk (fun H locs ls hP hD hS hl => ?_) u.2.1 0 (by omega) _ _ _ hP hD hS (lv_sub hl [2, 3, 1, 0] rfl)
  refine lv_iload_n hx hb dX0_allWages_27 rfl (lv_at hl 2 rfl) ?_
  exact g_iret C hrt hP hD hS dX0_allWages_28 ⟨by skip; rfl, by skip; rfl⟩
theorem kd_X0_sumOfHired : yX0_sumOfHired.cls = yX0_sumOfHired.cls ∧ yX0_sumOfHired.cls ≠ "java/lang/invoke/MethodHandle" ∧ yX0_sumOfHired.cls ≠ "java/lang/invoke/VarHandle" ∧ (parseMethodDescriptor yX0_sumOfHired.desc).map (fun d => d.parameters.length) = some 1 := by decide +kernel
set_option maxHeartbeats 4000000 in
set_option maxRecDepth 100000 in
theorem lpX0_sumOfHired {p : Program} {l : Launch} {e : Env} {s : State} {m : MethodId} {args : Array Value} {below : List Frame} {meth : Method} {c : Code} {Q : State → Prop} {D : va_G} {t : Nat → Nat} {A : Nat → Prop} {cI : ClassId} {o : Nat} {ad : Nat → Nat} {u : S0} {k : Nat} (C : gC p s m args meth c cX0_sumOfHired 4 RX0 D [(cI, .int)] t A) (hh : u.2.1 ≤ 8) (hk : k = 4 ∨ k = 5 ∨ k = 6) (kk : ∀ (H : Heap) (locs : List Loc) (ls : Array Slot), va_P D vwCl (ra_w cI o ad u) H → va_D A (ra_w cI o ad u) → va_S A s.heap H locs → lv_has ls 4 [(0, .ref o), (1, .ref (ad k)), (2, .int (rf_sm (u.1 k) u.2.1)), (3, .int (nI u.2.1))] → W p l e (rm_ 0 0 0 0) s m args below meth c H locs 0 0 Q (F0 m 24 ls [])) :
    ∀ (n i : Nat), i + n = u.2.1 → ∀ (H : Heap) (locs : List Loc) (ls : Array Slot), va_P D vwCl (ra_w cI o ad u) H → va_D A (ra_w cI o ad u) → va_S A s.heap H locs → lv_has ls 4 [(0, .ref o), (1, .ref (ad k)), (2, .int (rf_sm (u.1 k) i)), (3, .int (nI i))] → W p l e (rm_ 0 0 0 0) s m args below meth c H locs 0 0 Q (F0 m 4 ls []) := by
  have hx := C.1
  have hb := C.2.1
  have hown := C.2.2.2.1
  have hts := C.2.2.2.2.1
  intro n
  induction n with
  | zero =>
    intro i hi H locs ls hP hD hS hl
    have hiN : i = u.2.1 := by omega
    refine lv_iload_n hx hb dX0_sumOfHired_4 rfl (lv_at hl 3 rfl) ?_
    refine lv_aload_n hx hb dX0_sumOfHired_5 rfl (lv_at hl 0 rfl) ?_
    refine x0_gf C hP 9 (by decide) (v := .int (nI u.2.1)) rfl rfl q66 dX0_sumOfHired_6 ?_
    refine lv_icmp_ge (tgt := 24) hx hb dX0_sumOfHired_9 (by decide) (fun c1 => ?_) (fun c1 => absurd ((nI_leI (a := u.2.1) (b := i) (by omega) (by omega)).mpr (by omega)) c1)
    subst hiN
    exact kk _ _ _ hP hD hS (lv_sub hl [0, 1, 2, 3] rfl)
  | succ n ih =>
    intro i hi H locs ls hP hD hS hl
    have hin : i < u.2.1 := by omega
    refine lv_iload_n hx hb dX0_sumOfHired_4 rfl (lv_at hl 3 rfl) ?_
    refine lv_aload_n hx hb dX0_sumOfHired_5 rfl (lv_at hl 0 rfl) ?_
    refine x0_gf C hP 9 (by decide) (v := .int (nI u.2.1)) rfl rfl q66 dX0_sumOfHired_6 ?_
    refine lv_icmp_ge (tgt := 24) hx hb dX0_sumOfHired_9 (by decide) (fun c1 => absurd c1 (fun h9 => absurd ((nI_leI (a := u.2.1) (b := i) (by omega) (by omega)).mp h9) (by omega))) (fun c1 => ?_)
    refine lv_iload_n hx hb dX0_sumOfHired_12 rfl (lv_at hl 2 rfl) ?_
    refine lv_aload_n hx hb dX0_sumOfHired_13 rfl (lv_at hl 1 rfl) ?_
    refine lv_iload_n hx hb dX0_sumOfHired_14 rfl (lv_at hl 3 rfl) ?_
    refine x0_ld C hP (k := k) (i := i) (Or.inl (by omega)) (by rcases hk with rfl | rfl | rfl <;> exact (by omega : i < 8)) rfl dX0_sumOfHired_15 ?_
    refine lv_iadd hx hb dX0_sumOfHired_16 ?_
    refine lv_topi (fun v2 ev2 => ?_)
    refine lv_istore_n (lv' := [(2, .int v2), (0, .ref o), (1, .ref (ad k)), (3, .int (nI i))]) hx hb dX0_sumOfHired_17 rfl hl (by decide) rfl (fun ls hl => ?_)
    refine lv_iinc (v := nI (i + 1)) (lv' := [(3, .int (nI (i + 1))), (2, .int v2), (0, .ref o), (1, .ref (ad k))]) hx hb dX0_sumOfHired_18 hl (k := 3) rfl (nI_1 _) (by decide) rfl (fun ls hl => ?_)
    refine lv_goto (tgt := 4) hx hb dX0_sumOfHired_21 (by decide) ?_
    subst ev2
    exact ih (i + 1) (by omega) _ _ _ hP hD hS (lv_sub hl [2, 3, 1, 0] rfl)
set_option maxHeartbeats 4000000 in
set_option maxRecDepth 100000 in
theorem mX0_sumOfHired (l : Launch) (D : va_G) (t : Nat → Nat) (cI : ClassId) (o : Nat) (ad : Nat → Nat) (sz : Nat) (u : S0) (k : Nat) (hk : k = 4 ∨ k = 5 ∨ k = 6) (hh : u.2.1 ≤ 8) : gMi l yX0_sumOfHired (rw_ yX0_sumOfHired cX0_sumOfHired 4 (some .int)) (rm_ 0 0 0 0) [.ref o, .ref (ad k)] D [(cI, .int)] t (ra_w cI o ad u) sz (fun v w' => v = rf_sm (u.1 k) u.2.1 ∧ w' = ra_w cI o ad u) := by
  refine g_of (cc := cX0_sumOfHired) (nL := 4) (rt := (some .int)) (Q := fun A => va_Qi _ (fun w' U => gQ D A w' U) A) (by decide) (Nat.le_of_ble_eq_true rfl) (fun p e s m args below meth c A ls H C hrt hnm hS hP hD hl => ?_)
  have hx := C.1
  have hb := C.2.1
  have hown := C.2.2.2.1
  have hts := C.2.2.2.2.1
  have hl : lv_has ls 4 [(0, .ref o), (1, .ref (ad k))] := hl
  refine lv_iconst (v := 0) hx hb dX0_sumOfHired_0 (by decide) ?_
  refine lv_istore_n (lv' := [(2, .int 0), (0, .ref o), (1, .ref (ad k))]) hx hb dX0_sumOfHired_1 rfl hl (by decide) rfl (fun ls hl => ?_)
  refine lv_iconst (v := 0) hx hb dX0_sumOfHired_2 (by decide) ?_
  refine lv_istore_n (lv' := [(3, .int 0), (2, .int 0), (0, .ref o), (1, .ref (ad k))]) hx hb dX0_sumOfHired_3 rfl hl (by decide) rfl (fun ls hl => ?_)
  refine lpX0_sumOfHired  C hh hk (fun H locs ls hP hD hS hl => ?_) u.2.1 0 (by omega) _ _ _ hP hD hS (lv_sub hl [2, 3, 1, 0] rfl)
  refine lv_iload_n hx hb dX0_sumOfHired_24 rfl (lv_at hl 2 rfl) ?_
  exact g_iret C hrt hP hD hS dX0_sumOfHired_25 ⟨by skip; rfl, by skip; rfl⟩
theorem kd_X0_worthOfPurse : yX0_worthOfPurse.cls = yX0_worthOfPurse.cls ∧ yX0_worthOfPurse.cls ≠ "java/lang/invoke/MethodHandle" ∧ yX0_worthOfPurse.cls ≠ "java/lang/invoke/VarHandle" ∧ (parseMethodDescriptor yX0_worthOfPurse.desc).map (fun d => d.parameters.length) = some 0 := by decide +kernel
set_option maxHeartbeats 4000000 in
set_option maxRecDepth 100000 in
theorem lpX0_worthOfPurse {p : Program} {l : Launch} {e : Env} {s : State} {m : MethodId} {args : Array Value} {below : List Frame} {meth : Method} {c : Code} {Q : State → Prop} {D : va_G} {t : Nat → Nat} {A : Nat → Prop} {cI : ClassId} {o : Nat} {ad : Nat → Nat} {u : S0} (C : gC p s m args meth c cX0_worthOfPurse 3 RX0 D [(cI, .int)] t A) (kk : ∀ (H : Heap) (locs : List Loc) (ls : Array Slot), va_P D vwCl (ra_w cI o ad u) H → va_D A (ra_w cI o ad u) → va_S A s.heap H locs → lv_has ls 3 [(0, .ref o), (1, .int (rf_sm (fun c => u.1 8 c * rt_RX0_COIN_WORTH c) 3)), (2, .int (nI 3))] → W p l e (rm_ 0 0 0 0) s m args below meth c H locs 0 0 Q (F0 m 30 ls [])) :
    ∀ (n i : Nat), i + n = 3 → ∀ (H : Heap) (locs : List Loc) (ls : Array Slot), va_P D vwCl (ra_w cI o ad u) H → va_D A (ra_w cI o ad u) → va_S A s.heap H locs → lv_has ls 3 [(0, .ref o), (1, .int (rf_sm (fun c => u.1 8 c * rt_RX0_COIN_WORTH c) i)), (2, .int (nI i))] → W p l e (rm_ 0 0 0 0) s m args below meth c H locs 0 0 Q (F0 m 4 ls []) := by
  have hx := C.1
  have hb := C.2.1
  have hown := C.2.2.2.1
  have hts := C.2.2.2.2.1
  intro n
  induction n with
  | zero =>
    intro i hi H locs ls hP hD hS hl
    have hiN : i = 3 := by omega
    refine lv_iload_n hx hb dX0_worthOfPurse_4 rfl (lv_at hl 2 rfl) ?_
    refine lv_iconst (v := 3) hx hb dX0_worthOfPurse_5 (by decide) ?_
    refine lv_icmp_ge (tgt := 30) hx hb dX0_worthOfPurse_6 (by decide) (fun c1 => ?_) (fun c1 => absurd ((nI_leI (a := 3) (b := i) (by omega) (by omega)).mpr (by omega)) c1)
    subst hiN
    exact kk _ _ _ hP hD hS (lv_sub hl [0, 1, 2] rfl)
  | succ n ih =>
    intro i hi H locs ls hP hD hS hl
    have hin : i < 3 := by omega
    refine lv_iload_n hx hb dX0_worthOfPurse_4 rfl (lv_at hl 2 rfl) ?_
    refine lv_iconst (v := 3) hx hb dX0_worthOfPurse_5 (by decide) ?_
    refine lv_icmp_ge (tgt := 30) hx hb dX0_worthOfPurse_6 (by decide) (fun c1 => absurd c1 (fun h9 => absurd ((nI_leI (a := 3) (b := i) (by omega) (by omega)).mp h9) (by omega))) (fun c1 => ?_)
    refine lv_iload_n hx hb dX0_worthOfPurse_9 rfl (lv_at hl 1 rfl) ?_
    refine lv_aload_n hx hb dX0_worthOfPurse_10 rfl (lv_at hl 0 rfl) ?_
    refine x0_gf C hP 8 (by decide) (v := .ref (ad 8)) rfl rfl q19 dX0_worthOfPurse_11 ?_
    refine lv_iload_n hx hb dX0_worthOfPurse_14 rfl (lv_at hl 2 rfl) ?_
    refine x0_ld C hP (k := 8) (i := i) (Or.inl (by decide)) hin rfl dX0_worthOfPurse_15 ?_
    refine g_gs C hS (C.2.2.2.2.2.2.2.1.2.2.2.2.1) q154 dX0_worthOfPurse_16 ?_
    refine lv_iload_n hx hb dX0_worthOfPurse_19 rfl (lv_at hl 2 rfl) ?_
    refine g_ti C hS (N := 3) (i := i) (f := rt_RX0_COIN_WORTH) C.2.2.2.2.2.2.2.1.2.2.2.2.2.1 (by decide) hin rfl dX0_worthOfPurse_20 ?_
    refine lv_imul hx hb dX0_worthOfPurse_21 ?_
    refine lv_iadd hx hb dX0_worthOfPurse_22 ?_
    refine lv_topi (fun v2 ev2 => ?_)
    refine lv_istore_n (lv' := [(1, .int v2), (0, .ref o), (2, .int (nI i))]) hx hb dX0_worthOfPurse_23 rfl hl (by decide) rfl (fun ls hl => ?_)
    refine lv_iinc (v := nI (i + 1)) (lv' := [(2, .int (nI (i + 1))), (1, .int v2), (0, .ref o)]) hx hb dX0_worthOfPurse_24 hl (k := 2) rfl (nI_1 _) (by decide) rfl (fun ls hl => ?_)
    refine lv_goto (tgt := 4) hx hb dX0_worthOfPurse_27 (by decide) ?_
    subst ev2
    exact ih (i + 1) (by omega) _ _ _ hP hD hS (lv_sub hl [2, 1, 0] rfl)
set_option maxHeartbeats 4000000 in
set_option maxRecDepth 100000 in
theorem mX0_worthOfPurse (l : Launch) (D : va_G) (t : Nat → Nat) (cI : ClassId) (o : Nat) (ad : Nat → Nat) (sz : Nat) (u : S0) : gMi l yX0_worthOfPurse (rw_ yX0_worthOfPurse cX0_worthOfPurse 3 (some .int)) (rm_ 0 0 0 0) [.ref o] D [(cI, .int)] t (ra_w cI o ad u) sz (fun v w' => v = rf_sm (fun c => u.1 8 c * rt_RX0_COIN_WORTH c) 3 ∧ w' = ra_w cI o ad u) := by
  refine g_of (cc := cX0_worthOfPurse) (nL := 3) (rt := (some .int)) (Q := fun A => va_Qi _ (fun w' U => gQ D A w' U) A) (by decide) (Nat.le_of_ble_eq_true rfl) (fun p e s m args below meth c A ls H C hrt hnm hS hP hD hl => ?_)
  have hx := C.1
  have hb := C.2.1
  have hown := C.2.2.2.1
  have hts := C.2.2.2.2.1
  have hl : lv_has ls 3 [(0, .ref o)] := hl
  refine lv_iconst (v := 0) hx hb dX0_worthOfPurse_0 (by decide) ?_
  refine lv_istore_n (lv' := [(1, .int 0), (0, .ref o)]) hx hb dX0_worthOfPurse_1 rfl hl (by decide) rfl (fun ls hl => ?_)
  refine lv_iconst (v := 0) hx hb dX0_worthOfPurse_2 (by decide) ?_
  refine lv_istore_n (lv' := [(2, .int 0), (1, .int 0), (0, .ref o)]) hx hb dX0_worthOfPurse_3 rfl hl (by decide) rfl (fun ls hl => ?_)
  refine lpX0_worthOfPurse  C  (fun H locs ls hP hD hS hl => ?_) 3 0 (by omega) _ _ _ hP hD hS (lv_sub hl [2, 1, 0] rfl)
  refine lv_iload_n hx hb dX0_worthOfPurse_30 rfl (lv_at hl 1 rfl) ?_
  exact g_iret C hrt hP hD hS dX0_worthOfPurse_31 ⟨by skip; rfl, by skip; rfl⟩
