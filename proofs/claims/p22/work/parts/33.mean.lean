/-! THE MEAN: the quotient of two whole numbers is no NaN -/
theorem mn_mag (x : Int32) {y : Int32} (h : y ≠ 0) : (FP.ddiv (FP.i2d x) (FP.i2d y)).toNat % 2 ^ 63 < 1057 * 2 ^ 52 := by
  have b := FP.Core.i2d_big (FP.Core.int32_ne h)
  exact FP.Core.ddiv_mag (K := 1056) (L := 1023) (FP.Core.i2d_mag x) b.1 b.2 (by decide) (by decide)
theorem mn_nn (x : Int32) {y : Int32} (h : y ≠ 0) : vf_n64 (FP.ddiv (FP.i2d x) (FP.i2d y)) := by
  have m := mn_mag x h
  generalize FP.ddiv (FP.i2d x) (FP.i2d y) = r at m
  show r &&& 0x7fffffffffffffff ≤ 0x7ff0000000000000
  rw [UInt64.le_iff_toNat_le, UInt64.toNat_and]
  show r.toNat &&& (2 ^ 63 - 1) ≤ 9218868437227405312
  rw [Nat.and_two_pow_sub_one_eq_mod]
  omega
theorem mn_cmp (x : Int32) {y : Int32} (h : y ≠ 0) (op : CmpOp) : Op.cmpValue (FP.dcmp (FP.ddiv (FP.i2d x) (FP.i2d y)) (FP.ddiv (FP.i2d x) (FP.i2d y))) op = 0 := by
  have m := mn_mag x h
  have e : FP.dcmp (FP.ddiv (FP.i2d x) (FP.i2d y)) (FP.ddiv (FP.i2d x) (FP.i2d y)) = some .eq := FP.Core.dcmp_self ((FP.Core.ne_nan _).mpr (by omega))
  rw [e]
  cases op <;> rfl
def rf_mn (u : S0) : UInt64 := if u.2.1 = 0 then FP.dconst0 else FP.ddiv (FP.i2d (rf_sm (rf_ww u 7) u.2.1)) (FP.i2d (nI u.2.1))
theorem mn_self {u : S0} (h8 : u.2.1 ≤ 8) (op : CmpOp) : Op.cmpValue (FP.dcmp (rf_mn u) (rf_mn u)) op = 0 := by
  unfold rf_mn
  split
  · cases op <;> decide +kernel
  · rename_i h
    exact mn_cmp _ (nI_ne0 (by omega) (by omega)) op
theorem kd_X0_mean : yX0_mean.cls = yX0_mean.cls ∧ yX0_mean.cls ≠ "java/lang/invoke/MethodHandle" ∧ yX0_mean.cls ≠ "java/lang/invoke/VarHandle" ∧ (parseMethodDescriptor yX0_mean.desc).map (fun d => d.parameters.length) = some 0 := by decide +kernel
set_option maxHeartbeats 4000000 in
set_option maxRecDepth 100000 in
theorem mX0_mean (l : Launch) (D : va_G) (t : Nat → Nat) (cI : ClassId) (o : Nat) (ad : Nat → Nat) (sz : Nat) (u : S0) (hh : u.2.1 ≤ 8) : gMd l yX0_mean (rw_ yX0_mean cX0_mean 1 (some .double)) (rm_ 5 0 0 112) [.ref o] D [(cI, .int)] t (ra_w cI o ad u) sz (fun v w' => v = rf_mn u ∧ w' = ra_w cI o ad u) := by
  refine g_of (cc := cX0_mean) (nL := 1) (rt := (some .double)) (Q := fun A => va_Qd _ (fun w' U => gQ D A w' U) A) (by decide) (Nat.le_of_ble_eq_true rfl) (fun p e s m args below meth c A ls H C hrt hnm hS hP hD hl => ?_)
  have hx := C.1
  have hb := C.2.1
  have hown := C.2.2.2.1
  have hts := C.2.2.2.2.1
  have hl : lv_has ls 1 [(0, .ref o)] := hl
  by_cases hn : u.2.1 = 0
  · refine lv_aload_n hx hb dX0_mean_0 rfl (lv_at hl 0 rfl) ?_
    refine x0_gf C hP 9 (by decide) (v := .int (nI u.2.1)) rfl rfl q66 dX0_mean_1 ?_
    refine lv_if_ne (tgt := 11) hx hb dX0_mean_4 (by decide) (fun c1 => absurd ((nI_eq (a := u.2.1) (b := 0) (by omega) (by omega)).mpr (by omega)) c1) (fun c1 => ?_)
    refine lv_dconst0 hx hb dX0_mean_7 ?_
    refine lv_goto (tgt := 26) hx hb dX0_mean_8 (by decide) ?_
    exact g_dret C hrt hP hD hS dX0_mean_26 ⟨by skip; rw [rf_mn, if_pos hn], rfl⟩
  · refine lv_aload_n hx hb dX0_mean_0 rfl (lv_at hl 0 rfl) ?_
    refine x0_gf C hP 9 (by decide) (v := .int (nI u.2.1)) rfl rfl q66 dX0_mean_1 ?_
    refine lv_if_ne (tgt := 11) hx hb dX0_mean_4 (by decide) (fun c1 => ?_) (fun c1 => absurd c1 (fun h9 => absurd ((nI_eq (a := u.2.1) (b := 0) (by omega) (by omega)).mp h9) (by omega)))
    refine lv_aload_n hx hb dX0_mean_11 rfl (lv_at hl 0 rfl) ?_
    refine lv_aload_n hx hb dX0_mean_12 rfl (lv_at hl 0 rfl) ?_
    refine x0_gf C hP 7 (by decide) (v := .ref (ad 7)) rfl rfl q18 dX0_mean_13 ?_
    refine g_ci (wr := []) (cells' := 0) (slots' := 0) rfl rfl C rd_nil hD hS (g_runV (wr := []) (n := 1) C (mX0_allWages l D t cI o ad H.size u 7 (Or.inl rfl) hh) (rw_V q204 q205 q206 q2 q207) kd_X0_allWages ⟨Nat.le_of_ble_eq_true rfl, Nat.le_of_ble_eq_true rfl⟩ (ci := 0) rfl rfl rfl C.2.2.2.2.2.1 hP hD hS hl.1 rfl rfl (Nat.le_of_ble_eq_true rfl) dX0_mean_16 ⟨Nat.le_of_ble_eq_true rfl, Nat.le_of_ble_eq_true rfl⟩) (fun v w' H locs hv _ _ hP hD hS => ?_)
    obtain ⟨rfl, rfl⟩ := hv
    have hD : va_D A (ra_w cI o ad u) := hD
    refine lv_i2d hx hb dX0_mean_19 ?_
    refine lv_aload_n hx hb dX0_mean_20 rfl (lv_at hl 0 rfl) ?_
    refine x0_gf C hP 9 (by decide) (v := .int (nI u.2.1)) rfl rfl q66 dX0_mean_21 ?_
    refine lv_i2d hx hb dX0_mean_24 ?_
    refine lv_ddiv hx hb dX0_mean_25 (mn_nn _ (nI_ne0 (by omega) (by omega))) ?_
    exact g_dret C hrt hP hD hS dX0_mean_26 ⟨by skip; rw [rf_mn, if_neg hn], rfl⟩
