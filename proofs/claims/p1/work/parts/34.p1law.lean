theorem ld_hp : ¬ rb_r0 0 4 = 0 := by decide +kernel
theorem ld_lk : (rf_lk (rf_cp ra_u0 8 12 3) 0).1 = rf_max 0 (0 - rb_r0 1 2) := by decide +kernel
theorem ld_cnt {g : Nat → Nat} {k : Nat} (hk : k < 7) : rf_cnt ra_u0 k = rb_cnt (rb_r0, 0, 0, 0, g) k := by
  rcases (show k = 0 ∨ k = 1 ∨ k = 2 ∨ k = 3 ∨ k = 4 ∨ k = 5 ∨ k = 6 by omega) with rfl | rfl | rfl | rfl | rfl | rfl | rfl <;> rfl
theorem ld_dig {g : Nat → Nat} : (rf_dr ra_u0 (rf_d0 ra_u0) ra_u0.2.1).1 = rf_dg (((rb_r0, 0, 0, 0, g) : S1).1 1) (rf_dg (((rb_r0, 0, 0, 0, g) : S1).1 0) (rf_dg (rb_cnt (rb_r0, 0, 0, 0, g)) 1657 7) 5) 3 := rfl
set_option maxHeartbeats 4000000 in
set_option maxRecDepth 100000 in
theorem law_c0 {p : Program} {l : Launch} {e : Env} {s : State} {m : MethodId} {below : List Frame} {meth : Method} {c : Code} {Q : State → Prop} {D : va_G} {t : Nat → Nat} {A : Nat → Prop} {cI cL : ClassId} {o o2 q b L : Nat} {ad g : Nat → Nat} {xs : Nat → Int32} {f : Nat → Int64} {H : Heap} {locs : List Loc} {ls : Array Slot} (C : gC p s m #[.ref b] meth c code 9 RL D (lT cI cL) t A) (hl0 : l.stackTraces = false) (hX : va_X b L xs s s.heap) (hbl : b < s.heap.size) (hbA : ¬ A b) (hL : L = 4) (X : lS D A s cI cL o ad ra_u0 o2 (rb_r0, 0, 0, 0, g) q f H locs) (hl : lv_has ls 9 [(0, .ref b), (1, .ref o), (2, .ref o2), (3, .ref q), (4, .int (nI 0))]) (kk : ∀ (H : Heap) (locs : List Loc) (ls : Array Slot), va_S A s.heap H locs → lv_has ls 9 [(0, .ref b), (1, .ref o), (2, .ref o2), (3, .ref q), (4, .int (nI 0))] → W p l e room_1 s m #[.ref b] below meth c H locs 40 400 Q (F0 m 1142 ls [])) : W p l e room_1 s m #[.ref b] below meth c H locs 19 185 Q (F0 m 128 ls []) := by
  have hx := C.1
  have hb := C.2.1
  have hown := C.2.2.2.1
  have hts := C.2.2.2.2.1
  obtain ⟨x1, ex1⟩ : ∃ z, z = xs (0 + 1) := ⟨_, rfl⟩
  by_cases a2 : x1 < 0 ∨ ¬ x1 ≤ 2
  · refine lv_aload_n hx hb dL_law_128 rfl (lv_at hl 1 rfl) ?_
    refine lv_aload_n hx hb dL_law_129 rfl (lv_at hl 0 rfl) ?_
    refine lv_iload hx hb dL_law_130 (lv_at hl 4 rfl) ?_
    refine lv_iconst (v := 1) hx hb dL_law_132 (by decide) ?_
    refine lv_iadd hx hb dL_law_133 ?_
    refine g_top (nI_add 0 1) ?_
    refine va_sld hx hb hX hbl hbA X.2.2.2.2 (i := nI (0 + 1)) (vp_in_nI (by omega) (by omega)) dL_law_134 ?_
    refine g_top (y := x1) ((congrArg xs (nI_clamp (by omega))).trans ex1.symm) ?_
    refine lv_aload_n hx hb dL_law_135 rfl (lv_at hl 3 rfl) ?_
    refine g_lawH (n := 3) (As := [.ref o, .int x1, .ref q]) C X (fun sz => xL_hire1 l D t cI cL o ad q sz f ra_u0 (fun sz => xX0_hire1 l D t cI o ad sz ra_u0 hl0 x1 a2)) (rwW_S q34 q35 q36 q37) kd_L_hire ⟨Nat.le_of_ble_eq_true rfl, Nat.le_of_ble_eq_true rfl⟩ hl.1 rfl rfl (Nat.le_of_ble_eq_true rfl) dL_law_136 ⟨Nat.le_of_ble_eq_true rfl, Nat.le_of_ble_eq_true rfl⟩ (fun r9 f9 u9 H locs hp X => ?_)
    obtain ⟨rfl, rfl⟩ := hp
    refine lv_istore (lv' := [(5, .int 1), (0, .ref b), (1, .ref o), (2, .ref o2), (3, .ref q), (4, .int (nI 0))]) hx hb dL_law_139 hl (by decide) rfl (fun ls hl => ?_)
    refine lv_aload_n hx hb dL_law_141 rfl (lv_at hl 3 rfl) ?_
    refine lv_aload_n hx hb dL_law_142 rfl (lv_at hl 1 rfl) ?_
    refine lv_iload hx hb dL_law_143 (lv_at hl 5 rfl) ?_
    refine lv_iconst (v := 1) hx hb dL_law_145 (by decide) ?_
    refine lv_iadd hx hb dL_law_146 ?_
    refine g_top (nI_add 0 1) ?_
    refine va_sld hx hb hX hbl hbA X.2.2.2.2 (i := nI (0 + 1)) (vp_in_nI (by omega) (by omega)) dL_law_147 ?_
    refine g_top (y := x1) ((congrArg xs (nI_clamp (by omega))).trans ex1.symm) ?_
    refine g_lawRie (n := 1) (As := [.int x1]) C X (bX1_hire1 l D t cI o2 H.size (rb_r0, 0, 0, 0, g) x1 (ld_bad a2)) (rw_V q55 q56 q57 q5 q58) kd_X1_hire rfl ⟨Nat.le_of_ble_eq_true rfl, Nat.le_of_ble_eq_true rfl⟩ hl.1 rfl rfl (Nat.le_of_ble_eq_true rfl) dL_law_148 ⟨Nat.le_of_ble_eq_true rfl, Nat.le_of_ble_eq_true rfl⟩ (fun H locs X => ?_)
    refine lv_topi (fun b1 eb1 => ?_)
    refine lv_istore (lv' := [(6, .int b1), (5, .int 1), (0, .ref b), (1, .ref o), (2, .ref o2), (3, .ref q), (4, .int (nI 0))]) hx hb dL_law_151 hl (by decide) rfl (fun ls hl => ?_)
    refine lv_aload_n hx hb dL_law_153 rfl (lv_at hl 4 rfl) ?_
    refine g_lawRie (n := 0) (As := []) C X (mX1_thrown l D t cI o2 H.size _) (rw_V q72 q73 q74 q5 q75) kd_X1_thrown rfl ⟨Nat.le_of_ble_eq_true rfl, Nat.le_of_ble_eq_true rfl⟩ hl.1 rfl rfl (Nat.le_of_ble_eq_true rfl) dL_law_154 ⟨Nat.le_of_ble_eq_true rfl, Nat.le_of_ble_eq_true rfl⟩ (fun H locs X => ?_)
    refine lv_topi (fun t9 et9 => ?_)
    refine lv_iload hx hb dL_law_157 (lv_at hl 1 rfl) ?_
    refine lv_icmp_eq (tgt := 164) hx hb dL_law_159 (by decide) (fun c3 => ?_) (fun c3 => absurd (et9.trans rfl) c3)
    refine lv_iload hx hb dL_law_164 (lv_at hl 1 rfl) ?_
    refine lv_if_ne (tgt := 181) hx hb dL_law_166 (by decide) (fun c4 => ?_) (fun c4 => absurd c4 (by decide))
    refine lv_goto (tgt := 1142) hx hb dL_law_181 (by decide) ?_
    refine W.widen (k := 40) (n := 400) (Nat.le_of_ble_eq_true rfl) (Nat.le_of_ble_eq_true rfl) ?_
    exact kk _ _ _ X.2.2.2.2 (lv_sub hl [2, 3, 4, 5, 6] rfl)
  · refine lv_aload_n hx hb dL_law_128 rfl (lv_at hl 1 rfl) ?_
    refine lv_aload_n hx hb dL_law_129 rfl (lv_at hl 0 rfl) ?_
    refine lv_iload hx hb dL_law_130 (lv_at hl 4 rfl) ?_
    refine lv_iconst (v := 1) hx hb dL_law_132 (by decide) ?_
    refine lv_iadd hx hb dL_law_133 ?_
    refine g_top (nI_add 0 1) ?_
    refine va_sld hx hb hX hbl hbA X.2.2.2.2 (i := nI (0 + 1)) (vp_in_nI (by omega) (by omega)) dL_law_134 ?_
    refine g_top (y := x1) ((congrArg xs (nI_clamp (by omega))).trans ex1.symm) ?_
    refine lv_aload_n hx hb dL_law_135 rfl (lv_at hl 3 rfl) ?_
    refine g_lawH (n := 3) (As := [.ref o, .int x1, .ref q]) C X (fun sz => mL_hire l D t cI cL o ad q sz f ra_u0 (fun sz => mX0_hire l D t cI o ad sz ra_u0 x1 (ld_ok1 a2) (ld_ok2 a2) (Nat.zero_lt_succ 7))) (rwW_S q34 q35 q36 q37) kd_L_hire ⟨Nat.le_of_ble_eq_true rfl, Nat.le_of_ble_eq_true rfl⟩ hl.1 rfl rfl (Nat.le_of_ble_eq_true rfl) dL_law_136 ⟨Nat.le_of_ble_eq_true rfl, Nat.le_of_ble_eq_true rfl⟩ (fun r9 f9 u9 H locs hp X => ?_)
    obtain ⟨rfl, rfl, hf⟩ := hp
    refine lv_istore (lv' := [(5, .int 0), (0, .ref b), (1, .ref o), (2, .ref o2), (3, .ref q), (4, .int (nI 0))]) hx hb dL_law_139 hl (by decide) rfl (fun ls hl => ?_)
    refine lv_aload_n hx hb dL_law_141 rfl (lv_at hl 3 rfl) ?_
    refine lv_aload_n hx hb dL_law_142 rfl (lv_at hl 1 rfl) ?_
    refine lv_iload hx hb dL_law_143 (lv_at hl 5 rfl) ?_
    refine lv_iconst (v := 1) hx hb dL_law_145 (by decide) ?_
    refine lv_iadd hx hb dL_law_146 ?_
    refine g_top (nI_add 0 1) ?_
    refine va_sld hx hb hX hbl hbA X.2.2.2.2 (i := nI (0 + 1)) (vp_in_nI (by omega) (by omega)) dL_law_147 ?_
    refine g_top (y := x1) ((congrArg xs (nI_clamp (by omega))).trans ex1.symm) ?_
    refine g_lawRie (n := 1) (As := [.int x1]) C X (oX1_hire l D t cI o2 H.size (rb_r0, 0, 0, 0, g) x1 (ld_ok1 a2) (ld_ok3 a2) (Nat.zero_lt_succ 7)) (rw_V q55 q56 q57 q5 q58) kd_X1_hire rfl ⟨Nat.le_of_ble_eq_true rfl, Nat.le_of_ble_eq_true rfl⟩ hl.1 rfl rfl (Nat.le_of_ble_eq_true rfl) dL_law_148 ⟨Nat.le_of_ble_eq_true rfl, Nat.le_of_ble_eq_true rfl⟩ (fun H locs X => ?_)
    refine lv_topi (fun b1 eb1 => ?_)
    refine lv_istore (lv' := [(6, .int b1), (5, .int 0), (0, .ref b), (1, .ref o), (2, .ref o2), (3, .ref q), (4, .int (nI 0))]) hx hb dL_law_151 hl (by decide) rfl (fun ls hl => ?_)
    refine lv_aload_n hx hb dL_law_153 rfl (lv_at hl 4 rfl) ?_
    refine g_lawRie (n := 0) (As := []) C X (mX1_thrown l D t cI o2 H.size _) (rw_V q72 q73 q74 q5 q75) kd_X1_thrown rfl ⟨Nat.le_of_ble_eq_true rfl, Nat.le_of_ble_eq_true rfl⟩ hl.1 rfl rfl (Nat.le_of_ble_eq_true rfl) dL_law_154 ⟨Nat.le_of_ble_eq_true rfl, Nat.le_of_ble_eq_true rfl⟩ (fun H locs X => ?_)
    refine lv_topi (fun t9 et9 => ?_)
    refine lv_iload hx hb dL_law_157 (lv_at hl 1 rfl) ?_
    refine lv_icmp_eq (tgt := 164) hx hb dL_law_159 (by decide) (fun c3 => ?_) (fun c3 => absurd (et9.trans rfl) c3)
    refine lv_iload hx hb dL_law_164 (lv_at hl 1 rfl) ?_
    refine lv_if_ne (tgt := 181) hx hb dL_law_166 (by decide) (fun c4 => absurd c4 (by decide)) (fun c4 => ?_)
    refine lv_aload_n hx hb dL_law_169 rfl (lv_at hl 5 rfl) ?_
    refine lv_iconst (v := 0) hx hb dL_law_170 (by decide) ?_
    refine g_ll C X dL_law_171 ?_
    refine lv_iload hx hb dL_law_172 (lv_at hl 0 rfl) ?_
    refine lv_i2l hx hb dL_law_174 rfl ?_
    refine W.lcmp hx hb dL_law_175 ?_
    refine lv_if_eq (tgt := 181) hx hb dL_law_176 (by decide) (fun c5 => ?_) (fun c5 => absurd (ld_eq hf eb1 rfl) c5)
    refine lv_goto (tgt := 1142) hx hb dL_law_181 (by decide) ?_
    refine W.widen (k := 40) (n := 400) (Nat.le_of_ble_eq_true rfl) (Nat.le_of_ble_eq_true rfl) ?_
    exact kk _ _ _ X.2.2.2.2 (lv_sub hl [2, 3, 4, 5, 6] rfl)
set_option maxHeartbeats 4000000 in
set_option maxRecDepth 100000 in
theorem law_c1 {p : Program} {l : Launch} {e : Env} {s : State} {m : MethodId} {below : List Frame} {meth : Method} {c : Code} {Q : State → Prop} {D : va_G} {t : Nat → Nat} {A : Nat → Prop} {cI cL : ClassId} {o o2 q b L : Nat} {ad g : Nat → Nat} {xs : Nat → Int32} {f : Nat → Int64} {H : Heap} {locs : List Loc} {ls : Array Slot} (C : gC p s m #[.ref b] meth c code 9 RL D (lT cI cL) t A) (hl0 : l.stackTraces = false) (hX : va_X b L xs s s.heap) (hbl : b < s.heap.size) (hbA : ¬ A b) (hL : L = 4) (X : lS D A s cI cL o ad ra_u0 o2 (rb_r0, 0, 0, 0, g) q f H locs) (hl : lv_has ls 9 [(0, .ref b), (1, .ref o), (2, .ref o2), (3, .ref q), (4, .int (nI 0))]) (kk : ∀ (H : Heap) (locs : List Loc) (ls : Array Slot), va_S A s.heap H locs → lv_has ls 9 [(0, .ref b), (1, .ref o), (2, .ref o2), (3, .ref q), (4, .int (nI 0))] → W p l e room_1 s m #[.ref b] below meth c H locs 40 400 Q (F0 m 1142 ls [])) : W p l e room_1 s m #[.ref b] below meth c H locs 19 185 Q (F0 m 184 ls []) := by
  have hx := C.1
  have hb := C.2.1
  have hown := C.2.2.2.1
  have hts := C.2.2.2.2.1
  obtain ⟨x1, ex1⟩ : ∃ z, z = xs (0 + 1) := ⟨_, rfl⟩
  obtain ⟨x2, ex2⟩ : ∃ z, z = xs (0 + 2) := ⟨_, rfl⟩
  rcases ld_cut 5 (by decide) x1 with ⟨k, hk, rfl⟩ | a1
  · by_cases a2 : x2 < rt_RX0_LEAST_RATE k ∨ ¬ x2 ≤ rt_RX0_MOST_RATE k
    · refine lv_aload_n hx hb dL_law_184 rfl (lv_at hl 1 rfl) ?_
      refine lv_aload_n hx hb dL_law_185 rfl (lv_at hl 0 rfl) ?_
      refine lv_iload hx hb dL_law_186 (lv_at hl 4 rfl) ?_
      refine lv_iconst (v := 1) hx hb dL_law_188 (by decide) ?_
      refine lv_iadd hx hb dL_law_189 ?_
      refine g_top (nI_add 0 1) ?_
      refine va_sld hx hb hX hbl hbA X.2.2.2.2 (i := nI (0 + 1)) (vp_in_nI (by omega) (by omega)) dL_law_190 ?_
      refine g_top (y := nI k) ((congrArg xs (nI_clamp (by omega))).trans ex1.symm) ?_
      refine lv_aload_n hx hb dL_law_191 rfl (lv_at hl 0 rfl) ?_
      refine lv_iload hx hb dL_law_192 (lv_at hl 4 rfl) ?_
      refine lv_iconst (v := 2) hx hb dL_law_194 (by decide) ?_
      refine lv_iadd hx hb dL_law_195 ?_
      refine g_top (nI_add 0 2) ?_
      refine va_sld hx hb hX hbl hbA X.2.2.2.2 (i := nI (0 + 2)) (vp_in_nI (by omega) (by omega)) dL_law_196 ?_
      refine g_top (y := x2) ((congrArg xs (nI_clamp (by omega))).trans ex2.symm) ?_
      refine lv_aload_n hx hb dL_law_197 rfl (lv_at hl 3 rfl) ?_
      refine g_lawH (n := 4) (As := [.ref o, .int (nI k), .int x2, .ref q]) C X (fun sz => xL_setRate2 l D t cI cL o ad q sz f ra_u0 (fun sz => xX0_setRate2 l D t cI o ad sz ra_u0 hl0 k hk x2 a2)) (rwW_S q76 q77 q36 q78) kd_L_setRate ⟨Nat.le_of_ble_eq_true rfl, Nat.le_of_ble_eq_true rfl⟩ hl.1 rfl rfl (Nat.le_of_ble_eq_true rfl) dL_law_198 ⟨Nat.le_of_ble_eq_true rfl, Nat.le_of_ble_eq_true rfl⟩ (fun r9 f9 u9 H locs hp X => ?_)
      obtain ⟨rfl, rfl⟩ := hp
      refine lv_istore (lv' := [(5, .int 2), (0, .ref b), (1, .ref o), (2, .ref o2), (3, .ref q), (4, .int (nI 0))]) hx hb dL_law_201 hl (by decide) rfl (fun ls hl => ?_)
      refine lv_aload_n hx hb dL_law_203 rfl (lv_at hl 3 rfl) ?_
      refine lv_aload_n hx hb dL_law_204 rfl (lv_at hl 1 rfl) ?_
      refine lv_iload hx hb dL_law_205 (lv_at hl 5 rfl) ?_
      refine lv_iconst (v := 1) hx hb dL_law_207 (by decide) ?_
      refine lv_iadd hx hb dL_law_208 ?_
      refine g_top (nI_add 0 1) ?_
      refine va_sld hx hb hX hbl hbA X.2.2.2.2 (i := nI (0 + 1)) (vp_in_nI (by omega) (by omega)) dL_law_209 ?_
      refine g_top (y := nI k) ((congrArg xs (nI_clamp (by omega))).trans ex1.symm) ?_
      refine lv_aload_n hx hb dL_law_210 rfl (lv_at hl 1 rfl) ?_
      refine lv_iload hx hb dL_law_211 (lv_at hl 5 rfl) ?_
      refine lv_iconst (v := 2) hx hb dL_law_213 (by decide) ?_
      refine lv_iadd hx hb dL_law_214 ?_
      refine g_top (nI_add 0 2) ?_
      refine va_sld hx hb hX hbl hbA X.2.2.2.2 (i := nI (0 + 2)) (vp_in_nI (by omega) (by omega)) dL_law_215 ?_
      refine g_top (y := x2) ((congrArg xs (nI_clamp (by omega))).trans ex2.symm) ?_
      refine g_lawRie (n := 2) (As := [.int (nI k), .int x2]) C X (bX1_setRate2 l D t cI o2 H.size (rb_r0, 0, 0, 0, g) k hk x2 (ld_bad a2)) (rw_V q94 q95 q96 q5 q97) kd_X1_setRate rfl ⟨Nat.le_of_ble_eq_true rfl, Nat.le_of_ble_eq_true rfl⟩ hl.1 rfl rfl (Nat.le_of_ble_eq_true rfl) dL_law_216 ⟨Nat.le_of_ble_eq_true rfl, Nat.le_of_ble_eq_true rfl⟩ (fun H locs X => ?_)
      refine lv_topi (fun b1 eb1 => ?_)
      refine lv_istore (lv' := [(6, .int b1), (5, .int 2), (0, .ref b), (1, .ref o), (2, .ref o2), (3, .ref q), (4, .int (nI 0))]) hx hb dL_law_219 hl (by decide) rfl (fun ls hl => ?_)
      refine lv_aload_n hx hb dL_law_221 rfl (lv_at hl 4 rfl) ?_
      refine g_lawRie (n := 0) (As := []) C X (mX1_thrown l D t cI o2 H.size _) (rw_V q72 q73 q74 q5 q75) kd_X1_thrown rfl ⟨Nat.le_of_ble_eq_true rfl, Nat.le_of_ble_eq_true rfl⟩ hl.1 rfl rfl (Nat.le_of_ble_eq_true rfl) dL_law_222 ⟨Nat.le_of_ble_eq_true rfl, Nat.le_of_ble_eq_true rfl⟩ (fun H locs X => ?_)
      refine lv_topi (fun t9 et9 => ?_)
      refine lv_iload hx hb dL_law_225 (lv_at hl 1 rfl) ?_
      refine lv_icmp_eq (tgt := 232) hx hb dL_law_227 (by decide) (fun c3 => ?_) (fun c3 => absurd (et9.trans rfl) c3)
      refine lv_iload hx hb dL_law_232 (lv_at hl 1 rfl) ?_
      refine lv_if_ne (tgt := 249) hx hb dL_law_234 (by decide) (fun c4 => ?_) (fun c4 => absurd c4 (by decide))
      refine lv_goto (tgt := 1142) hx hb dL_law_249 (by decide) ?_
      refine W.widen (k := 40) (n := 400) (Nat.le_of_ble_eq_true rfl) (Nat.le_of_ble_eq_true rfl) ?_
      exact kk _ _ _ X.2.2.2.2 (lv_sub hl [2, 3, 4, 5, 6] rfl)
    · refine lv_aload_n hx hb dL_law_184 rfl (lv_at hl 1 rfl) ?_
      refine lv_aload_n hx hb dL_law_185 rfl (lv_at hl 0 rfl) ?_
      refine lv_iload hx hb dL_law_186 (lv_at hl 4 rfl) ?_
      refine lv_iconst (v := 1) hx hb dL_law_188 (by decide) ?_
      refine lv_iadd hx hb dL_law_189 ?_
      refine g_top (nI_add 0 1) ?_
      refine va_sld hx hb hX hbl hbA X.2.2.2.2 (i := nI (0 + 1)) (vp_in_nI (by omega) (by omega)) dL_law_190 ?_
      refine g_top (y := nI k) ((congrArg xs (nI_clamp (by omega))).trans ex1.symm) ?_
      refine lv_aload_n hx hb dL_law_191 rfl (lv_at hl 0 rfl) ?_
      refine lv_iload hx hb dL_law_192 (lv_at hl 4 rfl) ?_
      refine lv_iconst (v := 2) hx hb dL_law_194 (by decide) ?_
      refine lv_iadd hx hb dL_law_195 ?_
      refine g_top (nI_add 0 2) ?_
      refine va_sld hx hb hX hbl hbA X.2.2.2.2 (i := nI (0 + 2)) (vp_in_nI (by omega) (by omega)) dL_law_196 ?_
      refine g_top (y := x2) ((congrArg xs (nI_clamp (by omega))).trans ex2.symm) ?_
      refine lv_aload_n hx hb dL_law_197 rfl (lv_at hl 3 rfl) ?_
      refine g_lawH (n := 4) (As := [.ref o, .int (nI k), .int x2, .ref q]) C X (fun sz => mL_setRate l D t cI cL o ad q sz f ra_u0 (fun sz => mX0_setRate l D t cI o ad sz ra_u0 k hk x2 (ld_ok1 a2) (ld_ok2 a2))) (rwW_S q76 q77 q36 q78) kd_L_setRate ⟨Nat.le_of_ble_eq_true rfl, Nat.le_of_ble_eq_true rfl⟩ hl.1 rfl rfl (Nat.le_of_ble_eq_true rfl) dL_law_198 ⟨Nat.le_of_ble_eq_true rfl, Nat.le_of_ble_eq_true rfl⟩ (fun r9 f9 u9 H locs hp X => ?_)
      obtain ⟨rfl, rfl, hf⟩ := hp
      refine lv_istore (lv' := [(5, .int 0), (0, .ref b), (1, .ref o), (2, .ref o2), (3, .ref q), (4, .int (nI 0))]) hx hb dL_law_201 hl (by decide) rfl (fun ls hl => ?_)
      refine lv_aload_n hx hb dL_law_203 rfl (lv_at hl 3 rfl) ?_
      refine lv_aload_n hx hb dL_law_204 rfl (lv_at hl 1 rfl) ?_
      refine lv_iload hx hb dL_law_205 (lv_at hl 5 rfl) ?_
      refine lv_iconst (v := 1) hx hb dL_law_207 (by decide) ?_
      refine lv_iadd hx hb dL_law_208 ?_
      refine g_top (nI_add 0 1) ?_
      refine va_sld hx hb hX hbl hbA X.2.2.2.2 (i := nI (0 + 1)) (vp_in_nI (by omega) (by omega)) dL_law_209 ?_
      refine g_top (y := nI k) ((congrArg xs (nI_clamp (by omega))).trans ex1.symm) ?_
      refine lv_aload_n hx hb dL_law_210 rfl (lv_at hl 1 rfl) ?_
      refine lv_iload hx hb dL_law_211 (lv_at hl 5 rfl) ?_
      refine lv_iconst (v := 2) hx hb dL_law_213 (by decide) ?_
      refine lv_iadd hx hb dL_law_214 ?_
      refine g_top (nI_add 0 2) ?_
      refine va_sld hx hb hX hbl hbA X.2.2.2.2 (i := nI (0 + 2)) (vp_in_nI (by omega) (by omega)) dL_law_215 ?_
      refine g_top (y := x2) ((congrArg xs (nI_clamp (by omega))).trans ex2.symm) ?_
      refine g_lawRie (n := 2) (As := [.int (nI k), .int x2]) C X (oX1_setRate l D t cI o2 H.size (rb_r0, 0, 0, 0, g) k hk x2 (ld_ok1 a2) (ld_ok3 a2)) (rw_V q94 q95 q96 q5 q97) kd_X1_setRate rfl ⟨Nat.le_of_ble_eq_true rfl, Nat.le_of_ble_eq_true rfl⟩ hl.1 rfl rfl (Nat.le_of_ble_eq_true rfl) dL_law_216 ⟨Nat.le_of_ble_eq_true rfl, Nat.le_of_ble_eq_true rfl⟩ (fun H locs X => ?_)
      refine lv_topi (fun b1 eb1 => ?_)
      refine lv_istore (lv' := [(6, .int b1), (5, .int 0), (0, .ref b), (1, .ref o), (2, .ref o2), (3, .ref q), (4, .int (nI 0))]) hx hb dL_law_219 hl (by decide) rfl (fun ls hl => ?_)
      refine lv_aload_n hx hb dL_law_221 rfl (lv_at hl 4 rfl) ?_
      refine g_lawRie (n := 0) (As := []) C X (mX1_thrown l D t cI o2 H.size _) (rw_V q72 q73 q74 q5 q75) kd_X1_thrown rfl ⟨Nat.le_of_ble_eq_true rfl, Nat.le_of_ble_eq_true rfl⟩ hl.1 rfl rfl (Nat.le_of_ble_eq_true rfl) dL_law_222 ⟨Nat.le_of_ble_eq_true rfl, Nat.le_of_ble_eq_true rfl⟩ (fun H locs X => ?_)
      refine lv_topi (fun t9 et9 => ?_)
      refine lv_iload hx hb dL_law_225 (lv_at hl 1 rfl) ?_
      refine lv_icmp_eq (tgt := 232) hx hb dL_law_227 (by decide) (fun c3 => ?_) (fun c3 => absurd (et9.trans rfl) c3)
      refine lv_iload hx hb dL_law_232 (lv_at hl 1 rfl) ?_
      refine lv_if_ne (tgt := 249) hx hb dL_law_234 (by decide) (fun c4 => absurd c4 (by decide)) (fun c4 => ?_)
      refine lv_aload_n hx hb dL_law_237 rfl (lv_at hl 5 rfl) ?_
      refine lv_iconst (v := 0) hx hb dL_law_238 (by decide) ?_
      refine g_ll C X dL_law_239 ?_
      refine lv_iload hx hb dL_law_240 (lv_at hl 0 rfl) ?_
      refine lv_i2l hx hb dL_law_242 rfl ?_
      refine W.lcmp hx hb dL_law_243 ?_
      refine lv_if_eq (tgt := 249) hx hb dL_law_244 (by decide) (fun c5 => ?_) (fun c5 => absurd (ld_eq hf eb1 rfl) c5)
      refine lv_goto (tgt := 1142) hx hb dL_law_249 (by decide) ?_
      refine W.widen (k := 40) (n := 400) (Nat.le_of_ble_eq_true rfl) (Nat.le_of_ble_eq_true rfl) ?_
      exact kk _ _ _ X.2.2.2.2 (lv_sub hl [2, 3, 4, 5, 6] rfl)
  · refine lv_aload_n hx hb dL_law_184 rfl (lv_at hl 1 rfl) ?_
    refine lv_aload_n hx hb dL_law_185 rfl (lv_at hl 0 rfl) ?_
    refine lv_iload hx hb dL_law_186 (lv_at hl 4 rfl) ?_
    refine lv_iconst (v := 1) hx hb dL_law_188 (by decide) ?_
    refine lv_iadd hx hb dL_law_189 ?_
    refine g_top (nI_add 0 1) ?_
    refine va_sld hx hb hX hbl hbA X.2.2.2.2 (i := nI (0 + 1)) (vp_in_nI (by omega) (by omega)) dL_law_190 ?_
    refine g_top (y := x1) ((congrArg xs (nI_clamp (by omega))).trans ex1.symm) ?_
    refine lv_aload_n hx hb dL_law_191 rfl (lv_at hl 0 rfl) ?_
    refine lv_iload hx hb dL_law_192 (lv_at hl 4 rfl) ?_
    refine lv_iconst (v := 2) hx hb dL_law_194 (by decide) ?_
    refine lv_iadd hx hb dL_law_195 ?_
    refine g_top (nI_add 0 2) ?_
    refine va_sld hx hb hX hbl hbA X.2.2.2.2 (i := nI (0 + 2)) (vp_in_nI (by omega) (by omega)) dL_law_196 ?_
    refine g_top (y := x2) ((congrArg xs (nI_clamp (by omega))).trans ex2.symm) ?_
    refine lv_aload_n hx hb dL_law_197 rfl (lv_at hl 3 rfl) ?_
    refine g_lawH (n := 4) (As := [.ref o, .int x1, .int x2, .ref q]) C X (fun sz => xL_setRate1 l D t cI cL o ad q sz f ra_u0 (fun sz => xX0_setRate1 l D t cI o ad sz ra_u0 hl0 x1 x2 a1)) (rwW_S q76 q77 q36 q78) kd_L_setRate ⟨Nat.le_of_ble_eq_true rfl, Nat.le_of_ble_eq_true rfl⟩ hl.1 rfl rfl (Nat.le_of_ble_eq_true rfl) dL_law_198 ⟨Nat.le_of_ble_eq_true rfl, Nat.le_of_ble_eq_true rfl⟩ (fun r9 f9 u9 H locs hp X => ?_)
    obtain ⟨rfl, rfl⟩ := hp
    refine lv_istore (lv' := [(5, .int 1), (0, .ref b), (1, .ref o), (2, .ref o2), (3, .ref q), (4, .int (nI 0))]) hx hb dL_law_201 hl (by decide) rfl (fun ls hl => ?_)
    refine lv_aload_n hx hb dL_law_203 rfl (lv_at hl 3 rfl) ?_
    refine lv_aload_n hx hb dL_law_204 rfl (lv_at hl 1 rfl) ?_
    refine lv_iload hx hb dL_law_205 (lv_at hl 5 rfl) ?_
    refine lv_iconst (v := 1) hx hb dL_law_207 (by decide) ?_
    refine lv_iadd hx hb dL_law_208 ?_
    refine g_top (nI_add 0 1) ?_
    refine va_sld hx hb hX hbl hbA X.2.2.2.2 (i := nI (0 + 1)) (vp_in_nI (by omega) (by omega)) dL_law_209 ?_
    refine g_top (y := x1) ((congrArg xs (nI_clamp (by omega))).trans ex1.symm) ?_
    refine lv_aload_n hx hb dL_law_210 rfl (lv_at hl 1 rfl) ?_
    refine lv_iload hx hb dL_law_211 (lv_at hl 5 rfl) ?_
    refine lv_iconst (v := 2) hx hb dL_law_213 (by decide) ?_
    refine lv_iadd hx hb dL_law_214 ?_
    refine g_top (nI_add 0 2) ?_
    refine va_sld hx hb hX hbl hbA X.2.2.2.2 (i := nI (0 + 2)) (vp_in_nI (by omega) (by omega)) dL_law_215 ?_
    refine g_top (y := x2) ((congrArg xs (nI_clamp (by omega))).trans ex2.symm) ?_
    refine g_lawRie (n := 2) (As := [.int x1, .int x2]) C X (bX1_setRate1 l D t cI o2 H.size (rb_r0, 0, 0, 0, g) x1 x2 a1) (rw_V q94 q95 q96 q5 q97) kd_X1_setRate rfl ⟨Nat.le_of_ble_eq_true rfl, Nat.le_of_ble_eq_true rfl⟩ hl.1 rfl rfl (Nat.le_of_ble_eq_true rfl) dL_law_216 ⟨Nat.le_of_ble_eq_true rfl, Nat.le_of_ble_eq_true rfl⟩ (fun H locs X => ?_)
    refine lv_topi (fun b1 eb1 => ?_)
    refine lv_istore (lv' := [(6, .int b1), (5, .int 1), (0, .ref b), (1, .ref o), (2, .ref o2), (3, .ref q), (4, .int (nI 0))]) hx hb dL_law_219 hl (by decide) rfl (fun ls hl => ?_)
    refine lv_aload_n hx hb dL_law_221 rfl (lv_at hl 4 rfl) ?_
    refine g_lawRie (n := 0) (As := []) C X (mX1_thrown l D t cI o2 H.size _) (rw_V q72 q73 q74 q5 q75) kd_X1_thrown rfl ⟨Nat.le_of_ble_eq_true rfl, Nat.le_of_ble_eq_true rfl⟩ hl.1 rfl rfl (Nat.le_of_ble_eq_true rfl) dL_law_222 ⟨Nat.le_of_ble_eq_true rfl, Nat.le_of_ble_eq_true rfl⟩ (fun H locs X => ?_)
    refine lv_topi (fun t9 et9 => ?_)
    refine lv_iload hx hb dL_law_225 (lv_at hl 1 rfl) ?_
    refine lv_icmp_eq (tgt := 232) hx hb dL_law_227 (by decide) (fun c3 => ?_) (fun c3 => absurd (et9.trans rfl) c3)
    refine lv_iload hx hb dL_law_232 (lv_at hl 1 rfl) ?_
    refine lv_if_ne (tgt := 249) hx hb dL_law_234 (by decide) (fun c4 => ?_) (fun c4 => absurd c4 (by decide))
    refine lv_goto (tgt := 1142) hx hb dL_law_249 (by decide) ?_
    refine W.widen (k := 40) (n := 400) (Nat.le_of_ble_eq_true rfl) (Nat.le_of_ble_eq_true rfl) ?_
    exact kk _ _ _ X.2.2.2.2 (lv_sub hl [2, 3, 4, 5, 6] rfl)
set_option maxHeartbeats 4000000 in
set_option maxRecDepth 100000 in
theorem law_c2 {p : Program} {l : Launch} {e : Env} {s : State} {m : MethodId} {below : List Frame} {meth : Method} {c : Code} {Q : State → Prop} {D : va_G} {t : Nat → Nat} {A : Nat → Prop} {cI cL : ClassId} {o o2 q b L : Nat} {ad g : Nat → Nat} {xs : Nat → Int32} {f : Nat → Int64} {H : Heap} {locs : List Loc} {ls : Array Slot} (C : gC p s m #[.ref b] meth c code 9 RL D (lT cI cL) t A) (hl0 : l.stackTraces = false) (hX : va_X b L xs s s.heap) (hbl : b < s.heap.size) (hbA : ¬ A b) (hL : L = 4) (X : lS D A s cI cL o ad ra_u0 o2 (rb_r0, 0, 0, 0, g) q f H locs) (hl : lv_has ls 9 [(0, .ref b), (1, .ref o), (2, .ref o2), (3, .ref q), (4, .int (nI 0))]) (kk : ∀ (H : Heap) (locs : List Loc) (ls : Array Slot), va_S A s.heap H locs → lv_has ls 9 [(0, .ref b), (1, .ref o), (2, .ref o2), (3, .ref q), (4, .int (nI 0))] → W p l e room_1 s m #[.ref b] below meth c H locs 40 400 Q (F0 m 1142 ls [])) : W p l e room_1 s m #[.ref b] below meth c H locs 19 185 Q (F0 m 252 ls []) := by
  have hx := C.1
  have hb := C.2.1
  have hown := C.2.2.2.1
  have hts := C.2.2.2.2.1
  obtain ⟨x1, ex1⟩ : ∃ z, z = xs (0 + 1) := ⟨_, rfl⟩
  obtain ⟨x2, ex2⟩ : ∃ z, z = xs (0 + 2) := ⟨_, rfl⟩
  rcases ld_cut 3 (by decide) x1 with ⟨k, hk, rfl⟩ | a1
  · by_cases a2 : x2 < 1 ∨ ¬ x2 ≤ 500
    · refine lv_aload_n hx hb dL_law_252 rfl (lv_at hl 1 rfl) ?_
      refine lv_aload_n hx hb dL_law_253 rfl (lv_at hl 0 rfl) ?_
      refine lv_iload hx hb dL_law_254 (lv_at hl 4 rfl) ?_
      refine lv_iconst (v := 1) hx hb dL_law_256 (by decide) ?_
      refine lv_iadd hx hb dL_law_257 ?_
      refine g_top (nI_add 0 1) ?_
      refine va_sld hx hb hX hbl hbA X.2.2.2.2 (i := nI (0 + 1)) (vp_in_nI (by omega) (by omega)) dL_law_258 ?_
      refine g_top (y := nI k) ((congrArg xs (nI_clamp (by omega))).trans ex1.symm) ?_
      refine lv_aload_n hx hb dL_law_259 rfl (lv_at hl 0 rfl) ?_
      refine lv_iload hx hb dL_law_260 (lv_at hl 4 rfl) ?_
      refine lv_iconst (v := 2) hx hb dL_law_262 (by decide) ?_
      refine lv_iadd hx hb dL_law_263 ?_
      refine g_top (nI_add 0 2) ?_
      refine va_sld hx hb hX hbl hbA X.2.2.2.2 (i := nI (0 + 2)) (vp_in_nI (by omega) (by omega)) dL_law_264 ?_
      refine g_top (y := x2) ((congrArg xs (nI_clamp (by omega))).trans ex2.symm) ?_
      refine lv_aload_n hx hb dL_law_265 rfl (lv_at hl 3 rfl) ?_
      refine g_lawH (n := 4) (As := [.ref o, .int (nI k), .int x2, .ref q]) C X (fun sz => xL_fill2 l D t cI cL o ad q sz f ra_u0 (fun sz => xX0_fill2 l D t cI o ad sz ra_u0 hl0 k hk x2 a2)) (rwW_S q103 q104 q36 q105) kd_L_fill ⟨Nat.le_of_ble_eq_true rfl, Nat.le_of_ble_eq_true rfl⟩ hl.1 rfl rfl (Nat.le_of_ble_eq_true rfl) dL_law_266 ⟨Nat.le_of_ble_eq_true rfl, Nat.le_of_ble_eq_true rfl⟩ (fun r9 f9 u9 H locs hp X => ?_)
      obtain ⟨rfl, rfl⟩ := hp
      refine lv_istore (lv' := [(5, .int 2), (0, .ref b), (1, .ref o), (2, .ref o2), (3, .ref q), (4, .int (nI 0))]) hx hb dL_law_269 hl (by decide) rfl (fun ls hl => ?_)
      refine lv_aload_n hx hb dL_law_271 rfl (lv_at hl 3 rfl) ?_
      refine lv_aload_n hx hb dL_law_272 rfl (lv_at hl 1 rfl) ?_
      refine lv_iload hx hb dL_law_273 (lv_at hl 5 rfl) ?_
      refine lv_iconst (v := 1) hx hb dL_law_275 (by decide) ?_
      refine lv_iadd hx hb dL_law_276 ?_
      refine g_top (nI_add 0 1) ?_
      refine va_sld hx hb hX hbl hbA X.2.2.2.2 (i := nI (0 + 1)) (vp_in_nI (by omega) (by omega)) dL_law_277 ?_
      refine g_top (y := nI k) ((congrArg xs (nI_clamp (by omega))).trans ex1.symm) ?_
      refine lv_aload_n hx hb dL_law_278 rfl (lv_at hl 1 rfl) ?_
      refine lv_iload hx hb dL_law_279 (lv_at hl 5 rfl) ?_
      refine lv_iconst (v := 2) hx hb dL_law_281 (by decide) ?_
      refine lv_iadd hx hb dL_law_282 ?_
      refine g_top (nI_add 0 2) ?_
      refine va_sld hx hb hX hbl hbA X.2.2.2.2 (i := nI (0 + 2)) (vp_in_nI (by omega) (by omega)) dL_law_283 ?_
      refine g_top (y := x2) ((congrArg xs (nI_clamp (by omega))).trans ex2.symm) ?_
      refine g_lawRie (n := 2) (As := [.int (nI k), .int x2]) C X (bX1_fill2 l D t cI o2 H.size (rb_r0, 0, 0, 0, g) k hk x2 (ld_bad a2)) (rw_V q110 q111 q112 q5 q113) kd_X1_fill rfl ⟨Nat.le_of_ble_eq_true rfl, Nat.le_of_ble_eq_true rfl⟩ hl.1 rfl rfl (Nat.le_of_ble_eq_true rfl) dL_law_284 ⟨Nat.le_of_ble_eq_true rfl, Nat.le_of_ble_eq_true rfl⟩ (fun H locs X => ?_)
      refine lv_topi (fun b1 eb1 => ?_)
      refine lv_istore (lv' := [(6, .int b1), (5, .int 2), (0, .ref b), (1, .ref o), (2, .ref o2), (3, .ref q), (4, .int (nI 0))]) hx hb dL_law_287 hl (by decide) rfl (fun ls hl => ?_)
      refine lv_aload_n hx hb dL_law_289 rfl (lv_at hl 4 rfl) ?_
      refine g_lawRie (n := 0) (As := []) C X (mX1_thrown l D t cI o2 H.size _) (rw_V q72 q73 q74 q5 q75) kd_X1_thrown rfl ⟨Nat.le_of_ble_eq_true rfl, Nat.le_of_ble_eq_true rfl⟩ hl.1 rfl rfl (Nat.le_of_ble_eq_true rfl) dL_law_290 ⟨Nat.le_of_ble_eq_true rfl, Nat.le_of_ble_eq_true rfl⟩ (fun H locs X => ?_)
      refine lv_topi (fun t9 et9 => ?_)
      refine lv_iload hx hb dL_law_293 (lv_at hl 1 rfl) ?_
      refine lv_icmp_eq (tgt := 300) hx hb dL_law_295 (by decide) (fun c3 => ?_) (fun c3 => absurd (et9.trans rfl) c3)
      refine lv_iload hx hb dL_law_300 (lv_at hl 1 rfl) ?_
      refine lv_if_ne (tgt := 317) hx hb dL_law_302 (by decide) (fun c4 => ?_) (fun c4 => absurd c4 (by decide))
      refine lv_goto (tgt := 1142) hx hb dL_law_317 (by decide) ?_
      refine W.widen (k := 40) (n := 400) (Nat.le_of_ble_eq_true rfl) (Nat.le_of_ble_eq_true rfl) ?_
      exact kk _ _ _ X.2.2.2.2 (lv_sub hl [2, 3, 4, 5, 6] rfl)
    · refine lv_aload_n hx hb dL_law_252 rfl (lv_at hl 1 rfl) ?_
      refine lv_aload_n hx hb dL_law_253 rfl (lv_at hl 0 rfl) ?_
      refine lv_iload hx hb dL_law_254 (lv_at hl 4 rfl) ?_
      refine lv_iconst (v := 1) hx hb dL_law_256 (by decide) ?_
      refine lv_iadd hx hb dL_law_257 ?_
      refine g_top (nI_add 0 1) ?_
      refine va_sld hx hb hX hbl hbA X.2.2.2.2 (i := nI (0 + 1)) (vp_in_nI (by omega) (by omega)) dL_law_258 ?_
      refine g_top (y := nI k) ((congrArg xs (nI_clamp (by omega))).trans ex1.symm) ?_
      refine lv_aload_n hx hb dL_law_259 rfl (lv_at hl 0 rfl) ?_
      refine lv_iload hx hb dL_law_260 (lv_at hl 4 rfl) ?_
      refine lv_iconst (v := 2) hx hb dL_law_262 (by decide) ?_
      refine lv_iadd hx hb dL_law_263 ?_
      refine g_top (nI_add 0 2) ?_
      refine va_sld hx hb hX hbl hbA X.2.2.2.2 (i := nI (0 + 2)) (vp_in_nI (by omega) (by omega)) dL_law_264 ?_
      refine g_top (y := x2) ((congrArg xs (nI_clamp (by omega))).trans ex2.symm) ?_
      refine lv_aload_n hx hb dL_law_265 rfl (lv_at hl 3 rfl) ?_
      refine g_lawH (n := 4) (As := [.ref o, .int (nI k), .int x2, .ref q]) C X (fun sz => mL_fill l D t cI cL o ad q sz f ra_u0 (fun sz => mX0_fill l D t cI o ad sz ra_u0 k hk x2 (ld_ok1 a2) (ld_ok2 a2))) (rwW_S q103 q104 q36 q105) kd_L_fill ⟨Nat.le_of_ble_eq_true rfl, Nat.le_of_ble_eq_true rfl⟩ hl.1 rfl rfl (Nat.le_of_ble_eq_true rfl) dL_law_266 ⟨Nat.le_of_ble_eq_true rfl, Nat.le_of_ble_eq_true rfl⟩ (fun r9 f9 u9 H locs hp X => ?_)
      obtain ⟨rfl, rfl, hf⟩ := hp
      refine lv_istore (lv' := [(5, .int 0), (0, .ref b), (1, .ref o), (2, .ref o2), (3, .ref q), (4, .int (nI 0))]) hx hb dL_law_269 hl (by decide) rfl (fun ls hl => ?_)
      refine lv_aload_n hx hb dL_law_271 rfl (lv_at hl 3 rfl) ?_
      refine lv_aload_n hx hb dL_law_272 rfl (lv_at hl 1 rfl) ?_
      refine lv_iload hx hb dL_law_273 (lv_at hl 5 rfl) ?_
      refine lv_iconst (v := 1) hx hb dL_law_275 (by decide) ?_
      refine lv_iadd hx hb dL_law_276 ?_
      refine g_top (nI_add 0 1) ?_
      refine va_sld hx hb hX hbl hbA X.2.2.2.2 (i := nI (0 + 1)) (vp_in_nI (by omega) (by omega)) dL_law_277 ?_
      refine g_top (y := nI k) ((congrArg xs (nI_clamp (by omega))).trans ex1.symm) ?_
      refine lv_aload_n hx hb dL_law_278 rfl (lv_at hl 1 rfl) ?_
      refine lv_iload hx hb dL_law_279 (lv_at hl 5 rfl) ?_
      refine lv_iconst (v := 2) hx hb dL_law_281 (by decide) ?_
      refine lv_iadd hx hb dL_law_282 ?_
      refine g_top (nI_add 0 2) ?_
      refine va_sld hx hb hX hbl hbA X.2.2.2.2 (i := nI (0 + 2)) (vp_in_nI (by omega) (by omega)) dL_law_283 ?_
      refine g_top (y := x2) ((congrArg xs (nI_clamp (by omega))).trans ex2.symm) ?_
      refine g_lawRie (n := 2) (As := [.int (nI k), .int x2]) C X (oX1_fill l D t cI o2 H.size (rb_r0, 0, 0, 0, g) k hk x2 (ld_ok1 a2) (ld_ok3 a2)) (rw_V q110 q111 q112 q5 q113) kd_X1_fill rfl ⟨Nat.le_of_ble_eq_true rfl, Nat.le_of_ble_eq_true rfl⟩ hl.1 rfl rfl (Nat.le_of_ble_eq_true rfl) dL_law_284 ⟨Nat.le_of_ble_eq_true rfl, Nat.le_of_ble_eq_true rfl⟩ (fun H locs X => ?_)
      refine lv_topi (fun b1 eb1 => ?_)
      refine lv_istore (lv' := [(6, .int b1), (5, .int 0), (0, .ref b), (1, .ref o), (2, .ref o2), (3, .ref q), (4, .int (nI 0))]) hx hb dL_law_287 hl (by decide) rfl (fun ls hl => ?_)
      refine lv_aload_n hx hb dL_law_289 rfl (lv_at hl 4 rfl) ?_
      refine g_lawRie (n := 0) (As := []) C X (mX1_thrown l D t cI o2 H.size _) (rw_V q72 q73 q74 q5 q75) kd_X1_thrown rfl ⟨Nat.le_of_ble_eq_true rfl, Nat.le_of_ble_eq_true rfl⟩ hl.1 rfl rfl (Nat.le_of_ble_eq_true rfl) dL_law_290 ⟨Nat.le_of_ble_eq_true rfl, Nat.le_of_ble_eq_true rfl⟩ (fun H locs X => ?_)
      refine lv_topi (fun t9 et9 => ?_)
      refine lv_iload hx hb dL_law_293 (lv_at hl 1 rfl) ?_
      refine lv_icmp_eq (tgt := 300) hx hb dL_law_295 (by decide) (fun c3 => ?_) (fun c3 => absurd (et9.trans rfl) c3)
      refine lv_iload hx hb dL_law_300 (lv_at hl 1 rfl) ?_
      refine lv_if_ne (tgt := 317) hx hb dL_law_302 (by decide) (fun c4 => absurd c4 (by decide)) (fun c4 => ?_)
      refine lv_aload_n hx hb dL_law_305 rfl (lv_at hl 5 rfl) ?_
      refine lv_iconst (v := 0) hx hb dL_law_306 (by decide) ?_
      refine g_ll C X dL_law_307 ?_
      refine lv_iload hx hb dL_law_308 (lv_at hl 0 rfl) ?_
      refine lv_i2l hx hb dL_law_310 rfl ?_
      refine W.lcmp hx hb dL_law_311 ?_
      refine lv_if_eq (tgt := 317) hx hb dL_law_312 (by decide) (fun c5 => ?_) (fun c5 => absurd (ld_eq hf eb1 rfl) c5)
      refine lv_goto (tgt := 1142) hx hb dL_law_317 (by decide) ?_
      refine W.widen (k := 40) (n := 400) (Nat.le_of_ble_eq_true rfl) (Nat.le_of_ble_eq_true rfl) ?_
      exact kk _ _ _ X.2.2.2.2 (lv_sub hl [2, 3, 4, 5, 6] rfl)
  · refine lv_aload_n hx hb dL_law_252 rfl (lv_at hl 1 rfl) ?_
    refine lv_aload_n hx hb dL_law_253 rfl (lv_at hl 0 rfl) ?_
    refine lv_iload hx hb dL_law_254 (lv_at hl 4 rfl) ?_
    refine lv_iconst (v := 1) hx hb dL_law_256 (by decide) ?_
    refine lv_iadd hx hb dL_law_257 ?_
    refine g_top (nI_add 0 1) ?_
    refine va_sld hx hb hX hbl hbA X.2.2.2.2 (i := nI (0 + 1)) (vp_in_nI (by omega) (by omega)) dL_law_258 ?_
    refine g_top (y := x1) ((congrArg xs (nI_clamp (by omega))).trans ex1.symm) ?_
    refine lv_aload_n hx hb dL_law_259 rfl (lv_at hl 0 rfl) ?_
    refine lv_iload hx hb dL_law_260 (lv_at hl 4 rfl) ?_
    refine lv_iconst (v := 2) hx hb dL_law_262 (by decide) ?_
    refine lv_iadd hx hb dL_law_263 ?_
    refine g_top (nI_add 0 2) ?_
    refine va_sld hx hb hX hbl hbA X.2.2.2.2 (i := nI (0 + 2)) (vp_in_nI (by omega) (by omega)) dL_law_264 ?_
    refine g_top (y := x2) ((congrArg xs (nI_clamp (by omega))).trans ex2.symm) ?_
    refine lv_aload_n hx hb dL_law_265 rfl (lv_at hl 3 rfl) ?_
    refine g_lawH (n := 4) (As := [.ref o, .int x1, .int x2, .ref q]) C X (fun sz => xL_fill1 l D t cI cL o ad q sz f ra_u0 (fun sz => xX0_fill1 l D t cI o ad sz ra_u0 hl0 x1 x2 a1)) (rwW_S q103 q104 q36 q105) kd_L_fill ⟨Nat.le_of_ble_eq_true rfl, Nat.le_of_ble_eq_true rfl⟩ hl.1 rfl rfl (Nat.le_of_ble_eq_true rfl) dL_law_266 ⟨Nat.le_of_ble_eq_true rfl, Nat.le_of_ble_eq_true rfl⟩ (fun r9 f9 u9 H locs hp X => ?_)
    obtain ⟨rfl, rfl⟩ := hp
    refine lv_istore (lv' := [(5, .int 1), (0, .ref b), (1, .ref o), (2, .ref o2), (3, .ref q), (4, .int (nI 0))]) hx hb dL_law_269 hl (by decide) rfl (fun ls hl => ?_)
    refine lv_aload_n hx hb dL_law_271 rfl (lv_at hl 3 rfl) ?_
    refine lv_aload_n hx hb dL_law_272 rfl (lv_at hl 1 rfl) ?_
    refine lv_iload hx hb dL_law_273 (lv_at hl 5 rfl) ?_
    refine lv_iconst (v := 1) hx hb dL_law_275 (by decide) ?_
    refine lv_iadd hx hb dL_law_276 ?_
    refine g_top (nI_add 0 1) ?_
    refine va_sld hx hb hX hbl hbA X.2.2.2.2 (i := nI (0 + 1)) (vp_in_nI (by omega) (by omega)) dL_law_277 ?_
    refine g_top (y := x1) ((congrArg xs (nI_clamp (by omega))).trans ex1.symm) ?_
    refine lv_aload_n hx hb dL_law_278 rfl (lv_at hl 1 rfl) ?_
    refine lv_iload hx hb dL_law_279 (lv_at hl 5 rfl) ?_
    refine lv_iconst (v := 2) hx hb dL_law_281 (by decide) ?_
    refine lv_iadd hx hb dL_law_282 ?_
    refine g_top (nI_add 0 2) ?_
    refine va_sld hx hb hX hbl hbA X.2.2.2.2 (i := nI (0 + 2)) (vp_in_nI (by omega) (by omega)) dL_law_283 ?_
    refine g_top (y := x2) ((congrArg xs (nI_clamp (by omega))).trans ex2.symm) ?_
    refine g_lawRie (n := 2) (As := [.int x1, .int x2]) C X (bX1_fill1 l D t cI o2 H.size (rb_r0, 0, 0, 0, g) x1 x2 a1) (rw_V q110 q111 q112 q5 q113) kd_X1_fill rfl ⟨Nat.le_of_ble_eq_true rfl, Nat.le_of_ble_eq_true rfl⟩ hl.1 rfl rfl (Nat.le_of_ble_eq_true rfl) dL_law_284 ⟨Nat.le_of_ble_eq_true rfl, Nat.le_of_ble_eq_true rfl⟩ (fun H locs X => ?_)
    refine lv_topi (fun b1 eb1 => ?_)
    refine lv_istore (lv' := [(6, .int b1), (5, .int 1), (0, .ref b), (1, .ref o), (2, .ref o2), (3, .ref q), (4, .int (nI 0))]) hx hb dL_law_287 hl (by decide) rfl (fun ls hl => ?_)
    refine lv_aload_n hx hb dL_law_289 rfl (lv_at hl 4 rfl) ?_
    refine g_lawRie (n := 0) (As := []) C X (mX1_thrown l D t cI o2 H.size _) (rw_V q72 q73 q74 q5 q75) kd_X1_thrown rfl ⟨Nat.le_of_ble_eq_true rfl, Nat.le_of_ble_eq_true rfl⟩ hl.1 rfl rfl (Nat.le_of_ble_eq_true rfl) dL_law_290 ⟨Nat.le_of_ble_eq_true rfl, Nat.le_of_ble_eq_true rfl⟩ (fun H locs X => ?_)
    refine lv_topi (fun t9 et9 => ?_)
    refine lv_iload hx hb dL_law_293 (lv_at hl 1 rfl) ?_
    refine lv_icmp_eq (tgt := 300) hx hb dL_law_295 (by decide) (fun c3 => ?_) (fun c3 => absurd (et9.trans rfl) c3)
    refine lv_iload hx hb dL_law_300 (lv_at hl 1 rfl) ?_
    refine lv_if_ne (tgt := 317) hx hb dL_law_302 (by decide) (fun c4 => ?_) (fun c4 => absurd c4 (by decide))
    refine lv_goto (tgt := 1142) hx hb dL_law_317 (by decide) ?_
    refine W.widen (k := 40) (n := 400) (Nat.le_of_ble_eq_true rfl) (Nat.le_of_ble_eq_true rfl) ?_
    exact kk _ _ _ X.2.2.2.2 (lv_sub hl [2, 3, 4, 5, 6] rfl)
set_option maxHeartbeats 4000000 in
set_option maxRecDepth 100000 in
theorem law_c3 {p : Program} {l : Launch} {e : Env} {s : State} {m : MethodId} {below : List Frame} {meth : Method} {c : Code} {Q : State → Prop} {D : va_G} {t : Nat → Nat} {A : Nat → Prop} {cI cL : ClassId} {o o2 q b L : Nat} {ad g : Nat → Nat} {xs : Nat → Int32} {f : Nat → Int64} {H : Heap} {locs : List Loc} {ls : Array Slot} (C : gC p s m #[.ref b] meth c code 9 RL D (lT cI cL) t A) (hl0 : l.stackTraces = false) (hX : va_X b L xs s s.heap) (hbl : b < s.heap.size) (hbA : ¬ A b) (hL : L = 4) (X : lS D A s cI cL o ad ra_u0 o2 (rb_r0, 0, 0, 0, g) q f H locs) (hl : lv_has ls 9 [(0, .ref b), (1, .ref o), (2, .ref o2), (3, .ref q), (4, .int (nI 0))]) (kk : ∀ (H : Heap) (locs : List Loc) (ls : Array Slot), va_S A s.heap H locs → lv_has ls 9 [(0, .ref b), (1, .ref o), (2, .ref o2), (3, .ref q), (4, .int (nI 0))] → W p l e room_1 s m #[.ref b] below meth c H locs 40 400 Q (F0 m 1142 ls [])) : W p l e room_1 s m #[.ref b] below meth c H locs 19 185 Q (F0 m 320 ls []) := by
  have hx := C.1
  have hb := C.2.1
  have hown := C.2.2.2.1
  have hts := C.2.2.2.2.1
  obtain ⟨x1, ex1⟩ : ∃ z, z = xs (0 + 1) := ⟨_, rfl⟩
  obtain ⟨x2, ex2⟩ : ∃ z, z = xs (0 + 2) := ⟨_, rfl⟩
  refine lv_aload_n hx hb dL_law_320 rfl (lv_at hl 1 rfl) ?_
  refine lv_aload_n hx hb dL_law_321 rfl (lv_at hl 0 rfl) ?_
  refine lv_iload hx hb dL_law_322 (lv_at hl 4 rfl) ?_
  refine lv_iconst (v := 1) hx hb dL_law_324 (by decide) ?_
  refine lv_iadd hx hb dL_law_325 ?_
  refine g_top (nI_add 0 1) ?_
  refine va_sld hx hb hX hbl hbA X.2.2.2.2 (i := nI (0 + 1)) (vp_in_nI (by omega) (by omega)) dL_law_326 ?_
  refine g_top (y := x1) ((congrArg xs (nI_clamp (by omega))).trans ex1.symm) ?_
  refine lv_aload_n hx hb dL_law_327 rfl (lv_at hl 0 rfl) ?_
  refine lv_iload hx hb dL_law_328 (lv_at hl 4 rfl) ?_
  refine lv_iconst (v := 2) hx hb dL_law_330 (by decide) ?_
  refine lv_iadd hx hb dL_law_331 ?_
  refine g_top (nI_add 0 2) ?_
  refine va_sld hx hb hX hbl hbA X.2.2.2.2 (i := nI (0 + 2)) (vp_in_nI (by omega) (by omega)) dL_law_332 ?_
  refine g_top (y := x2) ((congrArg xs (nI_clamp (by omega))).trans ex2.symm) ?_
  refine lv_aload_n hx hb dL_law_333 rfl (lv_at hl 3 rfl) ?_
  refine g_lawH (n := 4) (As := [.ref o, .int x1, .int x2, .ref q]) C X (fun sz => xL_bind1 l D t cI cL o ad q sz f ra_u0 (fun sz => xX0_bind1 l D t cI o ad sz ra_u0 hl0 x1 x2 (rb_no rfl))) (rwW_S q117 q118 q36 q119) kd_L_bind ⟨Nat.le_of_ble_eq_true rfl, Nat.le_of_ble_eq_true rfl⟩ hl.1 rfl rfl (Nat.le_of_ble_eq_true rfl) dL_law_334 ⟨Nat.le_of_ble_eq_true rfl, Nat.le_of_ble_eq_true rfl⟩ (fun r9 f9 u9 H locs hp X => ?_)
  obtain ⟨rfl, rfl⟩ := hp
  refine lv_istore (lv' := [(5, .int 1), (0, .ref b), (1, .ref o), (2, .ref o2), (3, .ref q), (4, .int (nI 0))]) hx hb dL_law_337 hl (by decide) rfl (fun ls hl => ?_)
  refine lv_aload_n hx hb dL_law_339 rfl (lv_at hl 3 rfl) ?_
  refine lv_aload_n hx hb dL_law_340 rfl (lv_at hl 1 rfl) ?_
  refine lv_iload hx hb dL_law_341 (lv_at hl 5 rfl) ?_
  refine lv_iconst (v := 1) hx hb dL_law_343 (by decide) ?_
  refine lv_iadd hx hb dL_law_344 ?_
  refine g_top (nI_add 0 1) ?_
  refine va_sld hx hb hX hbl hbA X.2.2.2.2 (i := nI (0 + 1)) (vp_in_nI (by omega) (by omega)) dL_law_345 ?_
  refine g_top (y := x1) ((congrArg xs (nI_clamp (by omega))).trans ex1.symm) ?_
  refine lv_aload_n hx hb dL_law_346 rfl (lv_at hl 1 rfl) ?_
  refine lv_iload hx hb dL_law_347 (lv_at hl 5 rfl) ?_
  refine lv_iconst (v := 2) hx hb dL_law_349 (by decide) ?_
  refine lv_iadd hx hb dL_law_350 ?_
  refine g_top (nI_add 0 2) ?_
  refine va_sld hx hb hX hbl hbA X.2.2.2.2 (i := nI (0 + 2)) (vp_in_nI (by omega) (by omega)) dL_law_351 ?_
  refine g_top (y := x2) ((congrArg xs (nI_clamp (by omega))).trans ex2.symm) ?_
  refine g_lawRie (n := 2) (As := [.int x1, .int x2]) C X (bX1_bind1 l D t cI o2 H.size (rb_r0, 0, 0, 0, g) (Nat.zero_le 8) x1 x2 (rb_no rfl)) (rw_V q124 q125 q126 q5 q127) kd_X1_bind rfl ⟨Nat.le_of_ble_eq_true rfl, Nat.le_of_ble_eq_true rfl⟩ hl.1 rfl rfl (Nat.le_of_ble_eq_true rfl) dL_law_352 ⟨Nat.le_of_ble_eq_true rfl, Nat.le_of_ble_eq_true rfl⟩ (fun H locs X => ?_)
  refine lv_topi (fun b1 eb1 => ?_)
  refine lv_istore (lv' := [(6, .int b1), (5, .int 1), (0, .ref b), (1, .ref o), (2, .ref o2), (3, .ref q), (4, .int (nI 0))]) hx hb dL_law_355 hl (by decide) rfl (fun ls hl => ?_)
  refine lv_aload_n hx hb dL_law_357 rfl (lv_at hl 4 rfl) ?_
  refine g_lawRie (n := 0) (As := []) C X (mX1_thrown l D t cI o2 H.size _) (rw_V q72 q73 q74 q5 q75) kd_X1_thrown rfl ⟨Nat.le_of_ble_eq_true rfl, Nat.le_of_ble_eq_true rfl⟩ hl.1 rfl rfl (Nat.le_of_ble_eq_true rfl) dL_law_358 ⟨Nat.le_of_ble_eq_true rfl, Nat.le_of_ble_eq_true rfl⟩ (fun H locs X => ?_)
  refine lv_topi (fun t9 et9 => ?_)
  refine lv_iload hx hb dL_law_361 (lv_at hl 1 rfl) ?_
  refine lv_icmp_eq (tgt := 368) hx hb dL_law_363 (by decide) (fun c3 => ?_) (fun c3 => absurd (et9.trans rfl) c3)
  refine lv_iload hx hb dL_law_368 (lv_at hl 1 rfl) ?_
  refine lv_if_ne (tgt := 385) hx hb dL_law_370 (by decide) (fun c4 => ?_) (fun c4 => absurd c4 (by decide))
  refine lv_goto (tgt := 1142) hx hb dL_law_385 (by decide) ?_
  refine W.widen (k := 40) (n := 400) (Nat.le_of_ble_eq_true rfl) (Nat.le_of_ble_eq_true rfl) ?_
  exact kk _ _ _ X.2.2.2.2 (lv_sub hl [2, 3, 4, 5, 6] rfl)
set_option maxHeartbeats 4000000 in
set_option maxRecDepth 100000 in
theorem law_c4 {p : Program} {l : Launch} {e : Env} {s : State} {m : MethodId} {below : List Frame} {meth : Method} {c : Code} {Q : State → Prop} {D : va_G} {t : Nat → Nat} {A : Nat → Prop} {cI cL : ClassId} {o o2 q b L : Nat} {ad g : Nat → Nat} {xs : Nat → Int32} {f : Nat → Int64} {H : Heap} {locs : List Loc} {ls : Array Slot} (C : gC p s m #[.ref b] meth c code 9 RL D (lT cI cL) t A) (hl0 : l.stackTraces = false) (hX : va_X b L xs s s.heap) (hbl : b < s.heap.size) (hbA : ¬ A b) (hL : L = 4) (X : lS D A s cI cL o ad ra_u0 o2 (rb_r0, 0, 0, 0, g) q f H locs) (hl : lv_has ls 9 [(0, .ref b), (1, .ref o), (2, .ref o2), (3, .ref q), (4, .int (nI 0))]) (kk : ∀ (H : Heap) (locs : List Loc) (ls : Array Slot), va_S A s.heap H locs → lv_has ls 9 [(0, .ref b), (1, .ref o), (2, .ref o2), (3, .ref q), (4, .int (nI 0))] → W p l e room_1 s m #[.ref b] below meth c H locs 40 400 Q (F0 m 1142 ls [])) : W p l e room_1 s m #[.ref b] below meth c H locs 19 185 Q (F0 m 388 ls []) := by
  have hx := C.1
  have hb := C.2.1
  have hown := C.2.2.2.1
  have hts := C.2.2.2.2.1
  obtain ⟨x1, ex1⟩ : ∃ z, z = xs (0 + 1) := ⟨_, rfl⟩
  obtain ⟨x2, ex2⟩ : ∃ z, z = xs (0 + 2) := ⟨_, rfl⟩
  obtain ⟨x3, ex3⟩ : ∃ z, z = xs (0 + 3) := ⟨_, rfl⟩
  by_cases a3 : x3 = 0
  · refine lv_aload_n hx hb dL_law_388 rfl (lv_at hl 1 rfl) ?_
    refine lv_aload_n hx hb dL_law_389 rfl (lv_at hl 0 rfl) ?_
    refine lv_iload hx hb dL_law_390 (lv_at hl 4 rfl) ?_
    refine lv_iconst (v := 1) hx hb dL_law_392 (by decide) ?_
    refine lv_iadd hx hb dL_law_393 ?_
    refine g_top (nI_add 0 1) ?_
    refine va_sld hx hb hX hbl hbA X.2.2.2.2 (i := nI (0 + 1)) (vp_in_nI (by omega) (by omega)) dL_law_394 ?_
    refine g_top (y := x1) ((congrArg xs (nI_clamp (by omega))).trans ex1.symm) ?_
    refine lv_aload_n hx hb dL_law_395 rfl (lv_at hl 0 rfl) ?_
    refine lv_iload hx hb dL_law_396 (lv_at hl 4 rfl) ?_
    refine lv_iconst (v := 2) hx hb dL_law_398 (by decide) ?_
    refine lv_iadd hx hb dL_law_399 ?_
    refine g_top (nI_add 0 2) ?_
    refine va_sld hx hb hX hbl hbA X.2.2.2.2 (i := nI (0 + 2)) (vp_in_nI (by omega) (by omega)) dL_law_400 ?_
    refine g_top (y := x2) ((congrArg xs (nI_clamp (by omega))).trans ex2.symm) ?_
    refine lv_aload_n hx hb dL_law_401 rfl (lv_at hl 0 rfl) ?_
    refine lv_iload hx hb dL_law_402 (lv_at hl 4 rfl) ?_
    refine lv_iconst (v := 3) hx hb dL_law_404 (by decide) ?_
    refine lv_iadd hx hb dL_law_405 ?_
    refine g_top (nI_add 0 3) ?_
    refine va_sld hx hb hX hbl hbA X.2.2.2.2 (i := nI (0 + 3)) (vp_in_nI (by omega) (by omega)) dL_law_406 ?_
    refine g_top (y := x3) ((congrArg xs (nI_clamp (by omega))).trans ex3.symm) ?_
    refine lv_if_eq (tgt := 414) hx hb dL_law_407 (by decide) (fun c1 => ?_) (fun c1 => absurd a3 c1)
    refine lv_iconst (v := 0) hx hb dL_law_414 (by decide) ?_
    refine lv_aload_n hx hb dL_law_415 rfl (lv_at hl 3 rfl) ?_
    refine g_lawH (n := 5) (As := [.ref o, .int x1, .int x2, .int 0, .ref q]) C X (fun sz => xL_work1 l D t cI cL o ad q sz f ra_u0 (fun sz => xX0_work1 l D t cI o ad sz ra_u0 hl0 x1 x2 0 (rb_no rfl))) (rwW_S q136 q137 q36 q138) kd_L_work ⟨Nat.le_of_ble_eq_true rfl, Nat.le_of_ble_eq_true rfl⟩ hl.1 rfl rfl (Nat.le_of_ble_eq_true rfl) dL_law_416 ⟨Nat.le_of_ble_eq_true rfl, Nat.le_of_ble_eq_true rfl⟩ (fun r9 f9 u9 H locs hp X => ?_)
    obtain ⟨rfl, rfl⟩ := hp
    refine lv_istore (lv' := [(5, .int 1), (0, .ref b), (1, .ref o), (2, .ref o2), (3, .ref q), (4, .int (nI 0))]) hx hb dL_law_419 hl (by decide) rfl (fun ls hl => ?_)
    refine lv_aload_n hx hb dL_law_421 rfl (lv_at hl 3 rfl) ?_
    refine lv_aload_n hx hb dL_law_422 rfl (lv_at hl 1 rfl) ?_
    refine lv_iload hx hb dL_law_423 (lv_at hl 5 rfl) ?_
    refine lv_iconst (v := 1) hx hb dL_law_425 (by decide) ?_
    refine lv_iadd hx hb dL_law_426 ?_
    refine g_top (nI_add 0 1) ?_
    refine va_sld hx hb hX hbl hbA X.2.2.2.2 (i := nI (0 + 1)) (vp_in_nI (by omega) (by omega)) dL_law_427 ?_
    refine g_top (y := x1) ((congrArg xs (nI_clamp (by omega))).trans ex1.symm) ?_
    refine lv_aload_n hx hb dL_law_428 rfl (lv_at hl 1 rfl) ?_
    refine lv_iload hx hb dL_law_429 (lv_at hl 5 rfl) ?_
    refine lv_iconst (v := 2) hx hb dL_law_431 (by decide) ?_
    refine lv_iadd hx hb dL_law_432 ?_
    refine g_top (nI_add 0 2) ?_
    refine va_sld hx hb hX hbl hbA X.2.2.2.2 (i := nI (0 + 2)) (vp_in_nI (by omega) (by omega)) dL_law_433 ?_
    refine g_top (y := x2) ((congrArg xs (nI_clamp (by omega))).trans ex2.symm) ?_
    refine lv_aload_n hx hb dL_law_434 rfl (lv_at hl 1 rfl) ?_
    refine lv_iload hx hb dL_law_435 (lv_at hl 5 rfl) ?_
    refine lv_iconst (v := 3) hx hb dL_law_437 (by decide) ?_
    refine lv_iadd hx hb dL_law_438 ?_
    refine g_top (nI_add 0 3) ?_
    refine va_sld hx hb hX hbl hbA X.2.2.2.2 (i := nI (0 + 3)) (vp_in_nI (by omega) (by omega)) dL_law_439 ?_
    refine g_top (y := x3) ((congrArg xs (nI_clamp (by omega))).trans ex3.symm) ?_
    refine lv_if_eq (tgt := 447) hx hb dL_law_440 (by decide) (fun c2 => ?_) (fun c2 => absurd a3 c2)
    refine lv_iconst (v := 0) hx hb dL_law_447 (by decide) ?_
    refine g_lawRie (n := 3) (As := [.int x1, .int x2, .int 0]) C X (bX1_work1 l D t cI o2 H.size (rb_r0, 0, 0, 0, g) (Nat.zero_le 8) x1 x2 0 (rb_no rfl)) (rw_V q143 q144 q145 q5 q146) kd_X1_work rfl ⟨Nat.le_of_ble_eq_true rfl, Nat.le_of_ble_eq_true rfl⟩ hl.1 rfl rfl (Nat.le_of_ble_eq_true rfl) dL_law_448 ⟨Nat.le_of_ble_eq_true rfl, Nat.le_of_ble_eq_true rfl⟩ (fun H locs X => ?_)
    refine lv_topi (fun b3 eb3 => ?_)
    refine lv_istore (lv' := [(6, .int b3), (5, .int 1), (0, .ref b), (1, .ref o), (2, .ref o2), (3, .ref q), (4, .int (nI 0))]) hx hb dL_law_451 hl (by decide) rfl (fun ls hl => ?_)
    refine lv_aload_n hx hb dL_law_453 rfl (lv_at hl 4 rfl) ?_
    refine g_lawRie (n := 0) (As := []) C X (mX1_thrown l D t cI o2 H.size _) (rw_V q72 q73 q74 q5 q75) kd_X1_thrown rfl ⟨Nat.le_of_ble_eq_true rfl, Nat.le_of_ble_eq_true rfl⟩ hl.1 rfl rfl (Nat.le_of_ble_eq_true rfl) dL_law_454 ⟨Nat.le_of_ble_eq_true rfl, Nat.le_of_ble_eq_true rfl⟩ (fun H locs X => ?_)
    refine lv_topi (fun t9 et9 => ?_)
    refine lv_iload hx hb dL_law_457 (lv_at hl 1 rfl) ?_
    refine lv_icmp_eq (tgt := 464) hx hb dL_law_459 (by decide) (fun c5 => ?_) (fun c5 => absurd (et9.trans rfl) c5)
    refine lv_iload hx hb dL_law_464 (lv_at hl 1 rfl) ?_
    refine lv_if_ne (tgt := 481) hx hb dL_law_466 (by decide) (fun c6 => ?_) (fun c6 => absurd c6 (by decide))
    refine lv_goto (tgt := 1142) hx hb dL_law_481 (by decide) ?_
    refine W.widen (k := 40) (n := 400) (Nat.le_of_ble_eq_true rfl) (Nat.le_of_ble_eq_true rfl) ?_
    exact kk _ _ _ X.2.2.2.2 (lv_sub hl [2, 3, 4, 5, 6] rfl)
  · refine lv_aload_n hx hb dL_law_388 rfl (lv_at hl 1 rfl) ?_
    refine lv_aload_n hx hb dL_law_389 rfl (lv_at hl 0 rfl) ?_
    refine lv_iload hx hb dL_law_390 (lv_at hl 4 rfl) ?_
    refine lv_iconst (v := 1) hx hb dL_law_392 (by decide) ?_
    refine lv_iadd hx hb dL_law_393 ?_
    refine g_top (nI_add 0 1) ?_
    refine va_sld hx hb hX hbl hbA X.2.2.2.2 (i := nI (0 + 1)) (vp_in_nI (by omega) (by omega)) dL_law_394 ?_
    refine g_top (y := x1) ((congrArg xs (nI_clamp (by omega))).trans ex1.symm) ?_
    refine lv_aload_n hx hb dL_law_395 rfl (lv_at hl 0 rfl) ?_
    refine lv_iload hx hb dL_law_396 (lv_at hl 4 rfl) ?_
    refine lv_iconst (v := 2) hx hb dL_law_398 (by decide) ?_
    refine lv_iadd hx hb dL_law_399 ?_
    refine g_top (nI_add 0 2) ?_
    refine va_sld hx hb hX hbl hbA X.2.2.2.2 (i := nI (0 + 2)) (vp_in_nI (by omega) (by omega)) dL_law_400 ?_
    refine g_top (y := x2) ((congrArg xs (nI_clamp (by omega))).trans ex2.symm) ?_
    refine lv_aload_n hx hb dL_law_401 rfl (lv_at hl 0 rfl) ?_
    refine lv_iload hx hb dL_law_402 (lv_at hl 4 rfl) ?_
    refine lv_iconst (v := 3) hx hb dL_law_404 (by decide) ?_
    refine lv_iadd hx hb dL_law_405 ?_
    refine g_top (nI_add 0 3) ?_
    refine va_sld hx hb hX hbl hbA X.2.2.2.2 (i := nI (0 + 3)) (vp_in_nI (by omega) (by omega)) dL_law_406 ?_
    refine g_top (y := x3) ((congrArg xs (nI_clamp (by omega))).trans ex3.symm) ?_
    refine lv_if_eq (tgt := 414) hx hb dL_law_407 (by decide) (fun c1 => absurd c1 a3) (fun c1 => ?_)
    refine lv_iconst (v := 1) hx hb dL_law_410 (by decide) ?_
    refine lv_goto (tgt := 415) hx hb dL_law_411 (by decide) ?_
    refine lv_aload_n hx hb dL_law_415 rfl (lv_at hl 3 rfl) ?_
    refine g_lawH (n := 5) (As := [.ref o, .int x1, .int x2, .int 1, .ref q]) C X (fun sz => xL_work1 l D t cI cL o ad q sz f ra_u0 (fun sz => xX0_work1 l D t cI o ad sz ra_u0 hl0 x1 x2 1 (rb_no rfl))) (rwW_S q136 q137 q36 q138) kd_L_work ⟨Nat.le_of_ble_eq_true rfl, Nat.le_of_ble_eq_true rfl⟩ hl.1 rfl rfl (Nat.le_of_ble_eq_true rfl) dL_law_416 ⟨Nat.le_of_ble_eq_true rfl, Nat.le_of_ble_eq_true rfl⟩ (fun r9 f9 u9 H locs hp X => ?_)
    obtain ⟨rfl, rfl⟩ := hp
    refine lv_istore (lv' := [(5, .int 1), (0, .ref b), (1, .ref o), (2, .ref o2), (3, .ref q), (4, .int (nI 0))]) hx hb dL_law_419 hl (by decide) rfl (fun ls hl => ?_)
    refine lv_aload_n hx hb dL_law_421 rfl (lv_at hl 3 rfl) ?_
    refine lv_aload_n hx hb dL_law_422 rfl (lv_at hl 1 rfl) ?_
    refine lv_iload hx hb dL_law_423 (lv_at hl 5 rfl) ?_
    refine lv_iconst (v := 1) hx hb dL_law_425 (by decide) ?_
    refine lv_iadd hx hb dL_law_426 ?_
    refine g_top (nI_add 0 1) ?_
    refine va_sld hx hb hX hbl hbA X.2.2.2.2 (i := nI (0 + 1)) (vp_in_nI (by omega) (by omega)) dL_law_427 ?_
    refine g_top (y := x1) ((congrArg xs (nI_clamp (by omega))).trans ex1.symm) ?_
    refine lv_aload_n hx hb dL_law_428 rfl (lv_at hl 1 rfl) ?_
    refine lv_iload hx hb dL_law_429 (lv_at hl 5 rfl) ?_
    refine lv_iconst (v := 2) hx hb dL_law_431 (by decide) ?_
    refine lv_iadd hx hb dL_law_432 ?_
    refine g_top (nI_add 0 2) ?_
    refine va_sld hx hb hX hbl hbA X.2.2.2.2 (i := nI (0 + 2)) (vp_in_nI (by omega) (by omega)) dL_law_433 ?_
    refine g_top (y := x2) ((congrArg xs (nI_clamp (by omega))).trans ex2.symm) ?_
    refine lv_aload_n hx hb dL_law_434 rfl (lv_at hl 1 rfl) ?_
    refine lv_iload hx hb dL_law_435 (lv_at hl 5 rfl) ?_
    refine lv_iconst (v := 3) hx hb dL_law_437 (by decide) ?_
    refine lv_iadd hx hb dL_law_438 ?_
    refine g_top (nI_add 0 3) ?_
    refine va_sld hx hb hX hbl hbA X.2.2.2.2 (i := nI (0 + 3)) (vp_in_nI (by omega) (by omega)) dL_law_439 ?_
    refine g_top (y := x3) ((congrArg xs (nI_clamp (by omega))).trans ex3.symm) ?_
    refine lv_if_eq (tgt := 447) hx hb dL_law_440 (by decide) (fun c2 => absurd c2 a3) (fun c2 => ?_)
    refine lv_iconst (v := 1) hx hb dL_law_443 (by decide) ?_
    refine lv_goto (tgt := 448) hx hb dL_law_444 (by decide) ?_
    refine g_lawRie (n := 3) (As := [.int x1, .int x2, .int 1]) C X (bX1_work1 l D t cI o2 H.size (rb_r0, 0, 0, 0, g) (Nat.zero_le 8) x1 x2 1 (rb_no rfl)) (rw_V q143 q144 q145 q5 q146) kd_X1_work rfl ⟨Nat.le_of_ble_eq_true rfl, Nat.le_of_ble_eq_true rfl⟩ hl.1 rfl rfl (Nat.le_of_ble_eq_true rfl) dL_law_448 ⟨Nat.le_of_ble_eq_true rfl, Nat.le_of_ble_eq_true rfl⟩ (fun H locs X => ?_)
    refine lv_topi (fun b3 eb3 => ?_)
    refine lv_istore (lv' := [(6, .int b3), (5, .int 1), (0, .ref b), (1, .ref o), (2, .ref o2), (3, .ref q), (4, .int (nI 0))]) hx hb dL_law_451 hl (by decide) rfl (fun ls hl => ?_)
    refine lv_aload_n hx hb dL_law_453 rfl (lv_at hl 4 rfl) ?_
    refine g_lawRie (n := 0) (As := []) C X (mX1_thrown l D t cI o2 H.size _) (rw_V q72 q73 q74 q5 q75) kd_X1_thrown rfl ⟨Nat.le_of_ble_eq_true rfl, Nat.le_of_ble_eq_true rfl⟩ hl.1 rfl rfl (Nat.le_of_ble_eq_true rfl) dL_law_454 ⟨Nat.le_of_ble_eq_true rfl, Nat.le_of_ble_eq_true rfl⟩ (fun H locs X => ?_)
    refine lv_topi (fun t9 et9 => ?_)
    refine lv_iload hx hb dL_law_457 (lv_at hl 1 rfl) ?_
    refine lv_icmp_eq (tgt := 464) hx hb dL_law_459 (by decide) (fun c5 => ?_) (fun c5 => absurd (et9.trans rfl) c5)
    refine lv_iload hx hb dL_law_464 (lv_at hl 1 rfl) ?_
    refine lv_if_ne (tgt := 481) hx hb dL_law_466 (by decide) (fun c6 => ?_) (fun c6 => absurd c6 (by decide))
    refine lv_goto (tgt := 1142) hx hb dL_law_481 (by decide) ?_
    refine W.widen (k := 40) (n := 400) (Nat.le_of_ble_eq_true rfl) (Nat.le_of_ble_eq_true rfl) ?_
    exact kk _ _ _ X.2.2.2.2 (lv_sub hl [2, 3, 4, 5, 6] rfl)
set_option maxHeartbeats 4000000 in
set_option maxRecDepth 100000 in
theorem law_c5 {p : Program} {l : Launch} {e : Env} {s : State} {m : MethodId} {below : List Frame} {meth : Method} {c : Code} {Q : State → Prop} {D : va_G} {t : Nat → Nat} {A : Nat → Prop} {cI cL : ClassId} {o o2 q b L : Nat} {ad g : Nat → Nat} {xs : Nat → Int32} {f : Nat → Int64} {H : Heap} {locs : List Loc} {ls : Array Slot} (C : gC p s m #[.ref b] meth c code 9 RL D (lT cI cL) t A) (hl0 : l.stackTraces = false) (hX : va_X b L xs s s.heap) (hbl : b < s.heap.size) (hbA : ¬ A b) (hL : L = 4) (X : lS D A s cI cL o ad ra_u0 o2 (rb_r0, 0, 0, 0, g) q f H locs) (hl : lv_has ls 9 [(0, .ref b), (1, .ref o), (2, .ref o2), (3, .ref q), (4, .int (nI 0))]) (kk : ∀ (H : Heap) (locs : List Loc) (ls : Array Slot), va_S A s.heap H locs → lv_has ls 9 [(0, .ref b), (1, .ref o), (2, .ref o2), (3, .ref q), (4, .int (nI 0))] → W p l e room_1 s m #[.ref b] below meth c H locs 40 400 Q (F0 m 1142 ls [])) : W p l e room_1 s m #[.ref b] below meth c H locs 19 185 Q (F0 m 484 ls []) := by
  have hx := C.1
  have hb := C.2.1
  have hown := C.2.2.2.1
  have hts := C.2.2.2.2.1
  obtain ⟨x1, ex1⟩ : ∃ z, z = xs (0 + 1) := ⟨_, rfl⟩
  obtain ⟨x2, ex2⟩ : ∃ z, z = xs (0 + 2) := ⟨_, rfl⟩
  refine lv_aload_n hx hb dL_law_484 rfl (lv_at hl 1 rfl) ?_
  refine lv_aload_n hx hb dL_law_485 rfl (lv_at hl 0 rfl) ?_
  refine lv_iload hx hb dL_law_486 (lv_at hl 4 rfl) ?_
  refine lv_iconst (v := 1) hx hb dL_law_488 (by decide) ?_
  refine lv_iadd hx hb dL_law_489 ?_
  refine g_top (nI_add 0 1) ?_
  refine va_sld hx hb hX hbl hbA X.2.2.2.2 (i := nI (0 + 1)) (vp_in_nI (by omega) (by omega)) dL_law_490 ?_
  refine g_top (y := x1) ((congrArg xs (nI_clamp (by omega))).trans ex1.symm) ?_
  refine lv_aload_n hx hb dL_law_491 rfl (lv_at hl 0 rfl) ?_
  refine lv_iload hx hb dL_law_492 (lv_at hl 4 rfl) ?_
  refine lv_iconst (v := 2) hx hb dL_law_494 (by decide) ?_
  refine lv_iadd hx hb dL_law_495 ?_
  refine g_top (nI_add 0 2) ?_
  refine va_sld hx hb hX hbl hbA X.2.2.2.2 (i := nI (0 + 2)) (vp_in_nI (by omega) (by omega)) dL_law_496 ?_
  refine g_top (y := x2) ((congrArg xs (nI_clamp (by omega))).trans ex2.symm) ?_
  refine lv_aload_n hx hb dL_law_497 rfl (lv_at hl 3 rfl) ?_
  refine g_lawH (n := 4) (As := [.ref o, .int x1, .int x2, .ref q]) C X (fun sz => xL_lend1 l D t cI cL o ad q sz f ra_u0 (fun sz => xX0_lend1 l D t cI o ad sz ra_u0 hl0 x1 x2 (rb_no rfl))) (rwW_S q147 q148 q36 q149) kd_L_lend ⟨Nat.le_of_ble_eq_true rfl, Nat.le_of_ble_eq_true rfl⟩ hl.1 rfl rfl (Nat.le_of_ble_eq_true rfl) dL_law_498 ⟨Nat.le_of_ble_eq_true rfl, Nat.le_of_ble_eq_true rfl⟩ (fun r9 f9 u9 H locs hp X => ?_)
  obtain ⟨rfl, rfl⟩ := hp
  refine lv_istore (lv' := [(5, .int 1), (0, .ref b), (1, .ref o), (2, .ref o2), (3, .ref q), (4, .int (nI 0))]) hx hb dL_law_501 hl (by decide) rfl (fun ls hl => ?_)
  refine lv_aload_n hx hb dL_law_503 rfl (lv_at hl 3 rfl) ?_
  refine lv_aload_n hx hb dL_law_504 rfl (lv_at hl 1 rfl) ?_
  refine lv_iload hx hb dL_law_505 (lv_at hl 5 rfl) ?_
  refine lv_iconst (v := 1) hx hb dL_law_507 (by decide) ?_
  refine lv_iadd hx hb dL_law_508 ?_
  refine g_top (nI_add 0 1) ?_
  refine va_sld hx hb hX hbl hbA X.2.2.2.2 (i := nI (0 + 1)) (vp_in_nI (by omega) (by omega)) dL_law_509 ?_
  refine g_top (y := x1) ((congrArg xs (nI_clamp (by omega))).trans ex1.symm) ?_
  refine lv_aload_n hx hb dL_law_510 rfl (lv_at hl 1 rfl) ?_
  refine lv_iload hx hb dL_law_511 (lv_at hl 5 rfl) ?_
  refine lv_iconst (v := 2) hx hb dL_law_513 (by decide) ?_
  refine lv_iadd hx hb dL_law_514 ?_
  refine g_top (nI_add 0 2) ?_
  refine va_sld hx hb hX hbl hbA X.2.2.2.2 (i := nI (0 + 2)) (vp_in_nI (by omega) (by omega)) dL_law_515 ?_
  refine g_top (y := x2) ((congrArg xs (nI_clamp (by omega))).trans ex2.symm) ?_
  refine g_lawRie (n := 2) (As := [.int x1, .int x2]) C X (zX1_lend l D t cI o2 H.size (rb_r0, 0, 0, 0, g) rfl x1 x2) (rw_V q154 q155 q156 q5 q157) kd_X1_lend rfl ⟨Nat.le_of_ble_eq_true rfl, Nat.le_of_ble_eq_true rfl⟩ hl.1 rfl rfl (Nat.le_of_ble_eq_true rfl) dL_law_516 ⟨Nat.le_of_ble_eq_true rfl, Nat.le_of_ble_eq_true rfl⟩ (fun H locs X => ?_)
  refine lv_topi (fun b1 eb1 => ?_)
  refine lv_istore (lv' := [(6, .int b1), (5, .int 1), (0, .ref b), (1, .ref o), (2, .ref o2), (3, .ref q), (4, .int (nI 0))]) hx hb dL_law_519 hl (by decide) rfl (fun ls hl => ?_)
  refine lv_aload_n hx hb dL_law_521 rfl (lv_at hl 4 rfl) ?_
  refine g_lawRie (n := 0) (As := []) C X (mX1_thrown l D t cI o2 H.size _) (rw_V q72 q73 q74 q5 q75) kd_X1_thrown rfl ⟨Nat.le_of_ble_eq_true rfl, Nat.le_of_ble_eq_true rfl⟩ hl.1 rfl rfl (Nat.le_of_ble_eq_true rfl) dL_law_522 ⟨Nat.le_of_ble_eq_true rfl, Nat.le_of_ble_eq_true rfl⟩ (fun H locs X => ?_)
  refine lv_topi (fun t9 et9 => ?_)
  refine lv_iload hx hb dL_law_525 (lv_at hl 1 rfl) ?_
  refine lv_icmp_eq (tgt := 532) hx hb dL_law_527 (by decide) (fun c3 => ?_) (fun c3 => absurd (et9.trans rfl) c3)
  refine lv_iload hx hb dL_law_532 (lv_at hl 1 rfl) ?_
  refine lv_if_ne (tgt := 549) hx hb dL_law_534 (by decide) (fun c4 => ?_) (fun c4 => absurd c4 (by decide))
  refine lv_goto (tgt := 1142) hx hb dL_law_549 (by decide) ?_
  refine W.widen (k := 40) (n := 400) (Nat.le_of_ble_eq_true rfl) (Nat.le_of_ble_eq_true rfl) ?_
  exact kk _ _ _ X.2.2.2.2 (lv_sub hl [2, 3, 4, 5, 6] rfl)
set_option maxHeartbeats 4000000 in
set_option maxRecDepth 100000 in
theorem law_c6 {p : Program} {l : Launch} {e : Env} {s : State} {m : MethodId} {below : List Frame} {meth : Method} {c : Code} {Q : State → Prop} {D : va_G} {t : Nat → Nat} {A : Nat → Prop} {cI cL : ClassId} {o o2 q b L : Nat} {ad g : Nat → Nat} {xs : Nat → Int32} {f : Nat → Int64} {H : Heap} {locs : List Loc} {ls : Array Slot} (C : gC p s m #[.ref b] meth c code 9 RL D (lT cI cL) t A) (hl0 : l.stackTraces = false) (hX : va_X b L xs s s.heap) (hbl : b < s.heap.size) (hbA : ¬ A b) (hL : L = 4) (X : lS D A s cI cL o ad ra_u0 o2 (rb_r0, 0, 0, 0, g) q f H locs) (hl : lv_has ls 9 [(0, .ref b), (1, .ref o), (2, .ref o2), (3, .ref q), (4, .int (nI 0))]) (kk : ∀ (H : Heap) (locs : List Loc) (ls : Array Slot), va_S A s.heap H locs → lv_has ls 9 [(0, .ref b), (1, .ref o), (2, .ref o2), (3, .ref q), (4, .int (nI 0))] → W p l e room_1 s m #[.ref b] below meth c H locs 40 400 Q (F0 m 1142 ls [])) : W p l e room_1 s m #[.ref b] below meth c H locs 19 185 Q (F0 m 552 ls []) := by
  have hx := C.1
  have hb := C.2.1
  have hown := C.2.2.2.1
  have hts := C.2.2.2.2.1
  refine lv_aload_n hx hb dL_law_552 rfl (lv_at hl 1 rfl) ?_
  refine g_lawXie (n := 0) (As := []) C X (mX0_pay l D t cI o ad H.size ra_u0 (Nat.zero_le 8)) (rw_V q158 q159 q160 q2 q161) kd_X0_pay rfl ⟨Nat.le_of_ble_eq_true rfl, Nat.le_of_ble_eq_true rfl⟩ hl.1 rfl rfl (Nat.le_of_ble_eq_true rfl) dL_law_553 ⟨Nat.le_of_ble_eq_true rfl, Nat.le_of_ble_eq_true rfl⟩ (fun H locs X => ?_)
  refine lv_topi (fun b1 eb1 => ?_)
  refine lv_aload_n hx hb dL_law_556 rfl (lv_at hl 2 rfl) ?_
  refine g_lawRi (P := (fun r v' => r = 0)) (n := 0) (As := []) C X (zX1_pay l D t cI o2 H.size (rb_r0, 0, 0, 0, g) rfl) (fun r w' h => h.2.elim (fun v' h9 => ⟨v', h.1, h9⟩)) (rw_V q207 q208 q209 q5 q210) kd_X1_pay rfl ⟨Nat.le_of_ble_eq_true rfl, Nat.le_of_ble_eq_true rfl⟩ hl.1 rfl rfl (Nat.le_of_ble_eq_true rfl) dL_law_557 ⟨Nat.le_of_ble_eq_true rfl, Nat.le_of_ble_eq_true rfl⟩ (fun b2 v9 H locs hp X => ?_)
  have eb2 := hp
  refine lv_icmp_eq (tgt := 1142) hx hb dL_law_560 (by decide) (fun c3 => ?_) (fun c3 => absurd (eb1.trans eb2.symm) c3)
  refine W.widen (k := 40) (n := 400) (Nat.le_of_ble_eq_true rfl) (Nat.le_of_ble_eq_true rfl) ?_
  exact kk _ _ _ X.2.2.2.2 (lv_sub hl [0, 1, 2, 3, 4] rfl)
set_option maxHeartbeats 4000000 in
set_option maxRecDepth 100000 in
theorem law_c7 {p : Program} {l : Launch} {e : Env} {s : State} {m : MethodId} {below : List Frame} {meth : Method} {c : Code} {Q : State → Prop} {D : va_G} {t : Nat → Nat} {A : Nat → Prop} {cI cL : ClassId} {o o2 q b L : Nat} {ad g : Nat → Nat} {xs : Nat → Int32} {f : Nat → Int64} {H : Heap} {locs : List Loc} {ls : Array Slot} (C : gC p s m #[.ref b] meth c code 9 RL D (lT cI cL) t A) (hl0 : l.stackTraces = false) (hX : va_X b L xs s s.heap) (hbl : b < s.heap.size) (hbA : ¬ A b) (hL : L = 4) (X : lS D A s cI cL o ad ra_u0 o2 (rb_r0, 0, 0, 0, g) q f H locs) (hl : lv_has ls 9 [(0, .ref b), (1, .ref o), (2, .ref o2), (3, .ref q), (4, .int (nI 0))]) (kk : ∀ (H : Heap) (locs : List Loc) (ls : Array Slot), va_S A s.heap H locs → lv_has ls 9 [(0, .ref b), (1, .ref o), (2, .ref o2), (3, .ref q), (4, .int (nI 0))] → W p l e room_1 s m #[.ref b] below meth c H locs 40 400 Q (F0 m 1142 ls [])) : W p l e room_1 s m #[.ref b] below meth c H locs 19 185 Q (F0 m 565 ls []) := by
  have hx := C.1
  have hb := C.2.1
  have hown := C.2.2.2.1
  have hts := C.2.2.2.2.1
  obtain ⟨x1, ex1⟩ : ∃ z, z = xs (0 + 1) := ⟨_, rfl⟩
  obtain ⟨x2, ex2⟩ : ∃ z, z = xs (0 + 2) := ⟨_, rfl⟩
  refine lv_aload_n hx hb dL_law_565 rfl (lv_at hl 1 rfl) ?_
  refine lv_aload_n hx hb dL_law_566 rfl (lv_at hl 0 rfl) ?_
  refine lv_iload hx hb dL_law_567 (lv_at hl 4 rfl) ?_
  refine lv_iconst (v := 1) hx hb dL_law_569 (by decide) ?_
  refine lv_iadd hx hb dL_law_570 ?_
  refine g_top (nI_add 0 1) ?_
  refine va_sld hx hb hX hbl hbA X.2.2.2.2 (i := nI (0 + 1)) (vp_in_nI (by omega) (by omega)) dL_law_571 ?_
  refine g_top (y := x1) ((congrArg xs (nI_clamp (by omega))).trans ex1.symm) ?_
  refine lv_aload_n hx hb dL_law_572 rfl (lv_at hl 0 rfl) ?_
  refine lv_iload hx hb dL_law_573 (lv_at hl 4 rfl) ?_
  refine lv_iconst (v := 2) hx hb dL_law_575 (by decide) ?_
  refine lv_iadd hx hb dL_law_576 ?_
  refine g_top (nI_add 0 2) ?_
  refine va_sld hx hb hX hbl hbA X.2.2.2.2 (i := nI (0 + 2)) (vp_in_nI (by omega) (by omega)) dL_law_577 ?_
  refine g_top (y := x2) ((congrArg xs (nI_clamp (by omega))).trans ex2.symm) ?_
  refine lv_aload_n hx hb dL_law_578 rfl (lv_at hl 3 rfl) ?_
  refine g_lawH (n := 4) (As := [.ref o, .int x1, .int x2, .ref q]) C X (fun sz => xL_told1 l D t cI cL o ad q sz f ra_u0 (fun sz => xX0_told1 l D t cI o ad sz ra_u0 hl0 x1 x2 (rb_no rfl))) (rwW_S q247 q248 q36 q249) kd_L_told ⟨Nat.le_of_ble_eq_true rfl, Nat.le_of_ble_eq_true rfl⟩ hl.1 rfl rfl (Nat.le_of_ble_eq_true rfl) dL_law_579 ⟨Nat.le_of_ble_eq_true rfl, Nat.le_of_ble_eq_true rfl⟩ (fun r9 f9 u9 H locs hp X => ?_)
  obtain ⟨rfl, rfl⟩ := hp
  refine lv_istore (lv' := [(5, .int 1), (0, .ref b), (1, .ref o), (2, .ref o2), (3, .ref q), (4, .int (nI 0))]) hx hb dL_law_582 hl (by decide) rfl (fun ls hl => ?_)
  refine lv_aload_n hx hb dL_law_584 rfl (lv_at hl 3 rfl) ?_
  refine lv_aload_n hx hb dL_law_585 rfl (lv_at hl 1 rfl) ?_
  refine lv_iload hx hb dL_law_586 (lv_at hl 5 rfl) ?_
  refine lv_iconst (v := 1) hx hb dL_law_588 (by decide) ?_
  refine lv_iadd hx hb dL_law_589 ?_
  refine g_top (nI_add 0 1) ?_
  refine va_sld hx hb hX hbl hbA X.2.2.2.2 (i := nI (0 + 1)) (vp_in_nI (by omega) (by omega)) dL_law_590 ?_
  refine g_top (y := x1) ((congrArg xs (nI_clamp (by omega))).trans ex1.symm) ?_
  refine lv_aload_n hx hb dL_law_591 rfl (lv_at hl 1 rfl) ?_
  refine lv_iload hx hb dL_law_592 (lv_at hl 5 rfl) ?_
  refine lv_iconst (v := 2) hx hb dL_law_594 (by decide) ?_
  refine lv_iadd hx hb dL_law_595 ?_
  refine g_top (nI_add 0 2) ?_
  refine va_sld hx hb hX hbl hbA X.2.2.2.2 (i := nI (0 + 2)) (vp_in_nI (by omega) (by omega)) dL_law_596 ?_
  refine g_top (y := x2) ((congrArg xs (nI_clamp (by omega))).trans ex2.symm) ?_
  refine g_lawRie (n := 2) (As := [.int x1, .int x2]) C X (zX1_told l D t cI o2 H.size (rb_r0, 0, 0, 0, g) rfl x1 x2) (rw_V q254 q255 q256 q5 q257) kd_X1_told rfl ⟨Nat.le_of_ble_eq_true rfl, Nat.le_of_ble_eq_true rfl⟩ hl.1 rfl rfl (Nat.le_of_ble_eq_true rfl) dL_law_597 ⟨Nat.le_of_ble_eq_true rfl, Nat.le_of_ble_eq_true rfl⟩ (fun H locs X => ?_)
  refine lv_topi (fun b1 eb1 => ?_)
  refine lv_istore (lv' := [(6, .int b1), (5, .int 1), (0, .ref b), (1, .ref o), (2, .ref o2), (3, .ref q), (4, .int (nI 0))]) hx hb dL_law_600 hl (by decide) rfl (fun ls hl => ?_)
  refine lv_aload_n hx hb dL_law_602 rfl (lv_at hl 4 rfl) ?_
  refine g_lawRie (n := 0) (As := []) C X (mX1_thrown l D t cI o2 H.size _) (rw_V q72 q73 q74 q5 q75) kd_X1_thrown rfl ⟨Nat.le_of_ble_eq_true rfl, Nat.le_of_ble_eq_true rfl⟩ hl.1 rfl rfl (Nat.le_of_ble_eq_true rfl) dL_law_603 ⟨Nat.le_of_ble_eq_true rfl, Nat.le_of_ble_eq_true rfl⟩ (fun H locs X => ?_)
  refine lv_topi (fun t9 et9 => ?_)
  refine lv_iload hx hb dL_law_606 (lv_at hl 1 rfl) ?_
  refine lv_icmp_eq (tgt := 613) hx hb dL_law_608 (by decide) (fun c3 => ?_) (fun c3 => absurd (et9.trans rfl) c3)
  refine lv_iload hx hb dL_law_613 (lv_at hl 1 rfl) ?_
  refine lv_if_ne (tgt := 630) hx hb dL_law_615 (by decide) (fun c4 => ?_) (fun c4 => absurd c4 (by decide))
  refine lv_goto (tgt := 1142) hx hb dL_law_630 (by decide) ?_
  refine W.widen (k := 40) (n := 400) (Nat.le_of_ble_eq_true rfl) (Nat.le_of_ble_eq_true rfl) ?_
  exact kk _ _ _ X.2.2.2.2 (lv_sub hl [2, 3, 4, 5, 6] rfl)
set_option maxHeartbeats 4000000 in
set_option maxRecDepth 100000 in
theorem law_c8 {p : Program} {l : Launch} {e : Env} {s : State} {m : MethodId} {below : List Frame} {meth : Method} {c : Code} {Q : State → Prop} {D : va_G} {t : Nat → Nat} {A : Nat → Prop} {cI cL : ClassId} {o o2 q b L : Nat} {ad g : Nat → Nat} {xs : Nat → Int32} {f : Nat → Int64} {H : Heap} {locs : List Loc} {ls : Array Slot} (C : gC p s m #[.ref b] meth c code 9 RL D (lT cI cL) t A) (hl0 : l.stackTraces = false) (hX : va_X b L xs s s.heap) (hbl : b < s.heap.size) (hbA : ¬ A b) (hL : L = 4) (X : lS D A s cI cL o ad ra_u0 o2 (rb_r0, 0, 0, 0, g) q f H locs) (hl : lv_has ls 9 [(0, .ref b), (1, .ref o), (2, .ref o2), (3, .ref q), (4, .int (nI 0))]) (kk : ∀ (H : Heap) (locs : List Loc) (ls : Array Slot), va_S A s.heap H locs → lv_has ls 9 [(0, .ref b), (1, .ref o), (2, .ref o2), (3, .ref q), (4, .int (nI 0))] → W p l e room_1 s m #[.ref b] below meth c H locs 40 400 Q (F0 m 1142 ls [])) : W p l e room_1 s m #[.ref b] below meth c H locs 19 185 Q (F0 m 633 ls []) := by
  have hx := C.1
  have hb := C.2.1
  have hown := C.2.2.2.1
  have hts := C.2.2.2.2.1
  obtain ⟨x1, ex1⟩ : ∃ z, z = xs (0 + 1) := ⟨_, rfl⟩
  obtain ⟨x2, ex2⟩ : ∃ z, z = xs (0 + 2) := ⟨_, rfl⟩
  refine lv_aload_n hx hb dL_law_633 rfl (lv_at hl 1 rfl) ?_
  refine lv_aload_n hx hb dL_law_634 rfl (lv_at hl 0 rfl) ?_
  refine lv_iload hx hb dL_law_635 (lv_at hl 4 rfl) ?_
  refine lv_iconst (v := 1) hx hb dL_law_637 (by decide) ?_
  refine lv_iadd hx hb dL_law_638 ?_
  refine g_top (nI_add 0 1) ?_
  refine va_sld hx hb hX hbl hbA X.2.2.2.2 (i := nI (0 + 1)) (vp_in_nI (by omega) (by omega)) dL_law_639 ?_
  refine g_top (y := x1) ((congrArg xs (nI_clamp (by omega))).trans ex1.symm) ?_
  refine lv_aload_n hx hb dL_law_640 rfl (lv_at hl 0 rfl) ?_
  refine lv_iload hx hb dL_law_641 (lv_at hl 4 rfl) ?_
  refine lv_iconst (v := 2) hx hb dL_law_643 (by decide) ?_
  refine lv_iadd hx hb dL_law_644 ?_
  refine g_top (nI_add 0 2) ?_
  refine va_sld hx hb hX hbl hbA X.2.2.2.2 (i := nI (0 + 2)) (vp_in_nI (by omega) (by omega)) dL_law_645 ?_
  refine g_top (y := x2) ((congrArg xs (nI_clamp (by omega))).trans ex2.symm) ?_
  refine lv_aload_n hx hb dL_law_646 rfl (lv_at hl 3 rfl) ?_
  refine g_lawH (n := 4) (As := [.ref o, .int x1, .int x2, .ref q]) C X (fun sz => xL_wage1 l D t cI cL o ad q sz f ra_u0 (fun sz => xX0_wage1 l D t cI o ad sz ra_u0 hl0 x1 x2 (rb_no rfl))) (rwW_S q262 q263 q36 q264) kd_L_wage ⟨Nat.le_of_ble_eq_true rfl, Nat.le_of_ble_eq_true rfl⟩ hl.1 rfl rfl (Nat.le_of_ble_eq_true rfl) dL_law_647 ⟨Nat.le_of_ble_eq_true rfl, Nat.le_of_ble_eq_true rfl⟩ (fun r9 f9 u9 H locs hp X => ?_)
  obtain ⟨rfl, rfl⟩ := hp
  refine lv_istore (lv' := [(5, .int 1), (0, .ref b), (1, .ref o), (2, .ref o2), (3, .ref q), (4, .int (nI 0))]) hx hb dL_law_650 hl (by decide) rfl (fun ls hl => ?_)
  refine lv_aload_n hx hb dL_law_652 rfl (lv_at hl 3 rfl) ?_
  refine lv_aload_n hx hb dL_law_653 rfl (lv_at hl 1 rfl) ?_
  refine lv_iload hx hb dL_law_654 (lv_at hl 5 rfl) ?_
  refine lv_iconst (v := 1) hx hb dL_law_656 (by decide) ?_
  refine lv_iadd hx hb dL_law_657 ?_
  refine g_top (nI_add 0 1) ?_
  refine va_sld hx hb hX hbl hbA X.2.2.2.2 (i := nI (0 + 1)) (vp_in_nI (by omega) (by omega)) dL_law_658 ?_
  refine g_top (y := x1) ((congrArg xs (nI_clamp (by omega))).trans ex1.symm) ?_
  refine lv_aload_n hx hb dL_law_659 rfl (lv_at hl 1 rfl) ?_
  refine lv_iload hx hb dL_law_660 (lv_at hl 5 rfl) ?_
  refine lv_iconst (v := 2) hx hb dL_law_662 (by decide) ?_
  refine lv_iadd hx hb dL_law_663 ?_
  refine g_top (nI_add 0 2) ?_
  refine va_sld hx hb hX hbl hbA X.2.2.2.2 (i := nI (0 + 2)) (vp_in_nI (by omega) (by omega)) dL_law_664 ?_
  refine g_top (y := x2) ((congrArg xs (nI_clamp (by omega))).trans ex2.symm) ?_
  refine g_lawRie (n := 2) (As := [.int x1, .int x2]) C X (zX1_wage l D t cI o2 H.size (rb_r0, 0, 0, 0, g) rfl x1 x2) (rw_V q273 q274 q275 q5 q276) kd_X1_wage rfl ⟨Nat.le_of_ble_eq_true rfl, Nat.le_of_ble_eq_true rfl⟩ hl.1 rfl rfl (Nat.le_of_ble_eq_true rfl) dL_law_665 ⟨Nat.le_of_ble_eq_true rfl, Nat.le_of_ble_eq_true rfl⟩ (fun H locs X => ?_)
  refine lv_topi (fun b1 eb1 => ?_)
  refine lv_istore (lv' := [(6, .int b1), (5, .int 1), (0, .ref b), (1, .ref o), (2, .ref o2), (3, .ref q), (4, .int (nI 0))]) hx hb dL_law_668 hl (by decide) rfl (fun ls hl => ?_)
  refine lv_aload_n hx hb dL_law_670 rfl (lv_at hl 4 rfl) ?_
  refine g_lawRie (n := 0) (As := []) C X (mX1_thrown l D t cI o2 H.size _) (rw_V q72 q73 q74 q5 q75) kd_X1_thrown rfl ⟨Nat.le_of_ble_eq_true rfl, Nat.le_of_ble_eq_true rfl⟩ hl.1 rfl rfl (Nat.le_of_ble_eq_true rfl) dL_law_671 ⟨Nat.le_of_ble_eq_true rfl, Nat.le_of_ble_eq_true rfl⟩ (fun H locs X => ?_)
  refine lv_topi (fun t9 et9 => ?_)
  refine lv_iload hx hb dL_law_674 (lv_at hl 1 rfl) ?_
  refine lv_icmp_eq (tgt := 681) hx hb dL_law_676 (by decide) (fun c3 => ?_) (fun c3 => absurd (et9.trans rfl) c3)
  refine lv_iload hx hb dL_law_681 (lv_at hl 1 rfl) ?_
  refine lv_if_ne (tgt := 698) hx hb dL_law_683 (by decide) (fun c4 => ?_) (fun c4 => absurd c4 (by decide))
  refine lv_goto (tgt := 1142) hx hb dL_law_698 (by decide) ?_
  refine W.widen (k := 40) (n := 400) (Nat.le_of_ble_eq_true rfl) (Nat.le_of_ble_eq_true rfl) ?_
  exact kk _ _ _ X.2.2.2.2 (lv_sub hl [2, 3, 4, 5, 6] rfl)
set_option maxHeartbeats 4000000 in
set_option maxRecDepth 100000 in
theorem law_c9 {p : Program} {l : Launch} {e : Env} {s : State} {m : MethodId} {below : List Frame} {meth : Method} {c : Code} {Q : State → Prop} {D : va_G} {t : Nat → Nat} {A : Nat → Prop} {cI cL : ClassId} {o o2 q b L : Nat} {ad g : Nat → Nat} {xs : Nat → Int32} {f : Nat → Int64} {H : Heap} {locs : List Loc} {ls : Array Slot} (C : gC p s m #[.ref b] meth c code 9 RL D (lT cI cL) t A) (hl0 : l.stackTraces = false) (hX : va_X b L xs s s.heap) (hbl : b < s.heap.size) (hbA : ¬ A b) (hL : L = 4) (X : lS D A s cI cL o ad ra_u0 o2 (rb_r0, 0, 0, 0, g) q f H locs) (hl : lv_has ls 9 [(0, .ref b), (1, .ref o), (2, .ref o2), (3, .ref q), (4, .int (nI 0))]) (kk : ∀ (H : Heap) (locs : List Loc) (ls : Array Slot), va_S A s.heap H locs → lv_has ls 9 [(0, .ref b), (1, .ref o), (2, .ref o2), (3, .ref q), (4, .int (nI 0))] → W p l e room_1 s m #[.ref b] below meth c H locs 40 400 Q (F0 m 1142 ls [])) : W p l e room_1 s m #[.ref b] below meth c H locs 19 185 Q (F0 m 701 ls []) := by
  have hx := C.1
  have hb := C.2.1
  have hown := C.2.2.2.1
  have hts := C.2.2.2.2.1
  obtain ⟨x1, ex1⟩ : ∃ z, z = xs (0 + 1) := ⟨_, rfl⟩
  rcases ld_cut 3 (by decide) x1 with ⟨k, hk, rfl⟩ | a1
  · refine lv_aload_n hx hb dL_law_701 rfl (lv_at hl 1 rfl) ?_
    refine lv_aload_n hx hb dL_law_702 rfl (lv_at hl 0 rfl) ?_
    refine lv_iload hx hb dL_law_703 (lv_at hl 4 rfl) ?_
    refine lv_iconst (v := 1) hx hb dL_law_705 (by decide) ?_
    refine lv_iadd hx hb dL_law_706 ?_
    refine g_top (nI_add 0 1) ?_
    refine va_sld hx hb hX hbl hbA X.2.2.2.2 (i := nI (0 + 1)) (vp_in_nI (by omega) (by omega)) dL_law_707 ?_
    refine g_top (y := nI k) ((congrArg xs (nI_clamp (by omega))).trans ex1.symm) ?_
    refine lv_aload_n hx hb dL_law_708 rfl (lv_at hl 3 rfl) ?_
    refine g_lawH (n := 3) (As := [.ref o, .int (nI k), .ref q]) C X (fun sz => mL_chest l D t cI cL o ad q sz f ra_u0 (fun sz => mX0_chest l D t cI o ad sz ra_u0 k hk)) (rwW_S q281 q282 q36 q283) kd_L_chest ⟨Nat.le_of_ble_eq_true rfl, Nat.le_of_ble_eq_true rfl⟩ hl.1 rfl rfl (Nat.le_of_ble_eq_true rfl) dL_law_709 ⟨Nat.le_of_ble_eq_true rfl, Nat.le_of_ble_eq_true rfl⟩ (fun r9 f9 u9 H locs hp X => ?_)
    obtain ⟨rfl, rfl, hf⟩ := hp
    refine lv_istore (lv' := [(5, .int 0), (0, .ref b), (1, .ref o), (2, .ref o2), (3, .ref q), (4, .int (nI 0))]) hx hb dL_law_712 hl (by decide) rfl (fun ls hl => ?_)
    refine lv_aload_n hx hb dL_law_714 rfl (lv_at hl 3 rfl) ?_
    refine lv_aload_n hx hb dL_law_715 rfl (lv_at hl 1 rfl) ?_
    refine lv_iload hx hb dL_law_716 (lv_at hl 5 rfl) ?_
    refine lv_iconst (v := 1) hx hb dL_law_718 (by decide) ?_
    refine lv_iadd hx hb dL_law_719 ?_
    refine g_top (nI_add 0 1) ?_
    refine va_sld hx hb hX hbl hbA X.2.2.2.2 (i := nI (0 + 1)) (vp_in_nI (by omega) (by omega)) dL_law_720 ?_
    refine g_top (y := nI k) ((congrArg xs (nI_clamp (by omega))).trans ex1.symm) ?_
    refine g_lawRie (n := 1) (As := [.int (nI k)]) C X (oX1_chest l D t cI o2 H.size (rb_r0, 0, 0, 0, g) k hk) (rw_V q288 q289 q290 q5 q291) kd_X1_chest rfl ⟨Nat.le_of_ble_eq_true rfl, Nat.le_of_ble_eq_true rfl⟩ hl.1 rfl rfl (Nat.le_of_ble_eq_true rfl) dL_law_721 ⟨Nat.le_of_ble_eq_true rfl, Nat.le_of_ble_eq_true rfl⟩ (fun H locs X => ?_)
    refine lv_topi (fun b1 eb1 => ?_)
    refine lv_istore (lv' := [(6, .int b1), (5, .int 0), (0, .ref b), (1, .ref o), (2, .ref o2), (3, .ref q), (4, .int (nI 0))]) hx hb dL_law_724 hl (by decide) rfl (fun ls hl => ?_)
    refine lv_aload_n hx hb dL_law_726 rfl (lv_at hl 4 rfl) ?_
    refine g_lawRie (n := 0) (As := []) C X (mX1_thrown l D t cI o2 H.size _) (rw_V q72 q73 q74 q5 q75) kd_X1_thrown rfl ⟨Nat.le_of_ble_eq_true rfl, Nat.le_of_ble_eq_true rfl⟩ hl.1 rfl rfl (Nat.le_of_ble_eq_true rfl) dL_law_727 ⟨Nat.le_of_ble_eq_true rfl, Nat.le_of_ble_eq_true rfl⟩ (fun H locs X => ?_)
    refine lv_topi (fun t9 et9 => ?_)
    refine lv_iload hx hb dL_law_730 (lv_at hl 1 rfl) ?_
    refine lv_icmp_eq (tgt := 737) hx hb dL_law_732 (by decide) (fun c3 => ?_) (fun c3 => absurd (et9.trans rfl) c3)
    refine lv_iload hx hb dL_law_737 (lv_at hl 1 rfl) ?_
    refine lv_if_ne (tgt := 754) hx hb dL_law_739 (by decide) (fun c4 => absurd c4 (by decide)) (fun c4 => ?_)
    refine lv_aload_n hx hb dL_law_742 rfl (lv_at hl 5 rfl) ?_
    refine lv_iconst (v := 0) hx hb dL_law_743 (by decide) ?_
    refine g_ll C X dL_law_744 ?_
    refine lv_iload hx hb dL_law_745 (lv_at hl 0 rfl) ?_
    refine lv_i2l hx hb dL_law_747 rfl ?_
    refine W.lcmp hx hb dL_law_748 ?_
    refine lv_if_eq (tgt := 754) hx hb dL_law_749 (by decide) (fun c5 => ?_) (fun c5 => absurd (ld_eq hf eb1 rfl) c5)
    refine lv_goto (tgt := 1142) hx hb dL_law_754 (by decide) ?_
    refine W.widen (k := 40) (n := 400) (Nat.le_of_ble_eq_true rfl) (Nat.le_of_ble_eq_true rfl) ?_
    exact kk _ _ _ X.2.2.2.2 (lv_sub hl [2, 3, 4, 5, 6] rfl)
  · refine lv_aload_n hx hb dL_law_701 rfl (lv_at hl 1 rfl) ?_
    refine lv_aload_n hx hb dL_law_702 rfl (lv_at hl 0 rfl) ?_
    refine lv_iload hx hb dL_law_703 (lv_at hl 4 rfl) ?_
    refine lv_iconst (v := 1) hx hb dL_law_705 (by decide) ?_
    refine lv_iadd hx hb dL_law_706 ?_
    refine g_top (nI_add 0 1) ?_
    refine va_sld hx hb hX hbl hbA X.2.2.2.2 (i := nI (0 + 1)) (vp_in_nI (by omega) (by omega)) dL_law_707 ?_
    refine g_top (y := x1) ((congrArg xs (nI_clamp (by omega))).trans ex1.symm) ?_
    refine lv_aload_n hx hb dL_law_708 rfl (lv_at hl 3 rfl) ?_
    refine g_lawH (n := 3) (As := [.ref o, .int x1, .ref q]) C X (fun sz => xL_chest1 l D t cI cL o ad q sz f ra_u0 (fun sz => xX0_chest1 l D t cI o ad sz ra_u0 hl0 x1 a1)) (rwW_S q281 q282 q36 q283) kd_L_chest ⟨Nat.le_of_ble_eq_true rfl, Nat.le_of_ble_eq_true rfl⟩ hl.1 rfl rfl (Nat.le_of_ble_eq_true rfl) dL_law_709 ⟨Nat.le_of_ble_eq_true rfl, Nat.le_of_ble_eq_true rfl⟩ (fun r9 f9 u9 H locs hp X => ?_)
    obtain ⟨rfl, rfl⟩ := hp
    refine lv_istore (lv' := [(5, .int 1), (0, .ref b), (1, .ref o), (2, .ref o2), (3, .ref q), (4, .int (nI 0))]) hx hb dL_law_712 hl (by decide) rfl (fun ls hl => ?_)
    refine lv_aload_n hx hb dL_law_714 rfl (lv_at hl 3 rfl) ?_
    refine lv_aload_n hx hb dL_law_715 rfl (lv_at hl 1 rfl) ?_
    refine lv_iload hx hb dL_law_716 (lv_at hl 5 rfl) ?_
    refine lv_iconst (v := 1) hx hb dL_law_718 (by decide) ?_
    refine lv_iadd hx hb dL_law_719 ?_
    refine g_top (nI_add 0 1) ?_
    refine va_sld hx hb hX hbl hbA X.2.2.2.2 (i := nI (0 + 1)) (vp_in_nI (by omega) (by omega)) dL_law_720 ?_
    refine g_top (y := x1) ((congrArg xs (nI_clamp (by omega))).trans ex1.symm) ?_
    refine g_lawRie (n := 1) (As := [.int x1]) C X (bX1_chest1 l D t cI o2 H.size (rb_r0, 0, 0, 0, g) x1 a1) (rw_V q288 q289 q290 q5 q291) kd_X1_chest rfl ⟨Nat.le_of_ble_eq_true rfl, Nat.le_of_ble_eq_true rfl⟩ hl.1 rfl rfl (Nat.le_of_ble_eq_true rfl) dL_law_721 ⟨Nat.le_of_ble_eq_true rfl, Nat.le_of_ble_eq_true rfl⟩ (fun H locs X => ?_)
    refine lv_topi (fun b1 eb1 => ?_)
    refine lv_istore (lv' := [(6, .int b1), (5, .int 1), (0, .ref b), (1, .ref o), (2, .ref o2), (3, .ref q), (4, .int (nI 0))]) hx hb dL_law_724 hl (by decide) rfl (fun ls hl => ?_)
    refine lv_aload_n hx hb dL_law_726 rfl (lv_at hl 4 rfl) ?_
    refine g_lawRie (n := 0) (As := []) C X (mX1_thrown l D t cI o2 H.size _) (rw_V q72 q73 q74 q5 q75) kd_X1_thrown rfl ⟨Nat.le_of_ble_eq_true rfl, Nat.le_of_ble_eq_true rfl⟩ hl.1 rfl rfl (Nat.le_of_ble_eq_true rfl) dL_law_727 ⟨Nat.le_of_ble_eq_true rfl, Nat.le_of_ble_eq_true rfl⟩ (fun H locs X => ?_)
    refine lv_topi (fun t9 et9 => ?_)
    refine lv_iload hx hb dL_law_730 (lv_at hl 1 rfl) ?_
    refine lv_icmp_eq (tgt := 737) hx hb dL_law_732 (by decide) (fun c3 => ?_) (fun c3 => absurd (et9.trans rfl) c3)
    refine lv_iload hx hb dL_law_737 (lv_at hl 1 rfl) ?_
    refine lv_if_ne (tgt := 754) hx hb dL_law_739 (by decide) (fun c4 => ?_) (fun c4 => absurd c4 (by decide))
    refine lv_goto (tgt := 1142) hx hb dL_law_754 (by decide) ?_
    refine W.widen (k := 40) (n := 400) (Nat.le_of_ble_eq_true rfl) (Nat.le_of_ble_eq_true rfl) ?_
    exact kk _ _ _ X.2.2.2.2 (lv_sub hl [2, 3, 4, 5, 6] rfl)
set_option maxHeartbeats 4000000 in
set_option maxRecDepth 100000 in
theorem law_c10 {p : Program} {l : Launch} {e : Env} {s : State} {m : MethodId} {below : List Frame} {meth : Method} {c : Code} {Q : State → Prop} {D : va_G} {t : Nat → Nat} {A : Nat → Prop} {cI cL : ClassId} {o o2 q b L : Nat} {ad g : Nat → Nat} {xs : Nat → Int32} {f : Nat → Int64} {H : Heap} {locs : List Loc} {ls : Array Slot} (C : gC p s m #[.ref b] meth c code 9 RL D (lT cI cL) t A) (hl0 : l.stackTraces = false) (hX : va_X b L xs s s.heap) (hbl : b < s.heap.size) (hbA : ¬ A b) (hL : L = 4) (X : lS D A s cI cL o ad ra_u0 o2 (rb_r0, 0, 0, 0, g) q f H locs) (hl : lv_has ls 9 [(0, .ref b), (1, .ref o), (2, .ref o2), (3, .ref q), (4, .int (nI 0))]) (kk : ∀ (H : Heap) (locs : List Loc) (ls : Array Slot), va_S A s.heap H locs → lv_has ls 9 [(0, .ref b), (1, .ref o), (2, .ref o2), (3, .ref q), (4, .int (nI 0))] → W p l e room_1 s m #[.ref b] below meth c H locs 40 400 Q (F0 m 1142 ls [])) : W p l e room_1 s m #[.ref b] below meth c H locs 19 185 Q (F0 m 757 ls []) := by
  have hx := C.1
  have hb := C.2.1
  have hown := C.2.2.2.1
  have hts := C.2.2.2.2.1
  obtain ⟨x1, ex1⟩ : ∃ z, z = xs (0 + 1) := ⟨_, rfl⟩
  obtain ⟨x2, ex2⟩ : ∃ z, z = xs (0 + 2) := ⟨_, rfl⟩
  refine lv_aload_n hx hb dL_law_757 rfl (lv_at hl 1 rfl) ?_
  refine lv_aload_n hx hb dL_law_758 rfl (lv_at hl 0 rfl) ?_
  refine lv_iload hx hb dL_law_759 (lv_at hl 4 rfl) ?_
  refine lv_iconst (v := 1) hx hb dL_law_761 (by decide) ?_
  refine lv_iadd hx hb dL_law_762 ?_
  refine g_top (nI_add 0 1) ?_
  refine va_sld hx hb hX hbl hbA X.2.2.2.2 (i := nI (0 + 1)) (vp_in_nI (by omega) (by omega)) dL_law_763 ?_
  refine g_top (y := x1) ((congrArg xs (nI_clamp (by omega))).trans ex1.symm) ?_
  refine lv_aload_n hx hb dL_law_764 rfl (lv_at hl 0 rfl) ?_
  refine lv_iload hx hb dL_law_765 (lv_at hl 4 rfl) ?_
  refine lv_iconst (v := 2) hx hb dL_law_767 (by decide) ?_
  refine lv_iadd hx hb dL_law_768 ?_
  refine g_top (nI_add 0 2) ?_
  refine va_sld hx hb hX hbl hbA X.2.2.2.2 (i := nI (0 + 2)) (vp_in_nI (by omega) (by omega)) dL_law_769 ?_
  refine g_top (y := x2) ((congrArg xs (nI_clamp (by omega))).trans ex2.symm) ?_
  refine lv_aload_n hx hb dL_law_770 rfl (lv_at hl 3 rfl) ?_
  refine g_lawH (n := 4) (As := [.ref o, .int x1, .int x2, .ref q]) C X (fun sz => xL_coins1 l D t cI cL o ad q sz f ra_u0 (fun sz => xX0_coins1 l D t cI o ad sz ra_u0 hl0 x1 x2 (rb_no rfl))) (rwW_S q292 q293 q36 q294) kd_L_coins ⟨Nat.le_of_ble_eq_true rfl, Nat.le_of_ble_eq_true rfl⟩ hl.1 rfl rfl (Nat.le_of_ble_eq_true rfl) dL_law_771 ⟨Nat.le_of_ble_eq_true rfl, Nat.le_of_ble_eq_true rfl⟩ (fun r9 f9 u9 H locs hp X => ?_)
  obtain ⟨rfl, rfl⟩ := hp
  refine lv_istore (lv' := [(5, .int 1), (0, .ref b), (1, .ref o), (2, .ref o2), (3, .ref q), (4, .int (nI 0))]) hx hb dL_law_774 hl (by decide) rfl (fun ls hl => ?_)
  refine lv_aload_n hx hb dL_law_776 rfl (lv_at hl 3 rfl) ?_
  refine lv_aload_n hx hb dL_law_777 rfl (lv_at hl 1 rfl) ?_
  refine lv_iload hx hb dL_law_778 (lv_at hl 5 rfl) ?_
  refine lv_iconst (v := 1) hx hb dL_law_780 (by decide) ?_
  refine lv_iadd hx hb dL_law_781 ?_
  refine g_top (nI_add 0 1) ?_
  refine va_sld hx hb hX hbl hbA X.2.2.2.2 (i := nI (0 + 1)) (vp_in_nI (by omega) (by omega)) dL_law_782 ?_
  refine g_top (y := x1) ((congrArg xs (nI_clamp (by omega))).trans ex1.symm) ?_
  refine lv_aload_n hx hb dL_law_783 rfl (lv_at hl 1 rfl) ?_
  refine lv_iload hx hb dL_law_784 (lv_at hl 5 rfl) ?_
  refine lv_iconst (v := 2) hx hb dL_law_786 (by decide) ?_
  refine lv_iadd hx hb dL_law_787 ?_
  refine g_top (nI_add 0 2) ?_
  refine va_sld hx hb hX hbl hbA X.2.2.2.2 (i := nI (0 + 2)) (vp_in_nI (by omega) (by omega)) dL_law_788 ?_
  refine g_top (y := x2) ((congrArg xs (nI_clamp (by omega))).trans ex2.symm) ?_
  refine g_lawRie (n := 2) (As := [.int x1, .int x2]) C X (zX1_coins l D t cI o2 H.size (rb_r0, 0, 0, 0, g) rfl x1 x2) (rw_V q302 q303 q304 q5 q305) kd_X1_coins rfl ⟨Nat.le_of_ble_eq_true rfl, Nat.le_of_ble_eq_true rfl⟩ hl.1 rfl rfl (Nat.le_of_ble_eq_true rfl) dL_law_789 ⟨Nat.le_of_ble_eq_true rfl, Nat.le_of_ble_eq_true rfl⟩ (fun H locs X => ?_)
  refine lv_topi (fun b1 eb1 => ?_)
  refine lv_istore (lv' := [(6, .int b1), (5, .int 1), (0, .ref b), (1, .ref o), (2, .ref o2), (3, .ref q), (4, .int (nI 0))]) hx hb dL_law_792 hl (by decide) rfl (fun ls hl => ?_)
  refine lv_aload_n hx hb dL_law_794 rfl (lv_at hl 4 rfl) ?_
  refine g_lawRie (n := 0) (As := []) C X (mX1_thrown l D t cI o2 H.size _) (rw_V q72 q73 q74 q5 q75) kd_X1_thrown rfl ⟨Nat.le_of_ble_eq_true rfl, Nat.le_of_ble_eq_true rfl⟩ hl.1 rfl rfl (Nat.le_of_ble_eq_true rfl) dL_law_795 ⟨Nat.le_of_ble_eq_true rfl, Nat.le_of_ble_eq_true rfl⟩ (fun H locs X => ?_)
  refine lv_topi (fun t9 et9 => ?_)
  refine lv_iload hx hb dL_law_798 (lv_at hl 1 rfl) ?_
  refine lv_icmp_eq (tgt := 805) hx hb dL_law_800 (by decide) (fun c3 => ?_) (fun c3 => absurd (et9.trans rfl) c3)
  refine lv_iload hx hb dL_law_805 (lv_at hl 1 rfl) ?_
  refine lv_if_ne (tgt := 822) hx hb dL_law_807 (by decide) (fun c4 => ?_) (fun c4 => absurd c4 (by decide))
  refine lv_goto (tgt := 1142) hx hb dL_law_822 (by decide) ?_
  refine W.widen (k := 40) (n := 400) (Nat.le_of_ble_eq_true rfl) (Nat.le_of_ble_eq_true rfl) ?_
  exact kk _ _ _ X.2.2.2.2 (lv_sub hl [2, 3, 4, 5, 6] rfl)
set_option maxHeartbeats 4000000 in
set_option maxRecDepth 100000 in
theorem law_c11 {p : Program} {l : Launch} {e : Env} {s : State} {m : MethodId} {below : List Frame} {meth : Method} {c : Code} {Q : State → Prop} {D : va_G} {t : Nat → Nat} {A : Nat → Prop} {cI cL : ClassId} {o o2 q b L : Nat} {ad g : Nat → Nat} {xs : Nat → Int32} {f : Nat → Int64} {H : Heap} {locs : List Loc} {ls : Array Slot} (C : gC p s m #[.ref b] meth c code 9 RL D (lT cI cL) t A) (hl0 : l.stackTraces = false) (hX : va_X b L xs s s.heap) (hbl : b < s.heap.size) (hbA : ¬ A b) (hL : L = 4) (X : lS D A s cI cL o ad ra_u0 o2 (rb_r0, 0, 0, 0, g) q f H locs) (hl : lv_has ls 9 [(0, .ref b), (1, .ref o), (2, .ref o2), (3, .ref q), (4, .int (nI 0))]) (kk : ∀ (H : Heap) (locs : List Loc) (ls : Array Slot), va_S A s.heap H locs → lv_has ls 9 [(0, .ref b), (1, .ref o), (2, .ref o2), (3, .ref q), (4, .int (nI 0))] → W p l e room_1 s m #[.ref b] below meth c H locs 40 400 Q (F0 m 1142 ls [])) : W p l e room_1 s m #[.ref b] below meth c H locs 19 185 Q (F0 m 825 ls []) := by
  have hx := C.1
  have hb := C.2.1
  have hown := C.2.2.2.1
  have hts := C.2.2.2.2.1
  obtain ⟨x1, ex1⟩ : ∃ z, z = xs (0 + 1) := ⟨_, rfl⟩
  rcases ld_cut 7 (by decide) x1 with ⟨k, hk, rfl⟩ | a1
  · refine lv_aload_n hx hb dL_law_825 rfl (lv_at hl 1 rfl) ?_
    refine lv_aload_n hx hb dL_law_826 rfl (lv_at hl 0 rfl) ?_
    refine lv_iload hx hb dL_law_827 (lv_at hl 4 rfl) ?_
    refine lv_iconst (v := 1) hx hb dL_law_829 (by decide) ?_
    refine lv_iadd hx hb dL_law_830 ?_
    refine g_top (nI_add 0 1) ?_
    refine va_sld hx hb hX hbl hbA X.2.2.2.2 (i := nI (0 + 1)) (vp_in_nI (by omega) (by omega)) dL_law_831 ?_
    refine g_top (y := nI k) ((congrArg xs (nI_clamp (by omega))).trans ex1.symm) ?_
    refine lv_aload_n hx hb dL_law_832 rfl (lv_at hl 3 rfl) ?_
    refine g_lawH (n := 3) (As := [.ref o, .int (nI k), .ref q]) C X (fun sz => mL_count l D t cI cL o ad q sz f ra_u0 (fun sz => mX0_count l D t cI o ad sz ra_u0 (Nat.zero_le 8) k hk)) (rwW_S q313 q314 q36 q315) kd_L_count ⟨Nat.le_of_ble_eq_true rfl, Nat.le_of_ble_eq_true rfl⟩ hl.1 rfl rfl (Nat.le_of_ble_eq_true rfl) dL_law_833 ⟨Nat.le_of_ble_eq_true rfl, Nat.le_of_ble_eq_true rfl⟩ (fun r9 f9 u9 H locs hp X => ?_)
    obtain ⟨rfl, rfl, hf⟩ := hp
    refine lv_istore (lv' := [(5, .int 0), (0, .ref b), (1, .ref o), (2, .ref o2), (3, .ref q), (4, .int (nI 0))]) hx hb dL_law_836 hl (by decide) rfl (fun ls hl => ?_)
    refine lv_aload_n hx hb dL_law_838 rfl (lv_at hl 3 rfl) ?_
    refine lv_aload_n hx hb dL_law_839 rfl (lv_at hl 1 rfl) ?_
    refine lv_iload hx hb dL_law_840 (lv_at hl 5 rfl) ?_
    refine lv_iconst (v := 1) hx hb dL_law_842 (by decide) ?_
    refine lv_iadd hx hb dL_law_843 ?_
    refine g_top (nI_add 0 1) ?_
    refine va_sld hx hb hX hbl hbA X.2.2.2.2 (i := nI (0 + 1)) (vp_in_nI (by omega) (by omega)) dL_law_844 ?_
    refine g_top (y := nI k) ((congrArg xs (nI_clamp (by omega))).trans ex1.symm) ?_
    refine g_lawRie (n := 1) (As := [.int (nI k)]) C X (zX1_count l D t cI o2 H.size (rb_r0, 0, 0, 0, g) rfl k hk) (rw_V q332 q333 q334 q5 q335) kd_X1_count rfl ⟨Nat.le_of_ble_eq_true rfl, Nat.le_of_ble_eq_true rfl⟩ hl.1 rfl rfl (Nat.le_of_ble_eq_true rfl) dL_law_845 ⟨Nat.le_of_ble_eq_true rfl, Nat.le_of_ble_eq_true rfl⟩ (fun H locs X => ?_)
    refine lv_topi (fun b1 eb1 => ?_)
    refine lv_istore (lv' := [(6, .int b1), (5, .int 0), (0, .ref b), (1, .ref o), (2, .ref o2), (3, .ref q), (4, .int (nI 0))]) hx hb dL_law_848 hl (by decide) rfl (fun ls hl => ?_)
    refine lv_aload_n hx hb dL_law_850 rfl (lv_at hl 4 rfl) ?_
    refine g_lawRie (n := 0) (As := []) C X (mX1_thrown l D t cI o2 H.size _) (rw_V q72 q73 q74 q5 q75) kd_X1_thrown rfl ⟨Nat.le_of_ble_eq_true rfl, Nat.le_of_ble_eq_true rfl⟩ hl.1 rfl rfl (Nat.le_of_ble_eq_true rfl) dL_law_851 ⟨Nat.le_of_ble_eq_true rfl, Nat.le_of_ble_eq_true rfl⟩ (fun H locs X => ?_)
    refine lv_topi (fun t9 et9 => ?_)
    refine lv_iload hx hb dL_law_854 (lv_at hl 1 rfl) ?_
    refine lv_icmp_eq (tgt := 861) hx hb dL_law_856 (by decide) (fun c3 => ?_) (fun c3 => absurd (et9.trans rfl) c3)
    refine lv_iload hx hb dL_law_861 (lv_at hl 1 rfl) ?_
    refine lv_if_ne (tgt := 878) hx hb dL_law_863 (by decide) (fun c4 => absurd c4 (by decide)) (fun c4 => ?_)
    refine lv_aload_n hx hb dL_law_866 rfl (lv_at hl 5 rfl) ?_
    refine lv_iconst (v := 0) hx hb dL_law_867 (by decide) ?_
    refine g_ll C X dL_law_868 ?_
    refine lv_iload hx hb dL_law_869 (lv_at hl 0 rfl) ?_
    refine lv_i2l hx hb dL_law_871 rfl ?_
    refine W.lcmp hx hb dL_law_872 ?_
    refine lv_if_eq (tgt := 878) hx hb dL_law_873 (by decide) (fun c5 => ?_) (fun c5 => absurd (ld_eq hf eb1 (ld_cnt hk)) c5)
    refine lv_goto (tgt := 1142) hx hb dL_law_878 (by decide) ?_
    refine W.widen (k := 40) (n := 400) (Nat.le_of_ble_eq_true rfl) (Nat.le_of_ble_eq_true rfl) ?_
    exact kk _ _ _ X.2.2.2.2 (lv_sub hl [2, 3, 4, 5, 6] rfl)
  · refine lv_aload_n hx hb dL_law_825 rfl (lv_at hl 1 rfl) ?_
    refine lv_aload_n hx hb dL_law_826 rfl (lv_at hl 0 rfl) ?_
    refine lv_iload hx hb dL_law_827 (lv_at hl 4 rfl) ?_
    refine lv_iconst (v := 1) hx hb dL_law_829 (by decide) ?_
    refine lv_iadd hx hb dL_law_830 ?_
    refine g_top (nI_add 0 1) ?_
    refine va_sld hx hb hX hbl hbA X.2.2.2.2 (i := nI (0 + 1)) (vp_in_nI (by omega) (by omega)) dL_law_831 ?_
    refine g_top (y := x1) ((congrArg xs (nI_clamp (by omega))).trans ex1.symm) ?_
    refine lv_aload_n hx hb dL_law_832 rfl (lv_at hl 3 rfl) ?_
    refine g_lawH (n := 3) (As := [.ref o, .int x1, .ref q]) C X (fun sz => xL_count1 l D t cI cL o ad q sz f ra_u0 (fun sz => xX0_count1 l D t cI o ad sz ra_u0 hl0 x1 a1)) (rwW_S q313 q314 q36 q315) kd_L_count ⟨Nat.le_of_ble_eq_true rfl, Nat.le_of_ble_eq_true rfl⟩ hl.1 rfl rfl (Nat.le_of_ble_eq_true rfl) dL_law_833 ⟨Nat.le_of_ble_eq_true rfl, Nat.le_of_ble_eq_true rfl⟩ (fun r9 f9 u9 H locs hp X => ?_)
    obtain ⟨rfl, rfl⟩ := hp
    refine lv_istore (lv' := [(5, .int 1), (0, .ref b), (1, .ref o), (2, .ref o2), (3, .ref q), (4, .int (nI 0))]) hx hb dL_law_836 hl (by decide) rfl (fun ls hl => ?_)
    refine lv_aload_n hx hb dL_law_838 rfl (lv_at hl 3 rfl) ?_
    refine lv_aload_n hx hb dL_law_839 rfl (lv_at hl 1 rfl) ?_
    refine lv_iload hx hb dL_law_840 (lv_at hl 5 rfl) ?_
    refine lv_iconst (v := 1) hx hb dL_law_842 (by decide) ?_
    refine lv_iadd hx hb dL_law_843 ?_
    refine g_top (nI_add 0 1) ?_
    refine va_sld hx hb hX hbl hbA X.2.2.2.2 (i := nI (0 + 1)) (vp_in_nI (by omega) (by omega)) dL_law_844 ?_
    refine g_top (y := x1) ((congrArg xs (nI_clamp (by omega))).trans ex1.symm) ?_
    refine g_lawRie (n := 1) (As := [.int x1]) C X (bX1_count1 l D t cI o2 H.size (rb_r0, 0, 0, 0, g) x1 a1) (rw_V q332 q333 q334 q5 q335) kd_X1_count rfl ⟨Nat.le_of_ble_eq_true rfl, Nat.le_of_ble_eq_true rfl⟩ hl.1 rfl rfl (Nat.le_of_ble_eq_true rfl) dL_law_845 ⟨Nat.le_of_ble_eq_true rfl, Nat.le_of_ble_eq_true rfl⟩ (fun H locs X => ?_)
    refine lv_topi (fun b1 eb1 => ?_)
    refine lv_istore (lv' := [(6, .int b1), (5, .int 1), (0, .ref b), (1, .ref o), (2, .ref o2), (3, .ref q), (4, .int (nI 0))]) hx hb dL_law_848 hl (by decide) rfl (fun ls hl => ?_)
    refine lv_aload_n hx hb dL_law_850 rfl (lv_at hl 4 rfl) ?_
    refine g_lawRie (n := 0) (As := []) C X (mX1_thrown l D t cI o2 H.size _) (rw_V q72 q73 q74 q5 q75) kd_X1_thrown rfl ⟨Nat.le_of_ble_eq_true rfl, Nat.le_of_ble_eq_true rfl⟩ hl.1 rfl rfl (Nat.le_of_ble_eq_true rfl) dL_law_851 ⟨Nat.le_of_ble_eq_true rfl, Nat.le_of_ble_eq_true rfl⟩ (fun H locs X => ?_)
    refine lv_topi (fun t9 et9 => ?_)
    refine lv_iload hx hb dL_law_854 (lv_at hl 1 rfl) ?_
    refine lv_icmp_eq (tgt := 861) hx hb dL_law_856 (by decide) (fun c3 => ?_) (fun c3 => absurd (et9.trans rfl) c3)
    refine lv_iload hx hb dL_law_861 (lv_at hl 1 rfl) ?_
    refine lv_if_ne (tgt := 878) hx hb dL_law_863 (by decide) (fun c4 => ?_) (fun c4 => absurd c4 (by decide))
    refine lv_goto (tgt := 1142) hx hb dL_law_878 (by decide) ?_
    refine W.widen (k := 40) (n := 400) (Nat.le_of_ble_eq_true rfl) (Nat.le_of_ble_eq_true rfl) ?_
    exact kk _ _ _ X.2.2.2.2 (lv_sub hl [2, 3, 4, 5, 6] rfl)
set_option maxHeartbeats 4000000 in
set_option maxRecDepth 100000 in
theorem law_c12 {p : Program} {l : Launch} {e : Env} {s : State} {m : MethodId} {below : List Frame} {meth : Method} {c : Code} {Q : State → Prop} {D : va_G} {t : Nat → Nat} {A : Nat → Prop} {cI cL : ClassId} {o o2 q b L : Nat} {ad g : Nat → Nat} {xs : Nat → Int32} {f : Nat → Int64} {H : Heap} {locs : List Loc} {ls : Array Slot} (C : gC p s m #[.ref b] meth c code 9 RL D (lT cI cL) t A) (hl0 : l.stackTraces = false) (hX : va_X b L xs s s.heap) (hbl : b < s.heap.size) (hbA : ¬ A b) (hL : L = 4) (X : lS D A s cI cL o ad ra_u0 o2 (rb_r0, 0, 0, 0, g) q f H locs) (hl : lv_has ls 9 [(0, .ref b), (1, .ref o), (2, .ref o2), (3, .ref q), (4, .int (nI 0))]) (kk : ∀ (H : Heap) (locs : List Loc) (ls : Array Slot), va_S A s.heap H locs → lv_has ls 9 [(0, .ref b), (1, .ref o), (2, .ref o2), (3, .ref q), (4, .int (nI 0))] → W p l e room_1 s m #[.ref b] below meth c H locs 40 400 Q (F0 m 1142 ls [])) : W p l e room_1 s m #[.ref b] below meth c H locs 19 185 Q (F0 m 881 ls []) := by
  have hx := C.1
  have hb := C.2.1
  have hown := C.2.2.2.1
  have hts := C.2.2.2.2.1
  obtain ⟨x1, ex1⟩ : ∃ z, z = xs (0 + 1) := ⟨_, rfl⟩
  rcases ld_cut 5 (by decide) x1 with ⟨k, hk, rfl⟩ | a1
  · refine lv_aload_n hx hb dL_law_881 rfl (lv_at hl 1 rfl) ?_
    refine lv_aload_n hx hb dL_law_882 rfl (lv_at hl 0 rfl) ?_
    refine lv_iload hx hb dL_law_883 (lv_at hl 4 rfl) ?_
    refine lv_iconst (v := 1) hx hb dL_law_885 (by decide) ?_
    refine lv_iadd hx hb dL_law_886 ?_
    refine g_top (nI_add 0 1) ?_
    refine va_sld hx hb hX hbl hbA X.2.2.2.2 (i := nI (0 + 1)) (vp_in_nI (by omega) (by omega)) dL_law_887 ?_
    refine g_top (y := nI k) ((congrArg xs (nI_clamp (by omega))).trans ex1.symm) ?_
    refine lv_aload_n hx hb dL_law_888 rfl (lv_at hl 3 rfl) ?_
    refine g_lawH (n := 3) (As := [.ref o, .int (nI k), .ref q]) C X (fun sz => mL_rate l D t cI cL o ad q sz f ra_u0 (fun sz => mX0_rate l D t cI o ad sz ra_u0 k hk)) (rwW_S q348 q349 q36 q350) kd_L_rate ⟨Nat.le_of_ble_eq_true rfl, Nat.le_of_ble_eq_true rfl⟩ hl.1 rfl rfl (Nat.le_of_ble_eq_true rfl) dL_law_889 ⟨Nat.le_of_ble_eq_true rfl, Nat.le_of_ble_eq_true rfl⟩ (fun r9 f9 u9 H locs hp X => ?_)
    obtain ⟨rfl, rfl, hf⟩ := hp
    refine lv_istore (lv' := [(5, .int 0), (0, .ref b), (1, .ref o), (2, .ref o2), (3, .ref q), (4, .int (nI 0))]) hx hb dL_law_892 hl (by decide) rfl (fun ls hl => ?_)
    refine lv_aload_n hx hb dL_law_894 rfl (lv_at hl 3 rfl) ?_
    refine lv_aload_n hx hb dL_law_895 rfl (lv_at hl 1 rfl) ?_
    refine lv_iload hx hb dL_law_896 (lv_at hl 5 rfl) ?_
    refine lv_iconst (v := 1) hx hb dL_law_898 (by decide) ?_
    refine lv_iadd hx hb dL_law_899 ?_
    refine g_top (nI_add 0 1) ?_
    refine va_sld hx hb hX hbl hbA X.2.2.2.2 (i := nI (0 + 1)) (vp_in_nI (by omega) (by omega)) dL_law_900 ?_
    refine g_top (y := nI k) ((congrArg xs (nI_clamp (by omega))).trans ex1.symm) ?_
    refine g_lawRie (n := 1) (As := [.int (nI k)]) C X (oX1_rate l D t cI o2 H.size (rb_r0, 0, 0, 0, g) k hk) (rw_V q355 q356 q357 q5 q358) kd_X1_rate rfl ⟨Nat.le_of_ble_eq_true rfl, Nat.le_of_ble_eq_true rfl⟩ hl.1 rfl rfl (Nat.le_of_ble_eq_true rfl) dL_law_901 ⟨Nat.le_of_ble_eq_true rfl, Nat.le_of_ble_eq_true rfl⟩ (fun H locs X => ?_)
    refine lv_topi (fun b1 eb1 => ?_)
    refine lv_istore (lv' := [(6, .int b1), (5, .int 0), (0, .ref b), (1, .ref o), (2, .ref o2), (3, .ref q), (4, .int (nI 0))]) hx hb dL_law_904 hl (by decide) rfl (fun ls hl => ?_)
    refine lv_aload_n hx hb dL_law_906 rfl (lv_at hl 4 rfl) ?_
    refine g_lawRie (n := 0) (As := []) C X (mX1_thrown l D t cI o2 H.size _) (rw_V q72 q73 q74 q5 q75) kd_X1_thrown rfl ⟨Nat.le_of_ble_eq_true rfl, Nat.le_of_ble_eq_true rfl⟩ hl.1 rfl rfl (Nat.le_of_ble_eq_true rfl) dL_law_907 ⟨Nat.le_of_ble_eq_true rfl, Nat.le_of_ble_eq_true rfl⟩ (fun H locs X => ?_)
    refine lv_topi (fun t9 et9 => ?_)
    refine lv_iload hx hb dL_law_910 (lv_at hl 1 rfl) ?_
    refine lv_icmp_eq (tgt := 917) hx hb dL_law_912 (by decide) (fun c3 => ?_) (fun c3 => absurd (et9.trans rfl) c3)
    refine lv_iload hx hb dL_law_917 (lv_at hl 1 rfl) ?_
    refine lv_if_ne (tgt := 934) hx hb dL_law_919 (by decide) (fun c4 => absurd c4 (by decide)) (fun c4 => ?_)
    refine lv_aload_n hx hb dL_law_922 rfl (lv_at hl 5 rfl) ?_
    refine lv_iconst (v := 0) hx hb dL_law_923 (by decide) ?_
    refine g_ll C X dL_law_924 ?_
    refine lv_iload hx hb dL_law_925 (lv_at hl 0 rfl) ?_
    refine lv_i2l hx hb dL_law_927 rfl ?_
    refine W.lcmp hx hb dL_law_928 ?_
    refine lv_if_eq (tgt := 934) hx hb dL_law_929 (by decide) (fun c5 => ?_) (fun c5 => absurd (ld_eq hf eb1 rfl) c5)
    refine lv_goto (tgt := 1142) hx hb dL_law_934 (by decide) ?_
    refine W.widen (k := 40) (n := 400) (Nat.le_of_ble_eq_true rfl) (Nat.le_of_ble_eq_true rfl) ?_
    exact kk _ _ _ X.2.2.2.2 (lv_sub hl [2, 3, 4, 5, 6] rfl)
  · refine lv_aload_n hx hb dL_law_881 rfl (lv_at hl 1 rfl) ?_
    refine lv_aload_n hx hb dL_law_882 rfl (lv_at hl 0 rfl) ?_
    refine lv_iload hx hb dL_law_883 (lv_at hl 4 rfl) ?_
    refine lv_iconst (v := 1) hx hb dL_law_885 (by decide) ?_
    refine lv_iadd hx hb dL_law_886 ?_
    refine g_top (nI_add 0 1) ?_
    refine va_sld hx hb hX hbl hbA X.2.2.2.2 (i := nI (0 + 1)) (vp_in_nI (by omega) (by omega)) dL_law_887 ?_
    refine g_top (y := x1) ((congrArg xs (nI_clamp (by omega))).trans ex1.symm) ?_
    refine lv_aload_n hx hb dL_law_888 rfl (lv_at hl 3 rfl) ?_
    refine g_lawH (n := 3) (As := [.ref o, .int x1, .ref q]) C X (fun sz => xL_rate1 l D t cI cL o ad q sz f ra_u0 (fun sz => xX0_rate1 l D t cI o ad sz ra_u0 hl0 x1 a1)) (rwW_S q348 q349 q36 q350) kd_L_rate ⟨Nat.le_of_ble_eq_true rfl, Nat.le_of_ble_eq_true rfl⟩ hl.1 rfl rfl (Nat.le_of_ble_eq_true rfl) dL_law_889 ⟨Nat.le_of_ble_eq_true rfl, Nat.le_of_ble_eq_true rfl⟩ (fun r9 f9 u9 H locs hp X => ?_)
    obtain ⟨rfl, rfl⟩ := hp
    refine lv_istore (lv' := [(5, .int 1), (0, .ref b), (1, .ref o), (2, .ref o2), (3, .ref q), (4, .int (nI 0))]) hx hb dL_law_892 hl (by decide) rfl (fun ls hl => ?_)
    refine lv_aload_n hx hb dL_law_894 rfl (lv_at hl 3 rfl) ?_
    refine lv_aload_n hx hb dL_law_895 rfl (lv_at hl 1 rfl) ?_
    refine lv_iload hx hb dL_law_896 (lv_at hl 5 rfl) ?_
    refine lv_iconst (v := 1) hx hb dL_law_898 (by decide) ?_
    refine lv_iadd hx hb dL_law_899 ?_
    refine g_top (nI_add 0 1) ?_
    refine va_sld hx hb hX hbl hbA X.2.2.2.2 (i := nI (0 + 1)) (vp_in_nI (by omega) (by omega)) dL_law_900 ?_
    refine g_top (y := x1) ((congrArg xs (nI_clamp (by omega))).trans ex1.symm) ?_
    refine g_lawRie (n := 1) (As := [.int x1]) C X (bX1_rate1 l D t cI o2 H.size (rb_r0, 0, 0, 0, g) x1 a1) (rw_V q355 q356 q357 q5 q358) kd_X1_rate rfl ⟨Nat.le_of_ble_eq_true rfl, Nat.le_of_ble_eq_true rfl⟩ hl.1 rfl rfl (Nat.le_of_ble_eq_true rfl) dL_law_901 ⟨Nat.le_of_ble_eq_true rfl, Nat.le_of_ble_eq_true rfl⟩ (fun H locs X => ?_)
    refine lv_topi (fun b1 eb1 => ?_)
    refine lv_istore (lv' := [(6, .int b1), (5, .int 1), (0, .ref b), (1, .ref o), (2, .ref o2), (3, .ref q), (4, .int (nI 0))]) hx hb dL_law_904 hl (by decide) rfl (fun ls hl => ?_)
    refine lv_aload_n hx hb dL_law_906 rfl (lv_at hl 4 rfl) ?_
    refine g_lawRie (n := 0) (As := []) C X (mX1_thrown l D t cI o2 H.size _) (rw_V q72 q73 q74 q5 q75) kd_X1_thrown rfl ⟨Nat.le_of_ble_eq_true rfl, Nat.le_of_ble_eq_true rfl⟩ hl.1 rfl rfl (Nat.le_of_ble_eq_true rfl) dL_law_907 ⟨Nat.le_of_ble_eq_true rfl, Nat.le_of_ble_eq_true rfl⟩ (fun H locs X => ?_)
    refine lv_topi (fun t9 et9 => ?_)
    refine lv_iload hx hb dL_law_910 (lv_at hl 1 rfl) ?_
    refine lv_icmp_eq (tgt := 917) hx hb dL_law_912 (by decide) (fun c3 => ?_) (fun c3 => absurd (et9.trans rfl) c3)
    refine lv_iload hx hb dL_law_917 (lv_at hl 1 rfl) ?_
    refine lv_if_ne (tgt := 934) hx hb dL_law_919 (by decide) (fun c4 => ?_) (fun c4 => absurd c4 (by decide))
    refine lv_goto (tgt := 1142) hx hb dL_law_934 (by decide) ?_
    refine W.widen (k := 40) (n := 400) (Nat.le_of_ble_eq_true rfl) (Nat.le_of_ble_eq_true rfl) ?_
    exact kk _ _ _ X.2.2.2.2 (lv_sub hl [2, 3, 4, 5, 6] rfl)
set_option maxHeartbeats 4000000 in
set_option maxRecDepth 100000 in
theorem law_c13 {p : Program} {l : Launch} {e : Env} {s : State} {m : MethodId} {below : List Frame} {meth : Method} {c : Code} {Q : State → Prop} {D : va_G} {t : Nat → Nat} {A : Nat → Prop} {cI cL : ClassId} {o o2 q b L : Nat} {ad g : Nat → Nat} {xs : Nat → Int32} {f : Nat → Int64} {H : Heap} {locs : List Loc} {ls : Array Slot} (C : gC p s m #[.ref b] meth c code 9 RL D (lT cI cL) t A) (hl0 : l.stackTraces = false) (hX : va_X b L xs s s.heap) (hbl : b < s.heap.size) (hbA : ¬ A b) (hL : L = 4) (X : lS D A s cI cL o ad ra_u0 o2 (rb_r0, 0, 0, 0, g) q f H locs) (hl : lv_has ls 9 [(0, .ref b), (1, .ref o), (2, .ref o2), (3, .ref q), (4, .int (nI 0))]) (kk : ∀ (H : Heap) (locs : List Loc) (ls : Array Slot), va_S A s.heap H locs → lv_has ls 9 [(0, .ref b), (1, .ref o), (2, .ref o2), (3, .ref q), (4, .int (nI 0))] → W p l e room_1 s m #[.ref b] below meth c H locs 40 400 Q (F0 m 1142 ls [])) : W p l e room_1 s m #[.ref b] below meth c H locs 19 185 Q (F0 m 937 ls []) := by
  have hx := C.1
  have hb := C.2.1
  have hown := C.2.2.2.1
  have hts := C.2.2.2.2.1
  obtain ⟨x1, ex1⟩ : ∃ z, z = xs (0 + 1) := ⟨_, rfl⟩
  obtain ⟨x2, ex2⟩ : ∃ z, z = xs (0 + 2) := ⟨_, rfl⟩
  rcases ld_cut 5 (by decide) x1 with ⟨k, hk, rfl⟩ | a1
  · by_cases a2 : x2 < rt_RX0_LEAST_RATE k ∨ ¬ x2 ≤ rt_RX0_MOST_RATE k
    · refine lv_aload_n hx hb dL_law_937 rfl (lv_at hl 1 rfl) ?_
      refine lv_aload_n hx hb dL_law_938 rfl (lv_at hl 0 rfl) ?_
      refine lv_iload hx hb dL_law_939 (lv_at hl 4 rfl) ?_
      refine lv_iconst (v := 1) hx hb dL_law_941 (by decide) ?_
      refine lv_iadd hx hb dL_law_942 ?_
      refine g_top (nI_add 0 1) ?_
      refine va_sld hx hb hX hbl hbA X.2.2.2.2 (i := nI (0 + 1)) (vp_in_nI (by omega) (by omega)) dL_law_943 ?_
      refine g_top (y := nI k) ((congrArg xs (nI_clamp (by omega))).trans ex1.symm) ?_
      refine lv_aload_n hx hb dL_law_944 rfl (lv_at hl 0 rfl) ?_
      refine lv_iload hx hb dL_law_945 (lv_at hl 4 rfl) ?_
      refine lv_iconst (v := 2) hx hb dL_law_947 (by decide) ?_
      refine lv_iadd hx hb dL_law_948 ?_
      refine g_top (nI_add 0 2) ?_
      refine va_sld hx hb hX hbl hbA X.2.2.2.2 (i := nI (0 + 2)) (vp_in_nI (by omega) (by omega)) dL_law_949 ?_
      refine g_top (y := x2) ((congrArg xs (nI_clamp (by omega))).trans ex2.symm) ?_
      refine lv_aload_n hx hb dL_law_950 rfl (lv_at hl 3 rfl) ?_
      refine g_lawH (n := 4) (As := [.ref o, .int (nI k), .int x2, .ref q]) C X (fun sz => xL_would2 l D t cI cL o ad q sz f ra_u0 (fun sz => xX0_would2 l D t cI o ad sz ra_u0 hl0 k hk x2 a2)) (rwW_S q359 q360 q36 q361) kd_L_would ⟨Nat.le_of_ble_eq_true rfl, Nat.le_of_ble_eq_true rfl⟩ hl.1 rfl rfl (Nat.le_of_ble_eq_true rfl) dL_law_951 ⟨Nat.le_of_ble_eq_true rfl, Nat.le_of_ble_eq_true rfl⟩ (fun r9 f9 u9 H locs hp X => ?_)
      obtain ⟨rfl, rfl⟩ := hp
      refine lv_istore (lv' := [(5, .int 2), (0, .ref b), (1, .ref o), (2, .ref o2), (3, .ref q), (4, .int (nI 0))]) hx hb dL_law_954 hl (by decide) rfl (fun ls hl => ?_)
      refine lv_aload_n hx hb dL_law_956 rfl (lv_at hl 3 rfl) ?_
      refine lv_aload_n hx hb dL_law_957 rfl (lv_at hl 1 rfl) ?_
      refine lv_iload hx hb dL_law_958 (lv_at hl 5 rfl) ?_
      refine lv_iconst (v := 1) hx hb dL_law_960 (by decide) ?_
      refine lv_iadd hx hb dL_law_961 ?_
      refine g_top (nI_add 0 1) ?_
      refine va_sld hx hb hX hbl hbA X.2.2.2.2 (i := nI (0 + 1)) (vp_in_nI (by omega) (by omega)) dL_law_962 ?_
      refine g_top (y := nI k) ((congrArg xs (nI_clamp (by omega))).trans ex1.symm) ?_
      refine lv_aload_n hx hb dL_law_963 rfl (lv_at hl 1 rfl) ?_
      refine lv_iload hx hb dL_law_964 (lv_at hl 5 rfl) ?_
      refine lv_iconst (v := 2) hx hb dL_law_966 (by decide) ?_
      refine lv_iadd hx hb dL_law_967 ?_
      refine g_top (nI_add 0 2) ?_
      refine va_sld hx hb hX hbl hbA X.2.2.2.2 (i := nI (0 + 2)) (vp_in_nI (by omega) (by omega)) dL_law_968 ?_
      refine g_top (y := x2) ((congrArg xs (nI_clamp (by omega))).trans ex2.symm) ?_
      refine g_lawRie (n := 2) (As := [.int (nI k), .int x2]) C X (bX1_would2 l D t cI o2 H.size (rb_r0, 0, 0, 0, g) k hk x2 (ld_bad a2)) (rw_V q366 q367 q368 q5 q369) kd_X1_would rfl ⟨Nat.le_of_ble_eq_true rfl, Nat.le_of_ble_eq_true rfl⟩ hl.1 rfl rfl (Nat.le_of_ble_eq_true rfl) dL_law_969 ⟨Nat.le_of_ble_eq_true rfl, Nat.le_of_ble_eq_true rfl⟩ (fun H locs X => ?_)
      refine lv_topi (fun b1 eb1 => ?_)
      refine lv_istore (lv' := [(6, .int b1), (5, .int 2), (0, .ref b), (1, .ref o), (2, .ref o2), (3, .ref q), (4, .int (nI 0))]) hx hb dL_law_972 hl (by decide) rfl (fun ls hl => ?_)
      refine lv_aload_n hx hb dL_law_974 rfl (lv_at hl 4 rfl) ?_
      refine g_lawRie (n := 0) (As := []) C X (mX1_thrown l D t cI o2 H.size _) (rw_V q72 q73 q74 q5 q75) kd_X1_thrown rfl ⟨Nat.le_of_ble_eq_true rfl, Nat.le_of_ble_eq_true rfl⟩ hl.1 rfl rfl (Nat.le_of_ble_eq_true rfl) dL_law_975 ⟨Nat.le_of_ble_eq_true rfl, Nat.le_of_ble_eq_true rfl⟩ (fun H locs X => ?_)
      refine lv_topi (fun t9 et9 => ?_)
      refine lv_iload hx hb dL_law_978 (lv_at hl 1 rfl) ?_
      refine lv_icmp_eq (tgt := 985) hx hb dL_law_980 (by decide) (fun c3 => ?_) (fun c3 => absurd (et9.trans rfl) c3)
      refine lv_iload hx hb dL_law_985 (lv_at hl 1 rfl) ?_
      refine lv_if_ne (tgt := 1002) hx hb dL_law_987 (by decide) (fun c4 => ?_) (fun c4 => absurd c4 (by decide))
      refine lv_goto (tgt := 1142) hx hb dL_law_1002 (by decide) ?_
      refine W.widen (k := 40) (n := 400) (Nat.le_of_ble_eq_true rfl) (Nat.le_of_ble_eq_true rfl) ?_
      exact kk _ _ _ X.2.2.2.2 (lv_sub hl [2, 3, 4, 5, 6] rfl)
    · refine lv_aload_n hx hb dL_law_937 rfl (lv_at hl 1 rfl) ?_
      refine lv_aload_n hx hb dL_law_938 rfl (lv_at hl 0 rfl) ?_
      refine lv_iload hx hb dL_law_939 (lv_at hl 4 rfl) ?_
      refine lv_iconst (v := 1) hx hb dL_law_941 (by decide) ?_
      refine lv_iadd hx hb dL_law_942 ?_
      refine g_top (nI_add 0 1) ?_
      refine va_sld hx hb hX hbl hbA X.2.2.2.2 (i := nI (0 + 1)) (vp_in_nI (by omega) (by omega)) dL_law_943 ?_
      refine g_top (y := nI k) ((congrArg xs (nI_clamp (by omega))).trans ex1.symm) ?_
      refine lv_aload_n hx hb dL_law_944 rfl (lv_at hl 0 rfl) ?_
      refine lv_iload hx hb dL_law_945 (lv_at hl 4 rfl) ?_
      refine lv_iconst (v := 2) hx hb dL_law_947 (by decide) ?_
      refine lv_iadd hx hb dL_law_948 ?_
      refine g_top (nI_add 0 2) ?_
      refine va_sld hx hb hX hbl hbA X.2.2.2.2 (i := nI (0 + 2)) (vp_in_nI (by omega) (by omega)) dL_law_949 ?_
      refine g_top (y := x2) ((congrArg xs (nI_clamp (by omega))).trans ex2.symm) ?_
      refine lv_aload_n hx hb dL_law_950 rfl (lv_at hl 3 rfl) ?_
      refine g_lawH (n := 4) (As := [.ref o, .int (nI k), .int x2, .ref q]) C X (fun sz => mL_would l D t cI cL o ad q sz f ra_u0 (fun sz => mX0_would l D t cI o ad sz ra_u0 (Nat.zero_le 8) k hk x2 (ld_ok1 a2) (ld_ok2 a2))) (rwW_S q359 q360 q36 q361) kd_L_would ⟨Nat.le_of_ble_eq_true rfl, Nat.le_of_ble_eq_true rfl⟩ hl.1 rfl rfl (Nat.le_of_ble_eq_true rfl) dL_law_951 ⟨Nat.le_of_ble_eq_true rfl, Nat.le_of_ble_eq_true rfl⟩ (fun r9 f9 u9 H locs hp X => ?_)
      obtain ⟨rfl, rfl, hf⟩ := hp
      refine lv_istore (lv' := [(5, .int 0), (0, .ref b), (1, .ref o), (2, .ref o2), (3, .ref q), (4, .int (nI 0))]) hx hb dL_law_954 hl (by decide) rfl (fun ls hl => ?_)
      refine lv_aload_n hx hb dL_law_956 rfl (lv_at hl 3 rfl) ?_
      refine lv_aload_n hx hb dL_law_957 rfl (lv_at hl 1 rfl) ?_
      refine lv_iload hx hb dL_law_958 (lv_at hl 5 rfl) ?_
      refine lv_iconst (v := 1) hx hb dL_law_960 (by decide) ?_
      refine lv_iadd hx hb dL_law_961 ?_
      refine g_top (nI_add 0 1) ?_
      refine va_sld hx hb hX hbl hbA X.2.2.2.2 (i := nI (0 + 1)) (vp_in_nI (by omega) (by omega)) dL_law_962 ?_
      refine g_top (y := nI k) ((congrArg xs (nI_clamp (by omega))).trans ex1.symm) ?_
      refine lv_aload_n hx hb dL_law_963 rfl (lv_at hl 1 rfl) ?_
      refine lv_iload hx hb dL_law_964 (lv_at hl 5 rfl) ?_
      refine lv_iconst (v := 2) hx hb dL_law_966 (by decide) ?_
      refine lv_iadd hx hb dL_law_967 ?_
      refine g_top (nI_add 0 2) ?_
      refine va_sld hx hb hX hbl hbA X.2.2.2.2 (i := nI (0 + 2)) (vp_in_nI (by omega) (by omega)) dL_law_968 ?_
      refine g_top (y := x2) ((congrArg xs (nI_clamp (by omega))).trans ex2.symm) ?_
      refine g_lawRi (P := (fun r v' => r = 0 ∧ v'.2 = (rb_t (rb_r0, 0, 0, 0, g) 0).2)) (n := 2) (As := [.int (nI k), .int x2]) C X (zX1_would l D t cI o2 H.size (rb_r0, 0, 0, 0, g) rfl k hk x2 (ld_ok1 a2) (ld_ok3 a2)) (fun r w' h => h.2.elim (fun v' h9 => ⟨v', ⟨h.1, h9.2.1⟩, h9.1⟩)) (rw_V q366 q367 q368 q5 q369) kd_X1_would rfl ⟨Nat.le_of_ble_eq_true rfl, Nat.le_of_ble_eq_true rfl⟩ hl.1 rfl rfl (Nat.le_of_ble_eq_true rfl) dL_law_969 ⟨Nat.le_of_ble_eq_true rfl, Nat.le_of_ble_eq_true rfl⟩ (fun b1 v9 H locs hp X => ?_)
      obtain ⟨eb1, hv2⟩ := hp
      refine lv_istore (lv' := [(6, .int b1), (5, .int 0), (0, .ref b), (1, .ref o), (2, .ref o2), (3, .ref q), (4, .int (nI 0))]) hx hb dL_law_972 hl (by decide) rfl (fun ls hl => ?_)
      refine lv_aload_n hx hb dL_law_974 rfl (lv_at hl 4 rfl) ?_
      refine g_lawRie (n := 0) (As := []) C X (mX1_thrown l D t cI o2 H.size _) (rw_V q72 q73 q74 q5 q75) kd_X1_thrown rfl ⟨Nat.le_of_ble_eq_true rfl, Nat.le_of_ble_eq_true rfl⟩ hl.1 rfl rfl (Nat.le_of_ble_eq_true rfl) dL_law_975 ⟨Nat.le_of_ble_eq_true rfl, Nat.le_of_ble_eq_true rfl⟩ (fun H locs X => ?_)
      refine lv_topi (fun t9 et9 => ?_)
      refine lv_iload hx hb dL_law_978 (lv_at hl 1 rfl) ?_
      refine lv_icmp_eq (tgt := 985) hx hb dL_law_980 (by decide) (fun c3 => ?_) (fun c3 => absurd (et9.trans (congrArg (fun z => z.2.2.1) hv2)) c3)
      refine lv_iload hx hb dL_law_985 (lv_at hl 1 rfl) ?_
      refine lv_if_ne (tgt := 1002) hx hb dL_law_987 (by decide) (fun c4 => absurd c4 (by decide)) (fun c4 => ?_)
      refine lv_aload_n hx hb dL_law_990 rfl (lv_at hl 5 rfl) ?_
      refine lv_iconst (v := 0) hx hb dL_law_991 (by decide) ?_
      refine g_ll C X dL_law_992 ?_
      refine lv_iload hx hb dL_law_993 (lv_at hl 0 rfl) ?_
      refine lv_i2l hx hb dL_law_995 rfl ?_
      refine W.lcmp hx hb dL_law_996 ?_
      refine lv_if_eq (tgt := 1002) hx hb dL_law_997 (by decide) (fun c5 => ?_) (fun c5 => absurd (ld_eq hf eb1 rfl) c5)
      refine lv_goto (tgt := 1142) hx hb dL_law_1002 (by decide) ?_
      refine W.widen (k := 40) (n := 400) (Nat.le_of_ble_eq_true rfl) (Nat.le_of_ble_eq_true rfl) ?_
      exact kk _ _ _ X.2.2.2.2 (lv_sub hl [2, 3, 4, 5, 6] rfl)
  · refine lv_aload_n hx hb dL_law_937 rfl (lv_at hl 1 rfl) ?_
    refine lv_aload_n hx hb dL_law_938 rfl (lv_at hl 0 rfl) ?_
    refine lv_iload hx hb dL_law_939 (lv_at hl 4 rfl) ?_
    refine lv_iconst (v := 1) hx hb dL_law_941 (by decide) ?_
    refine lv_iadd hx hb dL_law_942 ?_
    refine g_top (nI_add 0 1) ?_
    refine va_sld hx hb hX hbl hbA X.2.2.2.2 (i := nI (0 + 1)) (vp_in_nI (by omega) (by omega)) dL_law_943 ?_
    refine g_top (y := x1) ((congrArg xs (nI_clamp (by omega))).trans ex1.symm) ?_
    refine lv_aload_n hx hb dL_law_944 rfl (lv_at hl 0 rfl) ?_
    refine lv_iload hx hb dL_law_945 (lv_at hl 4 rfl) ?_
    refine lv_iconst (v := 2) hx hb dL_law_947 (by decide) ?_
    refine lv_iadd hx hb dL_law_948 ?_
    refine g_top (nI_add 0 2) ?_
    refine va_sld hx hb hX hbl hbA X.2.2.2.2 (i := nI (0 + 2)) (vp_in_nI (by omega) (by omega)) dL_law_949 ?_
    refine g_top (y := x2) ((congrArg xs (nI_clamp (by omega))).trans ex2.symm) ?_
    refine lv_aload_n hx hb dL_law_950 rfl (lv_at hl 3 rfl) ?_
    refine g_lawH (n := 4) (As := [.ref o, .int x1, .int x2, .ref q]) C X (fun sz => xL_would1 l D t cI cL o ad q sz f ra_u0 (fun sz => xX0_would1 l D t cI o ad sz ra_u0 hl0 x1 x2 a1)) (rwW_S q359 q360 q36 q361) kd_L_would ⟨Nat.le_of_ble_eq_true rfl, Nat.le_of_ble_eq_true rfl⟩ hl.1 rfl rfl (Nat.le_of_ble_eq_true rfl) dL_law_951 ⟨Nat.le_of_ble_eq_true rfl, Nat.le_of_ble_eq_true rfl⟩ (fun r9 f9 u9 H locs hp X => ?_)
    obtain ⟨rfl, rfl⟩ := hp
    refine lv_istore (lv' := [(5, .int 1), (0, .ref b), (1, .ref o), (2, .ref o2), (3, .ref q), (4, .int (nI 0))]) hx hb dL_law_954 hl (by decide) rfl (fun ls hl => ?_)
    refine lv_aload_n hx hb dL_law_956 rfl (lv_at hl 3 rfl) ?_
    refine lv_aload_n hx hb dL_law_957 rfl (lv_at hl 1 rfl) ?_
    refine lv_iload hx hb dL_law_958 (lv_at hl 5 rfl) ?_
    refine lv_iconst (v := 1) hx hb dL_law_960 (by decide) ?_
    refine lv_iadd hx hb dL_law_961 ?_
    refine g_top (nI_add 0 1) ?_
    refine va_sld hx hb hX hbl hbA X.2.2.2.2 (i := nI (0 + 1)) (vp_in_nI (by omega) (by omega)) dL_law_962 ?_
    refine g_top (y := x1) ((congrArg xs (nI_clamp (by omega))).trans ex1.symm) ?_
    refine lv_aload_n hx hb dL_law_963 rfl (lv_at hl 1 rfl) ?_
    refine lv_iload hx hb dL_law_964 (lv_at hl 5 rfl) ?_
    refine lv_iconst (v := 2) hx hb dL_law_966 (by decide) ?_
    refine lv_iadd hx hb dL_law_967 ?_
    refine g_top (nI_add 0 2) ?_
    refine va_sld hx hb hX hbl hbA X.2.2.2.2 (i := nI (0 + 2)) (vp_in_nI (by omega) (by omega)) dL_law_968 ?_
    refine g_top (y := x2) ((congrArg xs (nI_clamp (by omega))).trans ex2.symm) ?_
    refine g_lawRie (n := 2) (As := [.int x1, .int x2]) C X (bX1_would1 l D t cI o2 H.size (rb_r0, 0, 0, 0, g) x1 x2 a1) (rw_V q366 q367 q368 q5 q369) kd_X1_would rfl ⟨Nat.le_of_ble_eq_true rfl, Nat.le_of_ble_eq_true rfl⟩ hl.1 rfl rfl (Nat.le_of_ble_eq_true rfl) dL_law_969 ⟨Nat.le_of_ble_eq_true rfl, Nat.le_of_ble_eq_true rfl⟩ (fun H locs X => ?_)
    refine lv_topi (fun b1 eb1 => ?_)
    refine lv_istore (lv' := [(6, .int b1), (5, .int 1), (0, .ref b), (1, .ref o), (2, .ref o2), (3, .ref q), (4, .int (nI 0))]) hx hb dL_law_972 hl (by decide) rfl (fun ls hl => ?_)
    refine lv_aload_n hx hb dL_law_974 rfl (lv_at hl 4 rfl) ?_
    refine g_lawRie (n := 0) (As := []) C X (mX1_thrown l D t cI o2 H.size _) (rw_V q72 q73 q74 q5 q75) kd_X1_thrown rfl ⟨Nat.le_of_ble_eq_true rfl, Nat.le_of_ble_eq_true rfl⟩ hl.1 rfl rfl (Nat.le_of_ble_eq_true rfl) dL_law_975 ⟨Nat.le_of_ble_eq_true rfl, Nat.le_of_ble_eq_true rfl⟩ (fun H locs X => ?_)
    refine lv_topi (fun t9 et9 => ?_)
    refine lv_iload hx hb dL_law_978 (lv_at hl 1 rfl) ?_
    refine lv_icmp_eq (tgt := 985) hx hb dL_law_980 (by decide) (fun c3 => ?_) (fun c3 => absurd (et9.trans rfl) c3)
    refine lv_iload hx hb dL_law_985 (lv_at hl 1 rfl) ?_
    refine lv_if_ne (tgt := 1002) hx hb dL_law_987 (by decide) (fun c4 => ?_) (fun c4 => absurd c4 (by decide))
    refine lv_goto (tgt := 1142) hx hb dL_law_1002 (by decide) ?_
    refine W.widen (k := 40) (n := 400) (Nat.le_of_ble_eq_true rfl) (Nat.le_of_ble_eq_true rfl) ?_
    exact kk _ _ _ X.2.2.2.2 (lv_sub hl [2, 3, 4, 5, 6] rfl)
set_option maxHeartbeats 4000000 in
set_option maxRecDepth 100000 in
theorem law_c14 {p : Program} {l : Launch} {e : Env} {s : State} {m : MethodId} {below : List Frame} {meth : Method} {c : Code} {Q : State → Prop} {D : va_G} {t : Nat → Nat} {A : Nat → Prop} {cI cL : ClassId} {o o2 q b L : Nat} {ad g : Nat → Nat} {xs : Nat → Int32} {f : Nat → Int64} {H : Heap} {locs : List Loc} {ls : Array Slot} (C : gC p s m #[.ref b] meth c code 9 RL D (lT cI cL) t A) (hl0 : l.stackTraces = false) (hX : va_X b L xs s s.heap) (hbl : b < s.heap.size) (hbA : ¬ A b) (hL : L = 4) (X : lS D A s cI cL o ad ra_u0 o2 (rb_r0, 0, 0, 0, g) q f H locs) (hl : lv_has ls 9 [(0, .ref b), (1, .ref o), (2, .ref o2), (3, .ref q), (4, .int (nI 0))]) (kk : ∀ (H : Heap) (locs : List Loc) (ls : Array Slot), va_S A s.heap H locs → lv_has ls 9 [(0, .ref b), (1, .ref o), (2, .ref o2), (3, .ref q), (4, .int (nI 0))] → W p l e room_1 s m #[.ref b] below meth c H locs 40 400 Q (F0 m 1142 ls [])) : W p l e room_1 s m #[.ref b] below meth c H locs 19 185 Q (F0 m 1005 ls []) := by
  have hx := C.1
  have hb := C.2.1
  have hown := C.2.2.2.1
  have hts := C.2.2.2.2.1
  obtain ⟨x1, ex1⟩ : ∃ z, z = xs (0 + 1) := ⟨_, rfl⟩
  refine lv_aload_n hx hb dL_law_1005 rfl (lv_at hl 1 rfl) ?_
  refine lv_aload_n hx hb dL_law_1006 rfl (lv_at hl 0 rfl) ?_
  refine lv_iload hx hb dL_law_1007 (lv_at hl 4 rfl) ?_
  refine lv_iconst (v := 1) hx hb dL_law_1009 (by decide) ?_
  refine lv_iadd hx hb dL_law_1010 ?_
  refine g_top (nI_add 0 1) ?_
  refine va_sld hx hb hX hbl hbA X.2.2.2.2 (i := nI (0 + 1)) (vp_in_nI (by omega) (by omega)) dL_law_1011 ?_
  refine g_top (y := x1) ((congrArg xs (nI_clamp (by omega))).trans ex1.symm) ?_
  refine lv_aload_n hx hb dL_law_1012 rfl (lv_at hl 3 rfl) ?_
  refine g_lawH (n := 3) (As := [.ref o, .int x1, .ref q]) C X (fun sz => xL_until1 l D t cI cL o ad q sz f ra_u0 (fun sz => xX0_until1 l D t cI o ad sz ra_u0 hl0 x1 (rb_no rfl))) (rwW_S q370 q371 q36 q372) kd_L_until ⟨Nat.le_of_ble_eq_true rfl, Nat.le_of_ble_eq_true rfl⟩ hl.1 rfl rfl (Nat.le_of_ble_eq_true rfl) dL_law_1013 ⟨Nat.le_of_ble_eq_true rfl, Nat.le_of_ble_eq_true rfl⟩ (fun r9 f9 u9 H locs hp X => ?_)
  obtain ⟨rfl, rfl⟩ := hp
  refine lv_istore (lv' := [(5, .int 1), (0, .ref b), (1, .ref o), (2, .ref o2), (3, .ref q), (4, .int (nI 0))]) hx hb dL_law_1016 hl (by decide) rfl (fun ls hl => ?_)
  refine lv_aload_n hx hb dL_law_1018 rfl (lv_at hl 3 rfl) ?_
  refine lv_aload_n hx hb dL_law_1019 rfl (lv_at hl 1 rfl) ?_
  refine lv_iload hx hb dL_law_1020 (lv_at hl 5 rfl) ?_
  refine lv_iconst (v := 1) hx hb dL_law_1022 (by decide) ?_
  refine lv_iadd hx hb dL_law_1023 ?_
  refine g_top (nI_add 0 1) ?_
  refine va_sld hx hb hX hbl hbA X.2.2.2.2 (i := nI (0 + 1)) (vp_in_nI (by omega) (by omega)) dL_law_1024 ?_
  refine g_top (y := x1) ((congrArg xs (nI_clamp (by omega))).trans ex1.symm) ?_
  refine g_lawRie (n := 1) (As := [.int x1]) C X (zX1_until l D t cI o2 H.size (rb_r0, 0, 0, 0, g) rfl x1) (rw_V q377 q378 q379 q5 q380) kd_X1_until rfl ⟨Nat.le_of_ble_eq_true rfl, Nat.le_of_ble_eq_true rfl⟩ hl.1 rfl rfl (Nat.le_of_ble_eq_true rfl) dL_law_1025 ⟨Nat.le_of_ble_eq_true rfl, Nat.le_of_ble_eq_true rfl⟩ (fun H locs X => ?_)
  refine lv_topi (fun b1 eb1 => ?_)
  refine lv_istore (lv' := [(6, .int b1), (5, .int 1), (0, .ref b), (1, .ref o), (2, .ref o2), (3, .ref q), (4, .int (nI 0))]) hx hb dL_law_1028 hl (by decide) rfl (fun ls hl => ?_)
  refine lv_aload_n hx hb dL_law_1030 rfl (lv_at hl 4 rfl) ?_
  refine g_lawRie (n := 0) (As := []) C X (mX1_thrown l D t cI o2 H.size _) (rw_V q72 q73 q74 q5 q75) kd_X1_thrown rfl ⟨Nat.le_of_ble_eq_true rfl, Nat.le_of_ble_eq_true rfl⟩ hl.1 rfl rfl (Nat.le_of_ble_eq_true rfl) dL_law_1031 ⟨Nat.le_of_ble_eq_true rfl, Nat.le_of_ble_eq_true rfl⟩ (fun H locs X => ?_)
  refine lv_topi (fun t9 et9 => ?_)
  refine lv_iload hx hb dL_law_1034 (lv_at hl 1 rfl) ?_
  refine lv_icmp_eq (tgt := 1041) hx hb dL_law_1036 (by decide) (fun c3 => ?_) (fun c3 => absurd (et9.trans rfl) c3)
  refine lv_iload hx hb dL_law_1041 (lv_at hl 1 rfl) ?_
  refine lv_if_ne (tgt := 1058) hx hb dL_law_1043 (by decide) (fun c4 => ?_) (fun c4 => absurd c4 (by decide))
  refine lv_goto (tgt := 1142) hx hb dL_law_1058 (by decide) ?_
  refine W.widen (k := 40) (n := 400) (Nat.le_of_ble_eq_true rfl) (Nat.le_of_ble_eq_true rfl) ?_
  exact kk _ _ _ X.2.2.2.2 (lv_sub hl [2, 3, 4, 5, 6] rfl)
set_option maxHeartbeats 4000000 in
set_option maxRecDepth 100000 in
theorem law_c15 {p : Program} {l : Launch} {e : Env} {s : State} {m : MethodId} {below : List Frame} {meth : Method} {c : Code} {Q : State → Prop} {D : va_G} {t : Nat → Nat} {A : Nat → Prop} {cI cL : ClassId} {o o2 q b L : Nat} {ad g : Nat → Nat} {xs : Nat → Int32} {f : Nat → Int64} {H : Heap} {locs : List Loc} {ls : Array Slot} (C : gC p s m #[.ref b] meth c code 9 RL D (lT cI cL) t A) (hl0 : l.stackTraces = false) (hX : va_X b L xs s s.heap) (hbl : b < s.heap.size) (hbA : ¬ A b) (hL : L = 4) (X : lS D A s cI cL o ad ra_u0 o2 (rb_r0, 0, 0, 0, g) q f H locs) (hl : lv_has ls 9 [(0, .ref b), (1, .ref o), (2, .ref o2), (3, .ref q), (4, .int (nI 0))]) (kk : ∀ (H : Heap) (locs : List Loc) (ls : Array Slot), va_S A s.heap H locs → lv_has ls 9 [(0, .ref b), (1, .ref o), (2, .ref o2), (3, .ref q), (4, .int (nI 0))] → W p l e room_1 s m #[.ref b] below meth c H locs 40 400 Q (F0 m 1142 ls [])) : W p l e room_1 s m #[.ref b] below meth c H locs 19 185 Q (F0 m 1061 ls []) := by
  have hx := C.1
  have hb := C.2.1
  have hown := C.2.2.2.1
  have hts := C.2.2.2.2.1
  refine lv_aload_n hx hb dL_law_1061 rfl (lv_at hl 1 rfl) ?_
  refine g_lawXie (n := 0) (As := []) C X (mX0_lacks l D t cI o ad H.size ra_u0 (Nat.zero_le 8)) (rw_V q381 q382 q383 q2 q384) kd_X0_lacks rfl ⟨Nat.le_of_ble_eq_true rfl, Nat.le_of_ble_eq_true rfl⟩ hl.1 rfl rfl (Nat.le_of_ble_eq_true rfl) dL_law_1062 ⟨Nat.le_of_ble_eq_true rfl, Nat.le_of_ble_eq_true rfl⟩ (fun H locs X => ?_)
  refine lv_topi (fun b1 eb1 => ?_)
  refine lv_aload_n hx hb dL_law_1065 rfl (lv_at hl 2 rfl) ?_
  refine g_lawRi (P := (fun r v' => r = rf_max 0 (0 - (rb_r0, 0, 0, 0, g).1 1 2))) (n := 0) (As := []) C X (zX1_lacks l D t cI o2 H.size (rb_r0, 0, 0, 0, g) rfl ld_hp) (fun r w' h => h.2.elim (fun v' h9 => ⟨v', h.1, h9⟩)) (rw_V q385 q386 q387 q5 q388) kd_X1_lacks rfl ⟨Nat.le_of_ble_eq_true rfl, Nat.le_of_ble_eq_true rfl⟩ hl.1 rfl rfl (Nat.le_of_ble_eq_true rfl) dL_law_1066 ⟨Nat.le_of_ble_eq_true rfl, Nat.le_of_ble_eq_true rfl⟩ (fun b2 v9 H locs hp X => ?_)
  have eb2 := hp
  refine lv_icmp_eq (tgt := 1142) hx hb dL_law_1069 (by decide) (fun c3 => ?_) (fun c3 => absurd (eb1.trans (Eq.trans ld_lk eb2.symm)) c3)
  refine W.widen (k := 40) (n := 400) (Nat.le_of_ble_eq_true rfl) (Nat.le_of_ble_eq_true rfl) ?_
  exact kk _ _ _ X.2.2.2.2 (lv_sub hl [0, 1, 2, 3, 4] rfl)
set_option maxHeartbeats 4000000 in
set_option maxRecDepth 100000 in
theorem law_c16 {p : Program} {l : Launch} {e : Env} {s : State} {m : MethodId} {below : List Frame} {meth : Method} {c : Code} {Q : State → Prop} {D : va_G} {t : Nat → Nat} {A : Nat → Prop} {cI cL : ClassId} {o o2 q b L : Nat} {ad g : Nat → Nat} {xs : Nat → Int32} {f : Nat → Int64} {H : Heap} {locs : List Loc} {ls : Array Slot} (C : gC p s m #[.ref b] meth c code 9 RL D (lT cI cL) t A) (hl0 : l.stackTraces = false) (hX : va_X b L xs s s.heap) (hbl : b < s.heap.size) (hbA : ¬ A b) (hL : L = 4) (X : lS D A s cI cL o ad ra_u0 o2 (rb_r0, 0, 0, 0, g) q f H locs) (hl : lv_has ls 9 [(0, .ref b), (1, .ref o), (2, .ref o2), (3, .ref q), (4, .int (nI 0))]) (kk : ∀ (H : Heap) (locs : List Loc) (ls : Array Slot), va_S A s.heap H locs → lv_has ls 9 [(0, .ref b), (1, .ref o), (2, .ref o2), (3, .ref q), (4, .int (nI 0))] → W p l e room_1 s m #[.ref b] below meth c H locs 40 400 Q (F0 m 1142 ls [])) : W p l e room_1 s m #[.ref b] below meth c H locs 19 185 Q (F0 m 1074 ls []) := by
  have hx := C.1
  have hb := C.2.1
  have hown := C.2.2.2.1
  have hts := C.2.2.2.2.1
  refine lv_aload_n hx hb dL_law_1074 rfl (lv_at hl 1 rfl) ?_
  refine g_lawXie (n := 0) (As := []) C X (mX0_advise l D t cI o ad H.size ra_u0 (Nat.zero_le 8)) (rw_V q389 q390 q391 q2 q392) kd_X0_advise rfl ⟨Nat.le_of_ble_eq_true rfl, Nat.le_of_ble_eq_true rfl⟩ hl.1 rfl rfl (Nat.le_of_ble_eq_true rfl) dL_law_1075 ⟨Nat.le_of_ble_eq_true rfl, Nat.le_of_ble_eq_true rfl⟩ (fun H locs X => ?_)
  refine lv_topi (fun b1 eb1 => ?_)
  refine lv_aload_n hx hb dL_law_1078 rfl (lv_at hl 2 rfl) ?_
  refine g_lawRie (n := 0) (As := []) C X (zX1_advise l D t cI o2 H.size (rb_r0, 0, 0, 0, g) rfl) (rw_V q396 q397 q398 q5 q399) kd_X1_advise rfl ⟨Nat.le_of_ble_eq_true rfl, Nat.le_of_ble_eq_true rfl⟩ hl.1 rfl rfl (Nat.le_of_ble_eq_true rfl) dL_law_1079 ⟨Nat.le_of_ble_eq_true rfl, Nat.le_of_ble_eq_true rfl⟩ (fun H locs X => ?_)
  refine lv_topi (fun b2 eb2 => ?_)
  refine lv_icmp_eq (tgt := 1142) hx hb dL_law_1082 (by decide) (fun c3 => ?_) (fun c3 => absurd (eb1.trans (Eq.trans (by decide +kernel) eb2.symm)) c3)
  refine W.widen (k := 40) (n := 400) (Nat.le_of_ble_eq_true rfl) (Nat.le_of_ble_eq_true rfl) ?_
  exact kk _ _ _ X.2.2.2.2 (lv_sub hl [0, 1, 2, 3, 4] rfl)
set_option maxHeartbeats 4000000 in
set_option maxRecDepth 100000 in
theorem law_c17 {p : Program} {l : Launch} {e : Env} {s : State} {m : MethodId} {below : List Frame} {meth : Method} {c : Code} {Q : State → Prop} {D : va_G} {t : Nat → Nat} {A : Nat → Prop} {cI cL : ClassId} {o o2 q b L : Nat} {ad g : Nat → Nat} {xs : Nat → Int32} {f : Nat → Int64} {H : Heap} {locs : List Loc} {ls : Array Slot} (C : gC p s m #[.ref b] meth c code 9 RL D (lT cI cL) t A) (hl0 : l.stackTraces = false) (hX : va_X b L xs s s.heap) (hbl : b < s.heap.size) (hbA : ¬ A b) (hL : L = 4) (X : lS D A s cI cL o ad ra_u0 o2 (rb_r0, 0, 0, 0, g) q f H locs) (hl : lv_has ls 9 [(0, .ref b), (1, .ref o), (2, .ref o2), (3, .ref q), (4, .int (nI 0))]) (kk : ∀ (H : Heap) (locs : List Loc) (ls : Array Slot), va_S A s.heap H locs → lv_has ls 9 [(0, .ref b), (1, .ref o), (2, .ref o2), (3, .ref q), (4, .int (nI 0))] → W p l e room_1 s m #[.ref b] below meth c H locs 40 400 Q (F0 m 1142 ls [])) : W p l e room_1 s m #[.ref b] below meth c H locs 19 185 Q (F0 m 1087 ls []) := by
  have hx := C.1
  have hb := C.2.1
  have hown := C.2.2.2.1
  have hts := C.2.2.2.2.1
  refine lv_aload_n hx hb dL_law_1087 rfl (lv_at hl 1 rfl) ?_
  refine g_lawXde (n := 0) (As := []) C X (zX0_mean l D t cI o ad H.size ra_u0 rfl) (rw_V q403 q404 q405 q2 q406) kd_X0_mean rfl ⟨Nat.le_of_ble_eq_true rfl, Nat.le_of_ble_eq_true rfl⟩ hl.1 rfl rfl (Nat.le_of_ble_eq_true rfl) dL_law_1088 ⟨Nat.le_of_ble_eq_true rfl, Nat.le_of_ble_eq_true rfl⟩ (fun H locs X => ?_)
  refine lv_dstore (lv' := [(5, .double 0), (0, .ref b), (1, .ref o), (2, .ref o2), (3, .ref q), (4, .int (nI 0))]) hx hb dL_law_1091 hl (by decide) rfl (fun ls hl => ?_)
  refine lv_aload_n hx hb dL_law_1093 rfl (lv_at hl 3 rfl) ?_
  refine g_lawRde (n := 0) (As := []) C X (zX1_mean l D t cI o2 H.size (rb_r0, 0, 0, 0, g) rfl) (rw_V q407 q408 q409 q5 q410) kd_X1_mean rfl ⟨Nat.le_of_ble_eq_true rfl, Nat.le_of_ble_eq_true rfl⟩ hl.1 rfl rfl (Nat.le_of_ble_eq_true rfl) dL_law_1094 ⟨Nat.le_of_ble_eq_true rfl, Nat.le_of_ble_eq_true rfl⟩ (fun H locs X => ?_)
  refine lv_dstore (lv' := [(7, .double 0), (5, .double 0), (0, .ref b), (1, .ref o), (2, .ref o2), (3, .ref q), (4, .int (nI 0))]) hx hb dL_law_1097 hl (by decide) rfl (fun ls hl => ?_)
  refine lv_dload hx hb dL_law_1099 (lv_at hl 1 rfl) ?_
  refine lv_dload hx hb dL_law_1101 (lv_at hl 0 rfl) ?_
  refine lv_dcmp hx hb dL_law_1103 ?_
  refine lv_if_eq (tgt := 1125) hx hb dL_law_1104 (by decide) (fun c3 => ?_) (fun c3 => absurd (by decide +kernel) c3)
  refine lv_goto (tgt := 1142) hx hb dL_law_1125 (by decide) ?_
  refine W.widen (k := 40) (n := 400) (Nat.le_of_ble_eq_true rfl) (Nat.le_of_ble_eq_true rfl) ?_
  exact kk _ _ _ X.2.2.2.2 (lv_sub hl [2, 3, 4, 5, 6] rfl)
set_option maxHeartbeats 4000000 in
set_option maxRecDepth 100000 in
theorem law_c18 {p : Program} {l : Launch} {e : Env} {s : State} {m : MethodId} {below : List Frame} {meth : Method} {c : Code} {Q : State → Prop} {D : va_G} {t : Nat → Nat} {A : Nat → Prop} {cI cL : ClassId} {o o2 q b L : Nat} {ad g : Nat → Nat} {xs : Nat → Int32} {f : Nat → Int64} {H : Heap} {locs : List Loc} {ls : Array Slot} (C : gC p s m #[.ref b] meth c code 9 RL D (lT cI cL) t A) (hl0 : l.stackTraces = false) (hX : va_X b L xs s s.heap) (hbl : b < s.heap.size) (hbA : ¬ A b) (hL : L = 4) (X : lS D A s cI cL o ad ra_u0 o2 (rb_r0, 0, 0, 0, g) q f H locs) (hl : lv_has ls 9 [(0, .ref b), (1, .ref o), (2, .ref o2), (3, .ref q), (4, .int (nI 0))]) (kk : ∀ (H : Heap) (locs : List Loc) (ls : Array Slot), va_S A s.heap H locs → lv_has ls 9 [(0, .ref b), (1, .ref o), (2, .ref o2), (3, .ref q), (4, .int (nI 0))] → W p l e room_1 s m #[.ref b] below meth c H locs 40 400 Q (F0 m 1142 ls [])) : W p l e room_1 s m #[.ref b] below meth c H locs 19 185 Q (F0 m 1128 ls []) := by
  have hx := C.1
  have hb := C.2.1
  have hown := C.2.2.2.1
  have hts := C.2.2.2.2.1
  refine lv_aload_n hx hb dL_law_1128 rfl (lv_at hl 1 rfl) ?_
  refine g_lawXle (n := 0) (As := []) C X (mX0_digest l D t cI o ad H.size ra_u0 (Nat.zero_le 8)) (rw_V q411 q412 q413 q2 q414) kd_X0_digest rfl ⟨Nat.le_of_ble_eq_true rfl, Nat.le_of_ble_eq_true rfl⟩ hl.1 rfl rfl (Nat.le_of_ble_eq_true rfl) dL_law_1129 ⟨Nat.le_of_ble_eq_true rfl, Nat.le_of_ble_eq_true rfl⟩ (fun H locs X => ?_)
  refine lv_topl (fun b1 eb1 => ?_)
  refine lv_aload_n hx hb dL_law_1132 rfl (lv_at hl 2 rfl) ?_
  refine g_lawRl (P := (fun r v' => r = rf_dg ((rb_r0, 0, 0, 0, g).1 1) (rf_dg ((rb_r0, 0, 0, 0, g).1 0) (rf_dg (rb_cnt (rb_r0, 0, 0, 0, g)) 1657 7) 5) 3)) (n := 0) (As := []) C X (zX1_digest l D t cI o2 H.size (rb_r0, 0, 0, 0, g) rfl ld_hp) (fun r w' h => h.2.elim (fun v' h9 => ⟨v', h.1, h9⟩)) (rw_V q421 q422 q423 q5 q424) kd_X1_digest rfl ⟨Nat.le_of_ble_eq_true rfl, Nat.le_of_ble_eq_true rfl⟩ hl.1 rfl rfl (Nat.le_of_ble_eq_true rfl) dL_law_1133 ⟨Nat.le_of_ble_eq_true rfl, Nat.le_of_ble_eq_true rfl⟩ (fun b2 v9 H locs hp X => ?_)
  have eb2 := hp
  refine W.lcmp hx hb dL_law_1136 ?_
  refine lv_if_eq (tgt := 1142) hx hb dL_law_1137 (by decide) (fun c3 => ?_) (fun c3 => absurd (ld_eqL (eb1.trans (Eq.trans ld_dig eb2.symm))) c3)
  refine W.widen (k := 40) (n := 400) (Nat.le_of_ble_eq_true rfl) (Nat.le_of_ble_eq_true rfl) ?_
  exact kk _ _ _ X.2.2.2.2 (lv_sub hl [0, 1, 2, 3, 4] rfl)
