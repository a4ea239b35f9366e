set_option maxHeartbeats 4000000 in
set_option maxRecDepth 100000 in
theorem law_g0 {p : Program} {l : Launch} {e : Env} {s : State} {m : MethodId} {below : List Frame} {meth : Method} {c : Code} {Q : State → Prop} {D : va_G} {t : Nat → Nat} {A : Nat → Prop} {cI cL : ClassId} {o o2 q b L kC nC i : Nat} {ad : Nat → Nat} {xs : Nat → Int32} {u : S0} {v : S1} {f : Nat → Int64} {H : Heap} {locs : List Loc} {ls : Array Slot} (C : gC p s m #[.ref b] meth c code 9 RL D (lT cI cL) t A) (hl0 : l.stackTraces = false) (hX : va_X b L xs s s.heap) (hbl : b < s.heap.size) (hbA : ¬ A b) (hi : i + 4 ≤ L) (hL : L ≤ 2048) (X : lS D A s cI cL o ad u o2 v q f H locs) (T : lTie u v) (hl : lv_has ls 9 [(0, .ref b), (1, .ref o), (2, .ref o2), (3, .ref q), (4, .int (nI i))]) (hk9 : kC + 20 ≤ 601024) (hn9 : nC + 200 ≤ 7293034) (kk : ∀ (u : S0) (v : S1) (f : Nat → Int64) (H : Heap) (locs : List Loc) (ls : Array Slot), lS D A s cI cL o ad u o2 v q f H locs → lTie u v → lv_has ls 9 [(0, .ref b), (1, .ref o), (2, .ref o2), (3, .ref q), (4, .int (nI i))] → W p l e room_1 s m #[.ref b] below meth c H locs (kC + 20) (nC + 200) Q (F0 m 751 ls [])) : W p l e room_1 s m #[.ref b] below meth c H locs kC nC Q (F0 m 128 ls []) := by
  have hx := C.1
  have hb := C.2.1
  have hown := C.2.2.2.1
  have hts := C.2.2.2.2.1
  obtain ⟨ehv, hv8, e7, er, hp4⟩ := id T
  have hu8 : u.2.1 ≤ 8 := by omega
  obtain ⟨x1, ex1⟩ : ∃ z, z = xs (i + 1) := ⟨_, rfl⟩
  by_cases a2 : x1 < 0 ∨ ¬ x1 ≤ 2
  · refine lv_aload_n hx hb dL_law_128 rfl (lv_at hl 1 rfl) ?_
    refine lv_aload_n hx hb dL_law_129 rfl (lv_at hl 0 rfl) ?_
    refine lv_iload hx hb dL_law_130 (lv_at hl 4 rfl) ?_
    refine lv_iconst (v := 1) hx hb dL_law_132 (by decide) ?_
    refine lv_iadd hx hb dL_law_133 ?_
    refine g_top (nI_add i 1) ?_
    refine va_sld hx hb hX hbl hbA X.2.2.2.2 (i := nI (i + 1)) (vp_in_nI (by omega) (by omega)) dL_law_134 ?_
    refine g_top (y := x1) ((congrArg xs (nI_clamp (by omega))).trans ex1.symm) ?_
    refine lv_aload_n hx hb dL_law_135 rfl (lv_at hl 3 rfl) ?_
    refine g_lawH (n := 3) (As := [.ref o, .int x1, .ref q]) C X (fun sz => xL_hire1 l D t cI cL o ad q sz f u (fun sz => xX0_hire1 l D t cI o ad sz u hl0 x1 a2)) (rwW_S q34 q35 q36 q37) kd_L_hire ⟨Nat.le_of_ble_eq_true rfl, Nat.le_of_ble_eq_true rfl⟩ hl.1 rfl rfl (Nat.le_of_ble_eq_true rfl) dL_law_136 ⟨(show kC + 1 ≤ 601024 by omega), (show nC + 6 ≤ 7293034 by omega)⟩ (fun r9 f9 u9 H locs hp X => ?_)
    obtain ⟨rfl, eu9⟩ := hp
    rw [eu9] at X
    refine lv_istore (lv' := [(5, .int 1), (0, .ref b), (1, .ref o), (2, .ref o2), (3, .ref q), (4, .int (nI i))]) hx hb dL_law_139 hl (by decide) rfl (fun ls hl => ?_)
    refine lv_aload_n hx hb dL_law_141 rfl (lv_at hl 3 rfl) ?_
    refine lv_aload_n hx hb dL_law_142 rfl (lv_at hl 1 rfl) ?_
    refine lv_iload hx hb dL_law_143 (lv_at hl 5 rfl) ?_
    refine lv_iconst (v := 1) hx hb dL_law_145 (by decide) ?_
    refine lv_iadd hx hb dL_law_146 ?_
    refine g_top (nI_add i 1) ?_
    refine va_sld hx hb hX hbl hbA X.2.2.2.2 (i := nI (i + 1)) (vp_in_nI (by omega) (by omega)) dL_law_147 ?_
    refine g_top (y := x1) ((congrArg xs (nI_clamp (by omega))).trans ex1.symm) ?_
    refine g_lawRie (n := 1) (As := [.int x1]) C X (bX1_hire1 l D t cI o2 H.size v x1 (ld_bad a2)) (rw_V q55 q56 q57 q5 q58) kd_X1_hire rfl ⟨Nat.le_of_ble_eq_true rfl, Nat.le_of_ble_eq_true rfl⟩ hl.1 rfl rfl (Nat.le_of_ble_eq_true rfl) dL_law_148 ⟨(show kC + 1 + 0 ≤ 601024 by omega), (show nC + 6 + 0 ≤ 7293034 by omega)⟩ (fun H locs X => ?_)
    refine lv_topi (fun b1 eb1 => ?_)
    refine lv_istore (lv' := [(6, .int b1), (5, .int 1), (0, .ref b), (1, .ref o), (2, .ref o2), (3, .ref q), (4, .int (nI i))]) hx hb dL_law_151 hl (by decide) rfl (fun ls hl => ?_)
    refine lv_goto (tgt := 751) hx hb dL_law_153 (by decide) ?_
    refine W.widen (k := kC + 20) (n := nC + 200) ((by omega)) ((by omega)) ?_
    exact kk _ _ _ _ _ _ X (T.E ra_E0 ⟨rfl, rfl, fun _ _ => ⟨rfl, rfl⟩⟩) (lv_sub hl [2, 3, 4, 5, 6] rfl)
  · by_cases a3 : u.2.1 = 8
    · refine lv_aload_n hx hb dL_law_128 rfl (lv_at hl 1 rfl) ?_
      refine lv_aload_n hx hb dL_law_129 rfl (lv_at hl 0 rfl) ?_
      refine lv_iload hx hb dL_law_130 (lv_at hl 4 rfl) ?_
      refine lv_iconst (v := 1) hx hb dL_law_132 (by decide) ?_
      refine lv_iadd hx hb dL_law_133 ?_
      refine g_top (nI_add i 1) ?_
      refine va_sld hx hb hX hbl hbA X.2.2.2.2 (i := nI (i + 1)) (vp_in_nI (by omega) (by omega)) dL_law_134 ?_
      refine g_top (y := x1) ((congrArg xs (nI_clamp (by omega))).trans ex1.symm) ?_
      refine lv_aload_n hx hb dL_law_135 rfl (lv_at hl 3 rfl) ?_
      refine g_lawH (n := 3) (As := [.ref o, .int x1, .ref q]) C X (fun sz => xL_hire2 l D t cI cL o ad q sz f u (fun sz => xX0_hire2 l D t cI o ad sz u hl0 x1 (ld_ok1 a2) (ld_ok2 a2) a3)) (rwW_S q34 q35 q36 q37) kd_L_hire ⟨Nat.le_of_ble_eq_true rfl, Nat.le_of_ble_eq_true rfl⟩ hl.1 rfl rfl (Nat.le_of_ble_eq_true rfl) dL_law_136 ⟨(show kC + 1 ≤ 601024 by omega), (show nC + 6 ≤ 7293034 by omega)⟩ (fun r9 f9 u9 H locs hp X => ?_)
      obtain ⟨rfl, eu9⟩ := hp
      rw [eu9] at X
      refine lv_istore (lv' := [(5, .int 2), (0, .ref b), (1, .ref o), (2, .ref o2), (3, .ref q), (4, .int (nI i))]) hx hb dL_law_139 hl (by decide) rfl (fun ls hl => ?_)
      refine lv_aload_n hx hb dL_law_141 rfl (lv_at hl 3 rfl) ?_
      refine lv_aload_n hx hb dL_law_142 rfl (lv_at hl 1 rfl) ?_
      refine lv_iload hx hb dL_law_143 (lv_at hl 5 rfl) ?_
      refine lv_iconst (v := 1) hx hb dL_law_145 (by decide) ?_
      refine lv_iadd hx hb dL_law_146 ?_
      refine g_top (nI_add i 1) ?_
      refine va_sld hx hb hX hbl hbA X.2.2.2.2 (i := nI (i + 1)) (vp_in_nI (by omega) (by omega)) dL_law_147 ?_
      refine g_top (y := x1) ((congrArg xs (nI_clamp (by omega))).trans ex1.symm) ?_
      refine g_lawRie (n := 1) (As := [.int x1]) C X (bX1_hire2 l D t cI o2 H.size v x1 (ld_ok1 a2) (ld_ok3 a2) (by omega)) (rw_V q55 q56 q57 q5 q58) kd_X1_hire rfl ⟨Nat.le_of_ble_eq_true rfl, Nat.le_of_ble_eq_true rfl⟩ hl.1 rfl rfl (Nat.le_of_ble_eq_true rfl) dL_law_148 ⟨(show kC + 1 + 0 ≤ 601024 by omega), (show nC + 6 + 0 ≤ 7293034 by omega)⟩ (fun H locs X => ?_)
      refine lv_topi (fun b1 eb1 => ?_)
      refine lv_istore (lv' := [(6, .int b1), (5, .int 2), (0, .ref b), (1, .ref o), (2, .ref o2), (3, .ref q), (4, .int (nI i))]) hx hb dL_law_151 hl (by decide) rfl (fun ls hl => ?_)
      refine lv_goto (tgt := 751) hx hb dL_law_153 (by decide) ?_
      refine W.widen (k := kC + 20) (n := nC + 200) ((by omega)) ((by omega)) ?_
      exact kk _ _ _ _ _ _ X (T.E ra_E0 ⟨rfl, rfl, fun _ _ => ⟨rfl, rfl⟩⟩) (lv_sub hl [2, 3, 4, 5, 6] rfl)
    · refine lv_aload_n hx hb dL_law_128 rfl (lv_at hl 1 rfl) ?_
      refine lv_aload_n hx hb dL_law_129 rfl (lv_at hl 0 rfl) ?_
      refine lv_iload hx hb dL_law_130 (lv_at hl 4 rfl) ?_
      refine lv_iconst (v := 1) hx hb dL_law_132 (by decide) ?_
      refine lv_iadd hx hb dL_law_133 ?_
      refine g_top (nI_add i 1) ?_
      refine va_sld hx hb hX hbl hbA X.2.2.2.2 (i := nI (i + 1)) (vp_in_nI (by omega) (by omega)) dL_law_134 ?_
      refine g_top (y := x1) ((congrArg xs (nI_clamp (by omega))).trans ex1.symm) ?_
      refine lv_aload_n hx hb dL_law_135 rfl (lv_at hl 3 rfl) ?_
      refine g_lawH (n := 3) (As := [.ref o, .int x1, .ref q]) C X (fun sz => mL_hire l D t cI cL o ad q sz f u (fun sz => mX0_hire l D t cI o ad sz u x1 (ld_ok1 a2) (ld_ok2 a2) (by omega))) (rwW_S q34 q35 q36 q37) kd_L_hire ⟨Nat.le_of_ble_eq_true rfl, Nat.le_of_ble_eq_true rfl⟩ hl.1 rfl rfl (Nat.le_of_ble_eq_true rfl) dL_law_136 ⟨(show kC + 0 ≤ 601024 by omega), (show nC + 0 ≤ 7293034 by omega)⟩ (fun r9 f9 u9 H locs hp X => ?_)
      obtain ⟨rfl, eu9, hf⟩ := hp
      rw [eu9] at X
      refine lv_istore (lv' := [(5, .int 0), (0, .ref b), (1, .ref o), (2, .ref o2), (3, .ref q), (4, .int (nI i))]) hx hb dL_law_139 hl (by decide) rfl (fun ls hl => ?_)
      refine lv_aload_n hx hb dL_law_141 rfl (lv_at hl 3 rfl) ?_
      refine lv_aload_n hx hb dL_law_142 rfl (lv_at hl 1 rfl) ?_
      refine lv_iload hx hb dL_law_143 (lv_at hl 5 rfl) ?_
      refine lv_iconst (v := 1) hx hb dL_law_145 (by decide) ?_
      refine lv_iadd hx hb dL_law_146 ?_
      refine g_top (nI_add i 1) ?_
      refine va_sld hx hb hX hbl hbA X.2.2.2.2 (i := nI (i + 1)) (vp_in_nI (by omega) (by omega)) dL_law_147 ?_
      refine g_top (y := x1) ((congrArg xs (nI_clamp (by omega))).trans ex1.symm) ?_
      refine g_lawRie (n := 1) (As := [.int x1]) C X (oX1_hire l D t cI o2 H.size v x1 (ld_ok1 a2) (ld_ok3 a2) (by omega)) (rw_V q55 q56 q57 q5 q58) kd_X1_hire rfl ⟨Nat.le_of_ble_eq_true rfl, Nat.le_of_ble_eq_true rfl⟩ hl.1 rfl rfl (Nat.le_of_ble_eq_true rfl) dL_law_148 ⟨(show kC + 0 + 0 ≤ 601024 by omega), (show nC + 0 + 0 ≤ 7293034 by omega)⟩ (fun H locs X => ?_)
      refine lv_topi (fun b1 eb1 => ?_)
      refine lv_istore (lv' := [(6, .int b1), (5, .int 0), (0, .ref b), (1, .ref o), (2, .ref o2), (3, .ref q), (4, .int (nI i))]) hx hb dL_law_151 hl (by decide) rfl (fun ls hl => ?_)
      refine lv_goto (tgt := 751) hx hb dL_law_153 (by decide) ?_
      refine W.widen (k := kC + 20) (n := nC + 200) ((by omega)) ((by omega)) ?_
      exact kk _ _ _ _ _ _ X (T.hire (by omega)) (lv_sub hl [2, 3, 4, 5, 6] rfl)
set_option maxHeartbeats 4000000 in
set_option maxRecDepth 100000 in
theorem law_g1 {p : Program} {l : Launch} {e : Env} {s : State} {m : MethodId} {below : List Frame} {meth : Method} {c : Code} {Q : State → Prop} {D : va_G} {t : Nat → Nat} {A : Nat → Prop} {cI cL : ClassId} {o o2 q b L kC nC i : Nat} {ad : Nat → Nat} {xs : Nat → Int32} {u : S0} {v : S1} {f : Nat → Int64} {H : Heap} {locs : List Loc} {ls : Array Slot} (C : gC p s m #[.ref b] meth c code 9 RL D (lT cI cL) t A) (hl0 : l.stackTraces = false) (hX : va_X b L xs s s.heap) (hbl : b < s.heap.size) (hbA : ¬ A b) (hi : i + 4 ≤ L) (hL : L ≤ 2048) (X : lS D A s cI cL o ad u o2 v q f H locs) (T : lTie u v) (hl : lv_has ls 9 [(0, .ref b), (1, .ref o), (2, .ref o2), (3, .ref q), (4, .int (nI i))]) (hk9 : kC + 20 ≤ 601024) (hn9 : nC + 200 ≤ 7293034) (kk : ∀ (u : S0) (v : S1) (f : Nat → Int64) (H : Heap) (locs : List Loc) (ls : Array Slot), lS D A s cI cL o ad u o2 v q f H locs → lTie u v → lv_has ls 9 [(0, .ref b), (1, .ref o), (2, .ref o2), (3, .ref q), (4, .int (nI i))] → W p l e room_1 s m #[.ref b] below meth c H locs (kC + 20) (nC + 200) Q (F0 m 751 ls [])) : W p l e room_1 s m #[.ref b] below meth c H locs kC nC Q (F0 m 156 ls []) := by
  have hx := C.1
  have hb := C.2.1
  have hown := C.2.2.2.1
  have hts := C.2.2.2.2.1
  obtain ⟨ehv, hv8, e7, er, hp4⟩ := id T
  have hu8 : u.2.1 ≤ 8 := by omega
  obtain ⟨x1, ex1⟩ : ∃ z, z = xs (i + 1) := ⟨_, rfl⟩
  obtain ⟨x2, ex2⟩ : ∃ z, z = xs (i + 2) := ⟨_, rfl⟩
  rcases ld_cut 5 (by omega) x1 with ⟨k, hk, rfl⟩ | a1
  · by_cases a2 : x2 < rt_RX0_LEAST_RATE k ∨ ¬ x2 ≤ rt_RX0_MOST_RATE k
    · refine lv_aload_n hx hb dL_law_156 rfl (lv_at hl 1 rfl) ?_
      refine lv_aload_n hx hb dL_law_157 rfl (lv_at hl 0 rfl) ?_
      refine lv_iload hx hb dL_law_158 (lv_at hl 4 rfl) ?_
      refine lv_iconst (v := 1) hx hb dL_law_160 (by decide) ?_
      refine lv_iadd hx hb dL_law_161 ?_
      refine g_top (nI_add i 1) ?_
      refine va_sld hx hb hX hbl hbA X.2.2.2.2 (i := nI (i + 1)) (vp_in_nI (by omega) (by omega)) dL_law_162 ?_
      refine g_top (y := nI k) ((congrArg xs (nI_clamp (by omega))).trans ex1.symm) ?_
      refine lv_aload_n hx hb dL_law_163 rfl (lv_at hl 0 rfl) ?_
      refine lv_iload hx hb dL_law_164 (lv_at hl 4 rfl) ?_
      refine lv_iconst (v := 2) hx hb dL_law_166 (by decide) ?_
      refine lv_iadd hx hb dL_law_167 ?_
      refine g_top (nI_add i 2) ?_
      refine va_sld hx hb hX hbl hbA X.2.2.2.2 (i := nI (i + 2)) (vp_in_nI (by omega) (by omega)) dL_law_168 ?_
      refine g_top (y := x2) ((congrArg xs (nI_clamp (by omega))).trans ex2.symm) ?_
      refine lv_aload_n hx hb dL_law_169 rfl (lv_at hl 3 rfl) ?_
      refine g_lawH (n := 4) (As := [.ref o, .int (nI k), .int x2, .ref q]) C X (fun sz => xL_setRate2 l D t cI cL o ad q sz f u (fun sz => xX0_setRate2 l D t cI o ad sz u hl0 k hk x2 a2)) (rwW_S q72 q73 q36 q74) kd_L_setRate ⟨Nat.le_of_ble_eq_true rfl, Nat.le_of_ble_eq_true rfl⟩ hl.1 rfl rfl (Nat.le_of_ble_eq_true rfl) dL_law_170 ⟨(show kC + 1 ≤ 601024 by omega), (show nC + 6 ≤ 7293034 by omega)⟩ (fun r9 f9 u9 H locs hp X => ?_)
      obtain ⟨rfl, eu9⟩ := hp
      rw [eu9] at X
      refine lv_istore (lv' := [(5, .int 2), (0, .ref b), (1, .ref o), (2, .ref o2), (3, .ref q), (4, .int (nI i))]) hx hb dL_law_173 hl (by decide) rfl (fun ls hl => ?_)
      refine lv_aload_n hx hb dL_law_175 rfl (lv_at hl 3 rfl) ?_
      refine lv_aload_n hx hb dL_law_176 rfl (lv_at hl 1 rfl) ?_
      refine lv_iload hx hb dL_law_177 (lv_at hl 5 rfl) ?_
      refine lv_iconst (v := 1) hx hb dL_law_179 (by decide) ?_
      refine lv_iadd hx hb dL_law_180 ?_
      refine g_top (nI_add i 1) ?_
      refine va_sld hx hb hX hbl hbA X.2.2.2.2 (i := nI (i + 1)) (vp_in_nI (by omega) (by omega)) dL_law_181 ?_
      refine g_top (y := nI k) ((congrArg xs (nI_clamp (by omega))).trans ex1.symm) ?_
      refine lv_aload_n hx hb dL_law_182 rfl (lv_at hl 1 rfl) ?_
      refine lv_iload hx hb dL_law_183 (lv_at hl 5 rfl) ?_
      refine lv_iconst (v := 2) hx hb dL_law_185 (by decide) ?_
      refine lv_iadd hx hb dL_law_186 ?_
      refine g_top (nI_add i 2) ?_
      refine va_sld hx hb hX hbl hbA X.2.2.2.2 (i := nI (i + 2)) (vp_in_nI (by omega) (by omega)) dL_law_187 ?_
      refine g_top (y := x2) ((congrArg xs (nI_clamp (by omega))).trans ex2.symm) ?_
      refine g_lawRie (n := 2) (As := [.int (nI k), .int x2]) C X (bX1_setRate2 l D t cI o2 H.size v k hk x2 (ld_bad a2)) (rw_V q90 q91 q92 q5 q93) kd_X1_setRate rfl ⟨Nat.le_of_ble_eq_true rfl, Nat.le_of_ble_eq_true rfl⟩ hl.1 rfl rfl (Nat.le_of_ble_eq_true rfl) dL_law_188 ⟨(show kC + 1 + 0 ≤ 601024 by omega), (show nC + 6 + 0 ≤ 7293034 by omega)⟩ (fun H locs X => ?_)
      refine lv_topi (fun b1 eb1 => ?_)
      refine lv_istore (lv' := [(6, .int b1), (5, .int 2), (0, .ref b), (1, .ref o), (2, .ref o2), (3, .ref q), (4, .int (nI i))]) hx hb dL_law_191 hl (by decide) rfl (fun ls hl => ?_)
      refine lv_goto (tgt := 751) hx hb dL_law_193 (by decide) ?_
      refine W.widen (k := kC + 20) (n := nC + 200) ((by omega)) ((by omega)) ?_
      exact kk _ _ _ _ _ _ X (T.E ra_E0 ⟨rfl, rfl, fun _ _ => ⟨rfl, rfl⟩⟩) (lv_sub hl [2, 3, 4, 5, 6] rfl)
    · refine lv_aload_n hx hb dL_law_156 rfl (lv_at hl 1 rfl) ?_
      refine lv_aload_n hx hb dL_law_157 rfl (lv_at hl 0 rfl) ?_
      refine lv_iload hx hb dL_law_158 (lv_at hl 4 rfl) ?_
      refine lv_iconst (v := 1) hx hb dL_law_160 (by decide) ?_
      refine lv_iadd hx hb dL_law_161 ?_
      refine g_top (nI_add i 1) ?_
      refine va_sld hx hb hX hbl hbA X.2.2.2.2 (i := nI (i + 1)) (vp_in_nI (by omega) (by omega)) dL_law_162 ?_
      refine g_top (y := nI k) ((congrArg xs (nI_clamp (by omega))).trans ex1.symm) ?_
      refine lv_aload_n hx hb dL_law_163 rfl (lv_at hl 0 rfl) ?_
      refine lv_iload hx hb dL_law_164 (lv_at hl 4 rfl) ?_
      refine lv_iconst (v := 2) hx hb dL_law_166 (by decide) ?_
      refine lv_iadd hx hb dL_law_167 ?_
      refine g_top (nI_add i 2) ?_
      refine va_sld hx hb hX hbl hbA X.2.2.2.2 (i := nI (i + 2)) (vp_in_nI (by omega) (by omega)) dL_law_168 ?_
      refine g_top (y := x2) ((congrArg xs (nI_clamp (by omega))).trans ex2.symm) ?_
      refine lv_aload_n hx hb dL_law_169 rfl (lv_at hl 3 rfl) ?_
      refine g_lawH (n := 4) (As := [.ref o, .int (nI k), .int x2, .ref q]) C X (fun sz => mL_setRate l D t cI cL o ad q sz f u (fun sz => mX0_setRate l D t cI o ad sz u k hk x2 (ld_ok1 a2) (ld_ok2 a2))) (rwW_S q72 q73 q36 q74) kd_L_setRate ⟨Nat.le_of_ble_eq_true rfl, Nat.le_of_ble_eq_true rfl⟩ hl.1 rfl rfl (Nat.le_of_ble_eq_true rfl) dL_law_170 ⟨(show kC + 0 ≤ 601024 by omega), (show nC + 0 ≤ 7293034 by omega)⟩ (fun r9 f9 u9 H locs hp X => ?_)
      obtain ⟨rfl, eu9, hf⟩ := hp
      rw [eu9] at X
      refine lv_istore (lv' := [(5, .int 0), (0, .ref b), (1, .ref o), (2, .ref o2), (3, .ref q), (4, .int (nI i))]) hx hb dL_law_173 hl (by decide) rfl (fun ls hl => ?_)
      refine lv_aload_n hx hb dL_law_175 rfl (lv_at hl 3 rfl) ?_
      refine lv_aload_n hx hb dL_law_176 rfl (lv_at hl 1 rfl) ?_
      refine lv_iload hx hb dL_law_177 (lv_at hl 5 rfl) ?_
      refine lv_iconst (v := 1) hx hb dL_law_179 (by decide) ?_
      refine lv_iadd hx hb dL_law_180 ?_
      refine g_top (nI_add i 1) ?_
      refine va_sld hx hb hX hbl hbA X.2.2.2.2 (i := nI (i + 1)) (vp_in_nI (by omega) (by omega)) dL_law_181 ?_
      refine g_top (y := nI k) ((congrArg xs (nI_clamp (by omega))).trans ex1.symm) ?_
      refine lv_aload_n hx hb dL_law_182 rfl (lv_at hl 1 rfl) ?_
      refine lv_iload hx hb dL_law_183 (lv_at hl 5 rfl) ?_
      refine lv_iconst (v := 2) hx hb dL_law_185 (by decide) ?_
      refine lv_iadd hx hb dL_law_186 ?_
      refine g_top (nI_add i 2) ?_
      refine va_sld hx hb hX hbl hbA X.2.2.2.2 (i := nI (i + 2)) (vp_in_nI (by omega) (by omega)) dL_law_187 ?_
      refine g_top (y := x2) ((congrArg xs (nI_clamp (by omega))).trans ex2.symm) ?_
      refine g_lawRie (n := 2) (As := [.int (nI k), .int x2]) C X (oX1_setRate l D t cI o2 H.size v k hk x2 (ld_ok1 a2) (ld_ok3 a2)) (rw_V q90 q91 q92 q5 q93) kd_X1_setRate rfl ⟨Nat.le_of_ble_eq_true rfl, Nat.le_of_ble_eq_true rfl⟩ hl.1 rfl rfl (Nat.le_of_ble_eq_true rfl) dL_law_188 ⟨(show kC + 0 + 0 ≤ 601024 by omega), (show nC + 0 + 0 ≤ 7293034 by omega)⟩ (fun H locs X => ?_)
      refine lv_topi (fun b1 eb1 => ?_)
      refine lv_istore (lv' := [(6, .int b1), (5, .int 0), (0, .ref b), (1, .ref o), (2, .ref o2), (3, .ref q), (4, .int (nI i))]) hx hb dL_law_191 hl (by decide) rfl (fun ls hl => ?_)
      refine lv_goto (tgt := 751) hx hb dL_law_193 (by decide) ?_
      refine W.widen (k := kC + 20) (n := nC + 200) ((by omega)) ((by omega)) ?_
      exact kk _ _ _ _ _ _ X (T.rate (ld_rate0 (ld_ok1 a2))) (lv_sub hl [2, 3, 4, 5, 6] rfl)
  · refine lv_aload_n hx hb dL_law_156 rfl (lv_at hl 1 rfl) ?_
    refine lv_aload_n hx hb dL_law_157 rfl (lv_at hl 0 rfl) ?_
    refine lv_iload hx hb dL_law_158 (lv_at hl 4 rfl) ?_
    refine lv_iconst (v := 1) hx hb dL_law_160 (by decide) ?_
    refine lv_iadd hx hb dL_law_161 ?_
    refine g_top (nI_add i 1) ?_
    refine va_sld hx hb hX hbl hbA X.2.2.2.2 (i := nI (i + 1)) (vp_in_nI (by omega) (by omega)) dL_law_162 ?_
    refine g_top (y := x1) ((congrArg xs (nI_clamp (by omega))).trans ex1.symm) ?_
    refine lv_aload_n hx hb dL_law_163 rfl (lv_at hl 0 rfl) ?_
    refine lv_iload hx hb dL_law_164 (lv_at hl 4 rfl) ?_
    refine lv_iconst (v := 2) hx hb dL_law_166 (by decide) ?_
    refine lv_iadd hx hb dL_law_167 ?_
    refine g_top (nI_add i 2) ?_
    refine va_sld hx hb hX hbl hbA X.2.2.2.2 (i := nI (i + 2)) (vp_in_nI (by omega) (by omega)) dL_law_168 ?_
    refine g_top (y := x2) ((congrArg xs (nI_clamp (by omega))).trans ex2.symm) ?_
    refine lv_aload_n hx hb dL_law_169 rfl (lv_at hl 3 rfl) ?_
    refine g_lawH (n := 4) (As := [.ref o, .int x1, .int x2, .ref q]) C X (fun sz => xL_setRate1 l D t cI cL o ad q sz f u (fun sz => xX0_setRate1 l D t cI o ad sz u hl0 x1 x2 a1)) (rwW_S q72 q73 q36 q74) kd_L_setRate ⟨Nat.le_of_ble_eq_true rfl, Nat.le_of_ble_eq_true rfl⟩ hl.1 rfl rfl (Nat.le_of_ble_eq_true rfl) dL_law_170 ⟨(show kC + 1 ≤ 601024 by omega), (show nC + 6 ≤ 7293034 by omega)⟩ (fun r9 f9 u9 H locs hp X => ?_)
    obtain ⟨rfl, eu9⟩ := hp
    rw [eu9] at X
    refine lv_istore (lv' := [(5, .int 1), (0, .ref b), (1, .ref o), (2, .ref o2), (3, .ref q), (4, .int (nI i))]) hx hb dL_law_173 hl (by decide) rfl (fun ls hl => ?_)
    refine lv_aload_n hx hb dL_law_175 rfl (lv_at hl 3 rfl) ?_
    refine lv_aload_n hx hb dL_law_176 rfl (lv_at hl 1 rfl) ?_
    refine lv_iload hx hb dL_law_177 (lv_at hl 5 rfl) ?_
    refine lv_iconst (v := 1) hx hb dL_law_179 (by decide) ?_
    refine lv_iadd hx hb dL_law_180 ?_
    refine g_top (nI_add i 1) ?_
    refine va_sld hx hb hX hbl hbA X.2.2.2.2 (i := nI (i + 1)) (vp_in_nI (by omega) (by omega)) dL_law_181 ?_
    refine g_top (y := x1) ((congrArg xs (nI_clamp (by omega))).trans ex1.symm) ?_
    refine lv_aload_n hx hb dL_law_182 rfl (lv_at hl 1 rfl) ?_
    refine lv_iload hx hb dL_law_183 (lv_at hl 5 rfl) ?_
    refine lv_iconst (v := 2) hx hb dL_law_185 (by decide) ?_
    refine lv_iadd hx hb dL_law_186 ?_
    refine g_top (nI_add i 2) ?_
    refine va_sld hx hb hX hbl hbA X.2.2.2.2 (i := nI (i + 2)) (vp_in_nI (by omega) (by omega)) dL_law_187 ?_
    refine g_top (y := x2) ((congrArg xs (nI_clamp (by omega))).trans ex2.symm) ?_
    refine g_lawRie (n := 2) (As := [.int x1, .int x2]) C X (bX1_setRate1 l D t cI o2 H.size v x1 x2 a1) (rw_V q90 q91 q92 q5 q93) kd_X1_setRate rfl ⟨Nat.le_of_ble_eq_true rfl, Nat.le_of_ble_eq_true rfl⟩ hl.1 rfl rfl (Nat.le_of_ble_eq_true rfl) dL_law_188 ⟨(show kC + 1 + 0 ≤ 601024 by omega), (show nC + 6 + 0 ≤ 7293034 by omega)⟩ (fun H locs X => ?_)
    refine lv_topi (fun b1 eb1 => ?_)
    refine lv_istore (lv' := [(6, .int b1), (5, .int 1), (0, .ref b), (1, .ref o), (2, .ref o2), (3, .ref q), (4, .int (nI i))]) hx hb dL_law_191 hl (by decide) rfl (fun ls hl => ?_)
    refine lv_goto (tgt := 751) hx hb dL_law_193 (by decide) ?_
    refine W.widen (k := kC + 20) (n := nC + 200) ((by omega)) ((by omega)) ?_
    exact kk _ _ _ _ _ _ X (T.E ra_E0 ⟨rfl, rfl, fun _ _ => ⟨rfl, rfl⟩⟩) (lv_sub hl [2, 3, 4, 5, 6] rfl)
set_option maxHeartbeats 4000000 in
set_option maxRecDepth 100000 in
theorem law_g2 {p : Program} {l : Launch} {e : Env} {s : State} {m : MethodId} {below : List Frame} {meth : Method} {c : Code} {Q : State → Prop} {D : va_G} {t : Nat → Nat} {A : Nat → Prop} {cI cL : ClassId} {o o2 q b L kC nC i : Nat} {ad : Nat → Nat} {xs : Nat → Int32} {u : S0} {v : S1} {f : Nat → Int64} {H : Heap} {locs : List Loc} {ls : Array Slot} (C : gC p s m #[.ref b] meth c code 9 RL D (lT cI cL) t A) (hl0 : l.stackTraces = false) (hX : va_X b L xs s s.heap) (hbl : b < s.heap.size) (hbA : ¬ A b) (hi : i + 4 ≤ L) (hL : L ≤ 2048) (X : lS D A s cI cL o ad u o2 v q f H locs) (T : lTie u v) (hl : lv_has ls 9 [(0, .ref b), (1, .ref o), (2, .ref o2), (3, .ref q), (4, .int (nI i))]) (hk9 : kC + 20 ≤ 601024) (hn9 : nC + 200 ≤ 7293034) (kk : ∀ (u : S0) (v : S1) (f : Nat → Int64) (H : Heap) (locs : List Loc) (ls : Array Slot), lS D A s cI cL o ad u o2 v q f H locs → lTie u v → lv_has ls 9 [(0, .ref b), (1, .ref o), (2, .ref o2), (3, .ref q), (4, .int (nI i))] → W p l e room_1 s m #[.ref b] below meth c H locs (kC + 20) (nC + 200) Q (F0 m 751 ls [])) : W p l e room_1 s m #[.ref b] below meth c H locs kC nC Q (F0 m 196 ls []) := by
  have hx := C.1
  have hb := C.2.1
  have hown := C.2.2.2.1
  have hts := C.2.2.2.2.1
  obtain ⟨ehv, hv8, e7, er, hp4⟩ := id T
  have hu8 : u.2.1 ≤ 8 := by omega
  obtain ⟨x1, ex1⟩ : ∃ z, z = xs (i + 1) := ⟨_, rfl⟩
  obtain ⟨x2, ex2⟩ : ∃ z, z = xs (i + 2) := ⟨_, rfl⟩
  rcases ld_cut 3 (by omega) x1 with ⟨k, hk, rfl⟩ | a1
  · by_cases a2 : x2 < 1 ∨ ¬ x2 ≤ 500
    · refine lv_aload_n hx hb dL_law_196 rfl (lv_at hl 1 rfl) ?_
      refine lv_aload_n hx hb dL_law_197 rfl (lv_at hl 0 rfl) ?_
      refine lv_iload hx hb dL_law_198 (lv_at hl 4 rfl) ?_
      refine lv_iconst (v := 1) hx hb dL_law_200 (by decide) ?_
      refine lv_iadd hx hb dL_law_201 ?_
      refine g_top (nI_add i 1) ?_
      refine va_sld hx hb hX hbl hbA X.2.2.2.2 (i := nI (i + 1)) (vp_in_nI (by omega) (by omega)) dL_law_202 ?_
      refine g_top (y := nI k) ((congrArg xs (nI_clamp (by omega))).trans ex1.symm) ?_
      refine lv_aload_n hx hb dL_law_203 rfl (lv_at hl 0 rfl) ?_
      refine lv_iload hx hb dL_law_204 (lv_at hl 4 rfl) ?_
      refine lv_iconst (v := 2) hx hb dL_law_206 (by decide) ?_
      refine lv_iadd hx hb dL_law_207 ?_
      refine g_top (nI_add i 2) ?_
      refine va_sld hx hb hX hbl hbA X.2.2.2.2 (i := nI (i + 2)) (vp_in_nI (by omega) (by omega)) dL_law_208 ?_
      refine g_top (y := x2) ((congrArg xs (nI_clamp (by omega))).trans ex2.symm) ?_
      refine lv_aload_n hx hb dL_law_209 rfl (lv_at hl 3 rfl) ?_
      refine g_lawH (n := 4) (As := [.ref o, .int (nI k), .int x2, .ref q]) C X (fun sz => xL_fill2 l D t cI cL o ad q sz f u (fun sz => xX0_fill2 l D t cI o ad sz u hl0 k hk x2 a2)) (rwW_S q99 q100 q36 q101) kd_L_fill ⟨Nat.le_of_ble_eq_true rfl, Nat.le_of_ble_eq_true rfl⟩ hl.1 rfl rfl (Nat.le_of_ble_eq_true rfl) dL_law_210 ⟨(show kC + 1 ≤ 601024 by omega), (show nC + 6 ≤ 7293034 by omega)⟩ (fun r9 f9 u9 H locs hp X => ?_)
      obtain ⟨rfl, eu9⟩ := hp
      rw [eu9] at X
      refine lv_istore (lv' := [(5, .int 2), (0, .ref b), (1, .ref o), (2, .ref o2), (3, .ref q), (4, .int (nI i))]) hx hb dL_law_213 hl (by decide) rfl (fun ls hl => ?_)
      refine lv_aload_n hx hb dL_law_215 rfl (lv_at hl 3 rfl) ?_
      refine lv_aload_n hx hb dL_law_216 rfl (lv_at hl 1 rfl) ?_
      refine lv_iload hx hb dL_law_217 (lv_at hl 5 rfl) ?_
      refine lv_iconst (v := 1) hx hb dL_law_219 (by decide) ?_
      refine lv_iadd hx hb dL_law_220 ?_
      refine g_top (nI_add i 1) ?_
      refine va_sld hx hb hX hbl hbA X.2.2.2.2 (i := nI (i + 1)) (vp_in_nI (by omega) (by omega)) dL_law_221 ?_
      refine g_top (y := nI k) ((congrArg xs (nI_clamp (by omega))).trans ex1.symm) ?_
      refine lv_aload_n hx hb dL_law_222 rfl (lv_at hl 1 rfl) ?_
      refine lv_iload hx hb dL_law_223 (lv_at hl 5 rfl) ?_
      refine lv_iconst (v := 2) hx hb dL_law_225 (by decide) ?_
      refine lv_iadd hx hb dL_law_226 ?_
      refine g_top (nI_add i 2) ?_
      refine va_sld hx hb hX hbl hbA X.2.2.2.2 (i := nI (i + 2)) (vp_in_nI (by omega) (by omega)) dL_law_227 ?_
      refine g_top (y := x2) ((congrArg xs (nI_clamp (by omega))).trans ex2.symm) ?_
      refine g_lawRie (n := 2) (As := [.int (nI k), .int x2]) C X (bX1_fill2 l D t cI o2 H.size v k hk x2 (ld_bad a2)) (rw_V q106 q107 q108 q5 q109) kd_X1_fill rfl ⟨Nat.le_of_ble_eq_true rfl, Nat.le_of_ble_eq_true rfl⟩ hl.1 rfl rfl (Nat.le_of_ble_eq_true rfl) dL_law_228 ⟨(show kC + 1 + 0 ≤ 601024 by omega), (show nC + 6 + 0 ≤ 7293034 by omega)⟩ (fun H locs X => ?_)
      refine lv_topi (fun b1 eb1 => ?_)
      refine lv_istore (lv' := [(6, .int b1), (5, .int 2), (0, .ref b), (1, .ref o), (2, .ref o2), (3, .ref q), (4, .int (nI i))]) hx hb dL_law_231 hl (by decide) rfl (fun ls hl => ?_)
      refine lv_goto (tgt := 751) hx hb dL_law_233 (by decide) ?_
      refine W.widen (k := kC + 20) (n := nC + 200) ((by omega)) ((by omega)) ?_
      exact kk _ _ _ _ _ _ X (T.E ra_E0 ⟨rfl, rfl, fun _ _ => ⟨rfl, rfl⟩⟩) (lv_sub hl [2, 3, 4, 5, 6] rfl)
    · refine lv_aload_n hx hb dL_law_196 rfl (lv_at hl 1 rfl) ?_
      refine lv_aload_n hx hb dL_law_197 rfl (lv_at hl 0 rfl) ?_
      refine lv_iload hx hb dL_law_198 (lv_at hl 4 rfl) ?_
      refine lv_iconst (v := 1) hx hb dL_law_200 (by decide) ?_
      refine lv_iadd hx hb dL_law_201 ?_
      refine g_top (nI_add i 1) ?_
      refine va_sld hx hb hX hbl hbA X.2.2.2.2 (i := nI (i + 1)) (vp_in_nI (by omega) (by omega)) dL_law_202 ?_
      refine g_top (y := nI k) ((congrArg xs (nI_clamp (by omega))).trans ex1.symm) ?_
      refine lv_aload_n hx hb dL_law_203 rfl (lv_at hl 0 rfl) ?_
      refine lv_iload hx hb dL_law_204 (lv_at hl 4 rfl) ?_
      refine lv_iconst (v := 2) hx hb dL_law_206 (by decide) ?_
      refine lv_iadd hx hb dL_law_207 ?_
      refine g_top (nI_add i 2) ?_
      refine va_sld hx hb hX hbl hbA X.2.2.2.2 (i := nI (i + 2)) (vp_in_nI (by omega) (by omega)) dL_law_208 ?_
      refine g_top (y := x2) ((congrArg xs (nI_clamp (by omega))).trans ex2.symm) ?_
      refine lv_aload_n hx hb dL_law_209 rfl (lv_at hl 3 rfl) ?_
      refine g_lawH (n := 4) (As := [.ref o, .int (nI k), .int x2, .ref q]) C X (fun sz => mL_fill l D t cI cL o ad q sz f u (fun sz => mX0_fill l D t cI o ad sz u k hk x2 (ld_ok1 a2) (ld_ok2 a2))) (rwW_S q99 q100 q36 q101) kd_L_fill ⟨Nat.le_of_ble_eq_true rfl, Nat.le_of_ble_eq_true rfl⟩ hl.1 rfl rfl (Nat.le_of_ble_eq_true rfl) dL_law_210 ⟨(show kC + 0 ≤ 601024 by omega), (show nC + 0 ≤ 7293034 by omega)⟩ (fun r9 f9 u9 H locs hp X => ?_)
      obtain ⟨rfl, eu9, hf⟩ := hp
      rw [eu9] at X
      refine lv_istore (lv' := [(5, .int 0), (0, .ref b), (1, .ref o), (2, .ref o2), (3, .ref q), (4, .int (nI i))]) hx hb dL_law_213 hl (by decide) rfl (fun ls hl => ?_)
      refine lv_aload_n hx hb dL_law_215 rfl (lv_at hl 3 rfl) ?_
      refine lv_aload_n hx hb dL_law_216 rfl (lv_at hl 1 rfl) ?_
      refine lv_iload hx hb dL_law_217 (lv_at hl 5 rfl) ?_
      refine lv_iconst (v := 1) hx hb dL_law_219 (by decide) ?_
      refine lv_iadd hx hb dL_law_220 ?_
      refine g_top (nI_add i 1) ?_
      refine va_sld hx hb hX hbl hbA X.2.2.2.2 (i := nI (i + 1)) (vp_in_nI (by omega) (by omega)) dL_law_221 ?_
      refine g_top (y := nI k) ((congrArg xs (nI_clamp (by omega))).trans ex1.symm) ?_
      refine lv_aload_n hx hb dL_law_222 rfl (lv_at hl 1 rfl) ?_
      refine lv_iload hx hb dL_law_223 (lv_at hl 5 rfl) ?_
      refine lv_iconst (v := 2) hx hb dL_law_225 (by decide) ?_
      refine lv_iadd hx hb dL_law_226 ?_
      refine g_top (nI_add i 2) ?_
      refine va_sld hx hb hX hbl hbA X.2.2.2.2 (i := nI (i + 2)) (vp_in_nI (by omega) (by omega)) dL_law_227 ?_
      refine g_top (y := x2) ((congrArg xs (nI_clamp (by omega))).trans ex2.symm) ?_
      refine g_lawRie (n := 2) (As := [.int (nI k), .int x2]) C X (oX1_fill l D t cI o2 H.size v k hk x2 (ld_ok1 a2) (ld_ok3 a2)) (rw_V q106 q107 q108 q5 q109) kd_X1_fill rfl ⟨Nat.le_of_ble_eq_true rfl, Nat.le_of_ble_eq_true rfl⟩ hl.1 rfl rfl (Nat.le_of_ble_eq_true rfl) dL_law_228 ⟨(show kC + 0 + 0 ≤ 601024 by omega), (show nC + 0 + 0 ≤ 7293034 by omega)⟩ (fun H locs X => ?_)
      refine lv_topi (fun b1 eb1 => ?_)
      refine lv_istore (lv' := [(6, .int b1), (5, .int 0), (0, .ref b), (1, .ref o), (2, .ref o2), (3, .ref q), (4, .int (nI i))]) hx hb dL_law_231 hl (by decide) rfl (fun ls hl => ?_)
      refine lv_goto (tgt := 751) hx hb dL_law_233 (by decide) ?_
      refine W.widen (k := kC + 20) (n := nC + 200) ((by omega)) ((by omega)) ?_
      exact kk _ _ _ _ _ _ X (T.E (ra_Es (by decide)) ⟨rfl, rfl, fun _ _ => ⟨rfl, rfl⟩⟩) (lv_sub hl [2, 3, 4, 5, 6] rfl)
  · refine lv_aload_n hx hb dL_law_196 rfl (lv_at hl 1 rfl) ?_
    refine lv_aload_n hx hb dL_law_197 rfl (lv_at hl 0 rfl) ?_
    refine lv_iload hx hb dL_law_198 (lv_at hl 4 rfl) ?_
    refine lv_iconst (v := 1) hx hb dL_law_200 (by decide) ?_
    refine lv_iadd hx hb dL_law_201 ?_
    refine g_top (nI_add i 1) ?_
    refine va_sld hx hb hX hbl hbA X.2.2.2.2 (i := nI (i + 1)) (vp_in_nI (by omega) (by omega)) dL_law_202 ?_
    refine g_top (y := x1) ((congrArg xs (nI_clamp (by omega))).trans ex1.symm) ?_
    refine lv_aload_n hx hb dL_law_203 rfl (lv_at hl 0 rfl) ?_
    refine lv_iload hx hb dL_law_204 (lv_at hl 4 rfl) ?_
    refine lv_iconst (v := 2) hx hb dL_law_206 (by decide) ?_
    refine lv_iadd hx hb dL_law_207 ?_
    refine g_top (nI_add i 2) ?_
    refine va_sld hx hb hX hbl hbA X.2.2.2.2 (i := nI (i + 2)) (vp_in_nI (by omega) (by omega)) dL_law_208 ?_
    refine g_top (y := x2) ((congrArg xs (nI_clamp (by omega))).trans ex2.symm) ?_
    refine lv_aload_n hx hb dL_law_209 rfl (lv_at hl 3 rfl) ?_
    refine g_lawH (n := 4) (As := [.ref o, .int x1, .int x2, .ref q]) C X (fun sz => xL_fill1 l D t cI cL o ad q sz f u (fun sz => xX0_fill1 l D t cI o ad sz u hl0 x1 x2 a1)) (rwW_S q99 q100 q36 q101) kd_L_fill ⟨Nat.le_of_ble_eq_true rfl, Nat.le_of_ble_eq_true rfl⟩ hl.1 rfl rfl (Nat.le_of_ble_eq_true rfl) dL_law_210 ⟨(show kC + 1 ≤ 601024 by omega), (show nC + 6 ≤ 7293034 by omega)⟩ (fun r9 f9 u9 H locs hp X => ?_)
    obtain ⟨rfl, eu9⟩ := hp
    rw [eu9] at X
    refine lv_istore (lv' := [(5, .int 1), (0, .ref b), (1, .ref o), (2, .ref o2), (3, .ref q), (4, .int (nI i))]) hx hb dL_law_213 hl (by decide) rfl (fun ls hl => ?_)
    refine lv_aload_n hx hb dL_law_215 rfl (lv_at hl 3 rfl) ?_
    refine lv_aload_n hx hb dL_law_216 rfl (lv_at hl 1 rfl) ?_
    refine lv_iload hx hb dL_law_217 (lv_at hl 5 rfl) ?_
    refine lv_iconst (v := 1) hx hb dL_law_219 (by decide) ?_
    refine lv_iadd hx hb dL_law_220 ?_
    refine g_top (nI_add i 1) ?_
    refine va_sld hx hb hX hbl hbA X.2.2.2.2 (i := nI (i + 1)) (vp_in_nI (by omega) (by omega)) dL_law_221 ?_
    refine g_top (y := x1) ((congrArg xs (nI_clamp (by omega))).trans ex1.symm) ?_
    refine lv_aload_n hx hb dL_law_222 rfl (lv_at hl 1 rfl) ?_
    refine lv_iload hx hb dL_law_223 (lv_at hl 5 rfl) ?_
    refine lv_iconst (v := 2) hx hb dL_law_225 (by decide) ?_
    refine lv_iadd hx hb dL_law_226 ?_
    refine g_top (nI_add i 2) ?_
    refine va_sld hx hb hX hbl hbA X.2.2.2.2 (i := nI (i + 2)) (vp_in_nI (by omega) (by omega)) dL_law_227 ?_
    refine g_top (y := x2) ((congrArg xs (nI_clamp (by omega))).trans ex2.symm) ?_
    refine g_lawRie (n := 2) (As := [.int x1, .int x2]) C X (bX1_fill1 l D t cI o2 H.size v x1 x2 a1) (rw_V q106 q107 q108 q5 q109) kd_X1_fill rfl ⟨Nat.le_of_ble_eq_true rfl, Nat.le_of_ble_eq_true rfl⟩ hl.1 rfl rfl (Nat.le_of_ble_eq_true rfl) dL_law_228 ⟨(show kC + 1 + 0 ≤ 601024 by omega), (show nC + 6 + 0 ≤ 7293034 by omega)⟩ (fun H locs X => ?_)
    refine lv_topi (fun b1 eb1 => ?_)
    refine lv_istore (lv' := [(6, .int b1), (5, .int 1), (0, .ref b), (1, .ref o), (2, .ref o2), (3, .ref q), (4, .int (nI i))]) hx hb dL_law_231 hl (by decide) rfl (fun ls hl => ?_)
    refine lv_goto (tgt := 751) hx hb dL_law_233 (by decide) ?_
    refine W.widen (k := kC + 20) (n := nC + 200) ((by omega)) ((by omega)) ?_
    exact kk _ _ _ _ _ _ X (T.E ra_E0 ⟨rfl, rfl, fun _ _ => ⟨rfl, rfl⟩⟩) (lv_sub hl [2, 3, 4, 5, 6] rfl)
set_option maxHeartbeats 4000000 in
set_option maxRecDepth 100000 in
theorem law_g3 {p : Program} {l : Launch} {e : Env} {s : State} {m : MethodId} {below : List Frame} {meth : Method} {c : Code} {Q : State → Prop} {D : va_G} {t : Nat → Nat} {A : Nat → Prop} {cI cL : ClassId} {o o2 q b L kC nC i : Nat} {ad : Nat → Nat} {xs : Nat → Int32} {u : S0} {v : S1} {f : Nat → Int64} {H : Heap} {locs : List Loc} {ls : Array Slot} (C : gC p s m #[.ref b] meth c code 9 RL D (lT cI cL) t A) (hl0 : l.stackTraces = false) (hX : va_X b L xs s s.heap) (hbl : b < s.heap.size) (hbA : ¬ A b) (hi : i + 4 ≤ L) (hL : L ≤ 2048) (X : lS D A s cI cL o ad u o2 v q f H locs) (T : lTie u v) (hl : lv_has ls 9 [(0, .ref b), (1, .ref o), (2, .ref o2), (3, .ref q), (4, .int (nI i))]) (hk9 : kC + 20 ≤ 601024) (hn9 : nC + 200 ≤ 7293034) (kk : ∀ (u : S0) (v : S1) (f : Nat → Int64) (H : Heap) (locs : List Loc) (ls : Array Slot), lS D A s cI cL o ad u o2 v q f H locs → lTie u v → lv_has ls 9 [(0, .ref b), (1, .ref o), (2, .ref o2), (3, .ref q), (4, .int (nI i))] → W p l e room_1 s m #[.ref b] below meth c H locs (kC + 20) (nC + 200) Q (F0 m 751 ls [])) : W p l e room_1 s m #[.ref b] below meth c H locs kC nC Q (F0 m 236 ls []) := by
  have hx := C.1
  have hb := C.2.1
  have hown := C.2.2.2.1
  have hts := C.2.2.2.2.1
  obtain ⟨ehv, hv8, e7, er, hp4⟩ := id T
  have hu8 : u.2.1 ≤ 8 := by omega
  obtain ⟨x1, ex1⟩ : ∃ z, z = xs (i + 1) := ⟨_, rfl⟩
  obtain ⟨x2, ex2⟩ : ∃ z, z = xs (i + 2) := ⟨_, rfl⟩
  rcases ld_cut u.2.1 (by omega) x1 with ⟨r, hr, rfl⟩ | a1
  · by_cases a2 : x2 < 1 ∨ ¬ x2 ≤ 999
    · refine lv_aload_n hx hb dL_law_236 rfl (lv_at hl 1 rfl) ?_
      refine lv_aload_n hx hb dL_law_237 rfl (lv_at hl 0 rfl) ?_
      refine lv_iload hx hb dL_law_238 (lv_at hl 4 rfl) ?_
      refine lv_iconst (v := 1) hx hb dL_law_240 (by decide) ?_
      refine lv_iadd hx hb dL_law_241 ?_
      refine g_top (nI_add i 1) ?_
      refine va_sld hx hb hX hbl hbA X.2.2.2.2 (i := nI (i + 1)) (vp_in_nI (by omega) (by omega)) dL_law_242 ?_
      refine g_top (y := nI r) ((congrArg xs (nI_clamp (by omega))).trans ex1.symm) ?_
      refine lv_aload_n hx hb dL_law_243 rfl (lv_at hl 0 rfl) ?_
      refine lv_iload hx hb dL_law_244 (lv_at hl 4 rfl) ?_
      refine lv_iconst (v := 2) hx hb dL_law_246 (by decide) ?_
      refine lv_iadd hx hb dL_law_247 ?_
      refine g_top (nI_add i 2) ?_
      refine va_sld hx hb hX hbl hbA X.2.2.2.2 (i := nI (i + 2)) (vp_in_nI (by omega) (by omega)) dL_law_248 ?_
      refine g_top (y := x2) ((congrArg xs (nI_clamp (by omega))).trans ex2.symm) ?_
      refine lv_aload_n hx hb dL_law_249 rfl (lv_at hl 3 rfl) ?_
      refine g_lawH (n := 4) (As := [.ref o, .int (nI r), .int x2, .ref q]) C X (fun sz => xL_bind2 l D t cI cL o ad q sz f u (fun sz => xX0_bind2 l D t cI o ad sz u hl0 hu8 r hr x2 a2)) (rwW_S q113 q114 q36 q115) kd_L_bind ⟨Nat.le_of_ble_eq_true rfl, Nat.le_of_ble_eq_true rfl⟩ hl.1 rfl rfl (Nat.le_of_ble_eq_true rfl) dL_law_250 ⟨(show kC + 1 ≤ 601024 by omega), (show nC + 6 ≤ 7293034 by omega)⟩ (fun r9 f9 u9 H locs hp X => ?_)
      obtain ⟨rfl, eu9⟩ := hp
      rw [eu9] at X
      refine lv_istore (lv' := [(5, .int 2), (0, .ref b), (1, .ref o), (2, .ref o2), (3, .ref q), (4, .int (nI i))]) hx hb dL_law_253 hl (by decide) rfl (fun ls hl => ?_)
      refine lv_aload_n hx hb dL_law_255 rfl (lv_at hl 3 rfl) ?_
      refine lv_aload_n hx hb dL_law_256 rfl (lv_at hl 1 rfl) ?_
      refine lv_iload hx hb dL_law_257 (lv_at hl 5 rfl) ?_
      refine lv_iconst (v := 1) hx hb dL_law_259 (by decide) ?_
      refine lv_iadd hx hb dL_law_260 ?_
      refine g_top (nI_add i 1) ?_
      refine va_sld hx hb hX hbl hbA X.2.2.2.2 (i := nI (i + 1)) (vp_in_nI (by omega) (by omega)) dL_law_261 ?_
      refine g_top (y := nI r) ((congrArg xs (nI_clamp (by omega))).trans ex1.symm) ?_
      refine lv_aload_n hx hb dL_law_262 rfl (lv_at hl 1 rfl) ?_
      refine lv_iload hx hb dL_law_263 (lv_at hl 5 rfl) ?_
      refine lv_iconst (v := 2) hx hb dL_law_265 (by decide) ?_
      refine lv_iadd hx hb dL_law_266 ?_
      refine g_top (nI_add i 2) ?_
      refine va_sld hx hb hX hbl hbA X.2.2.2.2 (i := nI (i + 2)) (vp_in_nI (by omega) (by omega)) dL_law_267 ?_
      refine g_top (y := x2) ((congrArg xs (nI_clamp (by omega))).trans ex2.symm) ?_
      refine g_lawRie (n := 2) (As := [.int (nI r), .int x2]) C X (bX1_bind2 l D t cI o2 H.size v hv8 r (show r < v.2.1 by omega) x2 (ld_bad a2)) (rw_V q120 q121 q122 q5 q123) kd_X1_bind rfl ⟨Nat.le_of_ble_eq_true rfl, Nat.le_of_ble_eq_true rfl⟩ hl.1 rfl rfl (Nat.le_of_ble_eq_true rfl) dL_law_268 ⟨(show kC + 1 + 0 ≤ 601024 by omega), (show nC + 6 + 0 ≤ 7293034 by omega)⟩ (fun H locs X => ?_)
      refine lv_topi (fun b1 eb1 => ?_)
      refine lv_istore (lv' := [(6, .int b1), (5, .int 2), (0, .ref b), (1, .ref o), (2, .ref o2), (3, .ref q), (4, .int (nI i))]) hx hb dL_law_271 hl (by decide) rfl (fun ls hl => ?_)
      refine lv_goto (tgt := 751) hx hb dL_law_273 (by decide) ?_
      refine W.widen (k := kC + 20) (n := nC + 200) ((by omega)) ((by omega)) ?_
      exact kk _ _ _ _ _ _ X (T.E ra_E0 ⟨rfl, rfl, fun _ _ => ⟨rfl, rfl⟩⟩) (lv_sub hl [2, 3, 4, 5, 6] rfl)
    · refine lv_aload_n hx hb dL_law_236 rfl (lv_at hl 1 rfl) ?_
      refine lv_aload_n hx hb dL_law_237 rfl (lv_at hl 0 rfl) ?_
      refine lv_iload hx hb dL_law_238 (lv_at hl 4 rfl) ?_
      refine lv_iconst (v := 1) hx hb dL_law_240 (by decide) ?_
      refine lv_iadd hx hb dL_law_241 ?_
      refine g_top (nI_add i 1) ?_
      refine va_sld hx hb hX hbl hbA X.2.2.2.2 (i := nI (i + 1)) (vp_in_nI (by omega) (by omega)) dL_law_242 ?_
      refine g_top (y := nI r) ((congrArg xs (nI_clamp (by omega))).trans ex1.symm) ?_
      refine lv_aload_n hx hb dL_law_243 rfl (lv_at hl 0 rfl) ?_
      refine lv_iload hx hb dL_law_244 (lv_at hl 4 rfl) ?_
      refine lv_iconst (v := 2) hx hb dL_law_246 (by decide) ?_
      refine lv_iadd hx hb dL_law_247 ?_
      refine g_top (nI_add i 2) ?_
      refine va_sld hx hb hX hbl hbA X.2.2.2.2 (i := nI (i + 2)) (vp_in_nI (by omega) (by omega)) dL_law_248 ?_
      refine g_top (y := x2) ((congrArg xs (nI_clamp (by omega))).trans ex2.symm) ?_
      refine lv_aload_n hx hb dL_law_249 rfl (lv_at hl 3 rfl) ?_
      refine g_lawH (n := 4) (As := [.ref o, .int (nI r), .int x2, .ref q]) C X (fun sz => mL_bind l D t cI cL o ad q sz f u (fun sz => mX0_bind l D t cI o ad sz u hu8 r hr x2 (ld_ok1 a2) (ld_ok2 a2))) (rwW_S q113 q114 q36 q115) kd_L_bind ⟨Nat.le_of_ble_eq_true rfl, Nat.le_of_ble_eq_true rfl⟩ hl.1 rfl rfl (Nat.le_of_ble_eq_true rfl) dL_law_250 ⟨(show kC + 0 ≤ 601024 by omega), (show nC + 0 ≤ 7293034 by omega)⟩ (fun r9 f9 u9 H locs hp X => ?_)
      obtain ⟨rfl, eu9, hf⟩ := hp
      rw [eu9] at X
      refine lv_istore (lv' := [(5, .int 0), (0, .ref b), (1, .ref o), (2, .ref o2), (3, .ref q), (4, .int (nI i))]) hx hb dL_law_253 hl (by decide) rfl (fun ls hl => ?_)
      refine lv_aload_n hx hb dL_law_255 rfl (lv_at hl 3 rfl) ?_
      refine lv_aload_n hx hb dL_law_256 rfl (lv_at hl 1 rfl) ?_
      refine lv_iload hx hb dL_law_257 (lv_at hl 5 rfl) ?_
      refine lv_iconst (v := 1) hx hb dL_law_259 (by decide) ?_
      refine lv_iadd hx hb dL_law_260 ?_
      refine g_top (nI_add i 1) ?_
      refine va_sld hx hb hX hbl hbA X.2.2.2.2 (i := nI (i + 1)) (vp_in_nI (by omega) (by omega)) dL_law_261 ?_
      refine g_top (y := nI r) ((congrArg xs (nI_clamp (by omega))).trans ex1.symm) ?_
      refine lv_aload_n hx hb dL_law_262 rfl (lv_at hl 1 rfl) ?_
      refine lv_iload hx hb dL_law_263 (lv_at hl 5 rfl) ?_
      refine lv_iconst (v := 2) hx hb dL_law_265 (by decide) ?_
      refine lv_iadd hx hb dL_law_266 ?_
      refine g_top (nI_add i 2) ?_
      refine va_sld hx hb hX hbl hbA X.2.2.2.2 (i := nI (i + 2)) (vp_in_nI (by omega) (by omega)) dL_law_267 ?_
      refine g_top (y := x2) ((congrArg xs (nI_clamp (by omega))).trans ex2.symm) ?_
      refine g_lawRie (n := 2) (As := [.int (nI r), .int x2]) C X (oX1_bind l D t cI o2 H.size v hv8 r (show r < v.2.1 by omega) x2 (ld_ok1 a2) (ld_ok3 a2)) (rw_V q120 q121 q122 q5 q123) kd_X1_bind rfl ⟨Nat.le_of_ble_eq_true rfl, Nat.le_of_ble_eq_true rfl⟩ hl.1 rfl rfl (Nat.le_of_ble_eq_true rfl) dL_law_268 ⟨(show kC + 0 + 0 ≤ 601024 by omega), (show nC + 0 + 0 ≤ 7293034 by omega)⟩ (fun H locs X => ?_)
      refine lv_topi (fun b1 eb1 => ?_)
      refine lv_istore (lv' := [(6, .int b1), (5, .int 0), (0, .ref b), (1, .ref o), (2, .ref o2), (3, .ref q), (4, .int (nI i))]) hx hb dL_law_271 hl (by decide) rfl (fun ls hl => ?_)
      refine lv_goto (tgt := 751) hx hb dL_law_273 (by decide) ?_
      refine W.widen (k := kC + 20) (n := nC + 200) ((by omega)) ((by omega)) ?_
      exact kk _ _ _ _ _ _ X (T.bind (by omega)) (lv_sub hl [2, 3, 4, 5, 6] rfl)
  · refine lv_aload_n hx hb dL_law_236 rfl (lv_at hl 1 rfl) ?_
    refine lv_aload_n hx hb dL_law_237 rfl (lv_at hl 0 rfl) ?_
    refine lv_iload hx hb dL_law_238 (lv_at hl 4 rfl) ?_
    refine lv_iconst (v := 1) hx hb dL_law_240 (by decide) ?_
    refine lv_iadd hx hb dL_law_241 ?_
    refine g_top (nI_add i 1) ?_
    refine va_sld hx hb hX hbl hbA X.2.2.2.2 (i := nI (i + 1)) (vp_in_nI (by omega) (by omega)) dL_law_242 ?_
    refine g_top (y := x1) ((congrArg xs (nI_clamp (by omega))).trans ex1.symm) ?_
    refine lv_aload_n hx hb dL_law_243 rfl (lv_at hl 0 rfl) ?_
    refine lv_iload hx hb dL_law_244 (lv_at hl 4 rfl) ?_
    refine lv_iconst (v := 2) hx hb dL_law_246 (by decide) ?_
    refine lv_iadd hx hb dL_law_247 ?_
    refine g_top (nI_add i 2) ?_
    refine va_sld hx hb hX hbl hbA X.2.2.2.2 (i := nI (i + 2)) (vp_in_nI (by omega) (by omega)) dL_law_248 ?_
    refine g_top (y := x2) ((congrArg xs (nI_clamp (by omega))).trans ex2.symm) ?_
    refine lv_aload_n hx hb dL_law_249 rfl (lv_at hl 3 rfl) ?_
    refine g_lawH (n := 4) (As := [.ref o, .int x1, .int x2, .ref q]) C X (fun sz => xL_bind1 l D t cI cL o ad q sz f u (fun sz => xX0_bind1 l D t cI o ad sz u hl0 x1 x2 a1)) (rwW_S q113 q114 q36 q115) kd_L_bind ⟨Nat.le_of_ble_eq_true rfl, Nat.le_of_ble_eq_true rfl⟩ hl.1 rfl rfl (Nat.le_of_ble_eq_true rfl) dL_law_250 ⟨(show kC + 1 ≤ 601024 by omega), (show nC + 6 ≤ 7293034 by omega)⟩ (fun r9 f9 u9 H locs hp X => ?_)
    obtain ⟨rfl, eu9⟩ := hp
    rw [eu9] at X
    refine lv_istore (lv' := [(5, .int 1), (0, .ref b), (1, .ref o), (2, .ref o2), (3, .ref q), (4, .int (nI i))]) hx hb dL_law_253 hl (by decide) rfl (fun ls hl => ?_)
    refine lv_aload_n hx hb dL_law_255 rfl (lv_at hl 3 rfl) ?_
    refine lv_aload_n hx hb dL_law_256 rfl (lv_at hl 1 rfl) ?_
    refine lv_iload hx hb dL_law_257 (lv_at hl 5 rfl) ?_
    refine lv_iconst (v := 1) hx hb dL_law_259 (by decide) ?_
    refine lv_iadd hx hb dL_law_260 ?_
    refine g_top (nI_add i 1) ?_
    refine va_sld hx hb hX hbl hbA X.2.2.2.2 (i := nI (i + 1)) (vp_in_nI (by omega) (by omega)) dL_law_261 ?_
    refine g_top (y := x1) ((congrArg xs (nI_clamp (by omega))).trans ex1.symm) ?_
    refine lv_aload_n hx hb dL_law_262 rfl (lv_at hl 1 rfl) ?_
    refine lv_iload hx hb dL_law_263 (lv_at hl 5 rfl) ?_
    refine lv_iconst (v := 2) hx hb dL_law_265 (by decide) ?_
    refine lv_iadd hx hb dL_law_266 ?_
    refine g_top (nI_add i 2) ?_
    refine va_sld hx hb hX hbl hbA X.2.2.2.2 (i := nI (i + 2)) (vp_in_nI (by omega) (by omega)) dL_law_267 ?_
    refine g_top (y := x2) ((congrArg xs (nI_clamp (by omega))).trans ex2.symm) ?_
    refine g_lawRie (n := 2) (As := [.int x1, .int x2]) C X (bX1_bind1 l D t cI o2 H.size v hv8 x1 x2 (by rw [← ehv]; exact a1)) (rw_V q120 q121 q122 q5 q123) kd_X1_bind rfl ⟨Nat.le_of_ble_eq_true rfl, Nat.le_of_ble_eq_true rfl⟩ hl.1 rfl rfl (Nat.le_of_ble_eq_true rfl) dL_law_268 ⟨(show kC + 1 + 0 ≤ 601024 by omega), (show nC + 6 + 0 ≤ 7293034 by omega)⟩ (fun H locs X => ?_)
    refine lv_topi (fun b1 eb1 => ?_)
    refine lv_istore (lv' := [(6, .int b1), (5, .int 1), (0, .ref b), (1, .ref o), (2, .ref o2), (3, .ref q), (4, .int (nI i))]) hx hb dL_law_271 hl (by decide) rfl (fun ls hl => ?_)
    refine lv_goto (tgt := 751) hx hb dL_law_273 (by decide) ?_
    refine W.widen (k := kC + 20) (n := nC + 200) ((by omega)) ((by omega)) ?_
    exact kk _ _ _ _ _ _ X (T.E ra_E0 ⟨rfl, rfl, fun _ _ => ⟨rfl, rfl⟩⟩) (lv_sub hl [2, 3, 4, 5, 6] rfl)
set_option maxHeartbeats 4000000 in
set_option maxRecDepth 100000 in
theorem law_g4 {p : Program} {l : Launch} {e : Env} {s : State} {m : MethodId} {below : List Frame} {meth : Method} {c : Code} {Q : State → Prop} {D : va_G} {t : Nat → Nat} {A : Nat → Prop} {cI cL : ClassId} {o o2 q b L kC nC i : Nat} {ad : Nat → Nat} {xs : Nat → Int32} {u : S0} {v : S1} {f : Nat → Int64} {H : Heap} {locs : List Loc} {ls : Array Slot} (C : gC p s m #[.ref b] meth c code 9 RL D (lT cI cL) t A) (hl0 : l.stackTraces = false) (hX : va_X b L xs s s.heap) (hbl : b < s.heap.size) (hbA : ¬ A b) (hi : i + 4 ≤ L) (hL : L ≤ 2048) (X : lS D A s cI cL o ad u o2 v q f H locs) (T : lTie u v) (hl : lv_has ls 9 [(0, .ref b), (1, .ref o), (2, .ref o2), (3, .ref q), (4, .int (nI i))]) (hk9 : kC + 20 ≤ 601024) (hn9 : nC + 200 ≤ 7293034) (kk : ∀ (u : S0) (v : S1) (f : Nat → Int64) (H : Heap) (locs : List Loc) (ls : Array Slot), lS D A s cI cL o ad u o2 v q f H locs → lTie u v → lv_has ls 9 [(0, .ref b), (1, .ref o), (2, .ref o2), (3, .ref q), (4, .int (nI i))] → W p l e room_1 s m #[.ref b] below meth c H locs (kC + 20) (nC + 200) Q (F0 m 751 ls [])) : W p l e room_1 s m #[.ref b] below meth c H locs kC nC Q (F0 m 276 ls []) := by
  have hx := C.1
  have hb := C.2.1
  have hown := C.2.2.2.1
  have hts := C.2.2.2.2.1
  obtain ⟨ehv, hv8, e7, er, hp4⟩ := id T
  have hu8 : u.2.1 ≤ 8 := by omega
  obtain ⟨x1, ex1⟩ : ∃ z, z = xs (i + 1) := ⟨_, rfl⟩
  obtain ⟨x2, ex2⟩ : ∃ z, z = xs (i + 2) := ⟨_, rfl⟩
  obtain ⟨x3, ex3⟩ : ∃ z, z = xs (i + 3) := ⟨_, rfl⟩
  by_cases a5 : x3 = 0
  · rcases ld_cut u.2.1 (by omega) x1 with ⟨r, hr, rfl⟩ | a1
    · by_cases a2 : x2 < 0 ∨ ¬ x2 ≤ 16
      · refine lv_aload_n hx hb dL_law_276 rfl (lv_at hl 1 rfl) ?_
        refine lv_aload_n hx hb dL_law_277 rfl (lv_at hl 0 rfl) ?_
        refine lv_iload hx hb dL_law_278 (lv_at hl 4 rfl) ?_
        refine lv_iconst (v := 1) hx hb dL_law_280 (by decide) ?_
        refine lv_iadd hx hb dL_law_281 ?_
        refine g_top (nI_add i 1) ?_
        refine va_sld hx hb hX hbl hbA X.2.2.2.2 (i := nI (i + 1)) (vp_in_nI (by omega) (by omega)) dL_law_282 ?_
        refine g_top (y := nI r) ((congrArg xs (nI_clamp (by omega))).trans ex1.symm) ?_
        refine lv_aload_n hx hb dL_law_283 rfl (lv_at hl 0 rfl) ?_
        refine lv_iload hx hb dL_law_284 (lv_at hl 4 rfl) ?_
        refine lv_iconst (v := 2) hx hb dL_law_286 (by decide) ?_
        refine lv_iadd hx hb dL_law_287 ?_
        refine g_top (nI_add i 2) ?_
        refine va_sld hx hb hX hbl hbA X.2.2.2.2 (i := nI (i + 2)) (vp_in_nI (by omega) (by omega)) dL_law_288 ?_
        refine g_top (y := x2) ((congrArg xs (nI_clamp (by omega))).trans ex2.symm) ?_
        refine lv_aload_n hx hb dL_law_289 rfl (lv_at hl 0 rfl) ?_
        refine lv_iload hx hb dL_law_290 (lv_at hl 4 rfl) ?_
        refine lv_iconst (v := 3) hx hb dL_law_292 (by decide) ?_
        refine lv_iadd hx hb dL_law_293 ?_
        refine g_top (nI_add i 3) ?_
        refine va_sld hx hb hX hbl hbA X.2.2.2.2 (i := nI (i + 3)) (vp_in_nI (by omega) (by omega)) dL_law_294 ?_
        refine g_top (y := x3) ((congrArg xs (nI_clamp (by omega))).trans ex3.symm) ?_
        refine lv_if_eq (tgt := 302) hx hb dL_law_295 (by decide) (fun c1 => ?_) (fun c1 => absurd a5 c1)
        refine lv_iconst (v := 0) hx hb dL_law_302 (by decide) ?_
        refine lv_aload_n hx hb dL_law_303 rfl (lv_at hl 3 rfl) ?_
        refine g_lawH (n := 5) (As := [.ref o, .int (nI r), .int x2, .int 0, .ref q]) C X (fun sz => xL_work2 l D t cI cL o ad q sz f u (fun sz => xX0_work2 l D t cI o ad sz u hl0 hu8 r hr x2 0 a2)) (rwW_S q132 q133 q36 q134) kd_L_work ⟨Nat.le_of_ble_eq_true rfl, Nat.le_of_ble_eq_true rfl⟩ hl.1 rfl rfl (Nat.le_of_ble_eq_true rfl) dL_law_304 ⟨(show kC + 1 ≤ 601024 by omega), (show nC + 6 ≤ 7293034 by omega)⟩ (fun r9 f9 u9 H locs hp X => ?_)
        obtain ⟨rfl, eu9⟩ := hp
        rw [eu9] at X
        refine lv_istore (lv' := [(5, .int 2), (0, .ref b), (1, .ref o), (2, .ref o2), (3, .ref q), (4, .int (nI i))]) hx hb dL_law_307 hl (by decide) rfl (fun ls hl => ?_)
        refine lv_aload_n hx hb dL_law_309 rfl (lv_at hl 3 rfl) ?_
        refine lv_aload_n hx hb dL_law_310 rfl (lv_at hl 1 rfl) ?_
        refine lv_iload hx hb dL_law_311 (lv_at hl 5 rfl) ?_
        refine lv_iconst (v := 1) hx hb dL_law_313 (by decide) ?_
        refine lv_iadd hx hb dL_law_314 ?_
        refine g_top (nI_add i 1) ?_
        refine va_sld hx hb hX hbl hbA X.2.2.2.2 (i := nI (i + 1)) (vp_in_nI (by omega) (by omega)) dL_law_315 ?_
        refine g_top (y := nI r) ((congrArg xs (nI_clamp (by omega))).trans ex1.symm) ?_
        refine lv_aload_n hx hb dL_law_316 rfl (lv_at hl 1 rfl) ?_
        refine lv_iload hx hb dL_law_317 (lv_at hl 5 rfl) ?_
        refine lv_iconst (v := 2) hx hb dL_law_319 (by decide) ?_
        refine lv_iadd hx hb dL_law_320 ?_
        refine g_top (nI_add i 2) ?_
        refine va_sld hx hb hX hbl hbA X.2.2.2.2 (i := nI (i + 2)) (vp_in_nI (by omega) (by omega)) dL_law_321 ?_
        refine g_top (y := x2) ((congrArg xs (nI_clamp (by omega))).trans ex2.symm) ?_
        refine lv_aload_n hx hb dL_law_322 rfl (lv_at hl 1 rfl) ?_
        refine lv_iload hx hb dL_law_323 (lv_at hl 5 rfl) ?_
        refine lv_iconst (v := 3) hx hb dL_law_325 (by decide) ?_
        refine lv_iadd hx hb dL_law_326 ?_
        refine g_top (nI_add i 3) ?_
        refine va_sld hx hb hX hbl hbA X.2.2.2.2 (i := nI (i + 3)) (vp_in_nI (by omega) (by omega)) dL_law_327 ?_
        refine g_top (y := x3) ((congrArg xs (nI_clamp (by omega))).trans ex3.symm) ?_
        refine lv_if_eq (tgt := 335) hx hb dL_law_328 (by decide) (fun c2 => ?_) (fun c2 => absurd a5 c2)
        refine lv_iconst (v := 0) hx hb dL_law_335 (by decide) ?_
        refine g_lawRie (n := 3) (As := [.int (nI r), .int x2, .int 0]) C X (bX1_work2 l D t cI o2 H.size v hv8 r (show r < v.2.1 by omega) x2 0 (ld_bad a2)) (rw_V q139 q140 q141 q5 q142) kd_X1_work rfl ⟨Nat.le_of_ble_eq_true rfl, Nat.le_of_ble_eq_true rfl⟩ hl.1 rfl rfl (Nat.le_of_ble_eq_true rfl) dL_law_336 ⟨(show kC + 1 + 0 ≤ 601024 by omega), (show nC + 6 + 0 ≤ 7293034 by omega)⟩ (fun H locs X => ?_)
        refine lv_topi (fun b3 eb3 => ?_)
        refine lv_istore (lv' := [(6, .int b3), (5, .int 2), (0, .ref b), (1, .ref o), (2, .ref o2), (3, .ref q), (4, .int (nI i))]) hx hb dL_law_339 hl (by decide) rfl (fun ls hl => ?_)
        refine lv_goto (tgt := 751) hx hb dL_law_341 (by decide) ?_
        refine W.widen (k := kC + 20) (n := nC + 200) ((by omega)) ((by omega)) ?_
        exact kk _ _ _ _ _ _ X (T.E ra_E0 ⟨rfl, rfl, fun _ _ => ⟨rfl, rfl⟩⟩) (lv_sub hl [2, 3, 4, 5, 6] rfl)
      · by_cases a4 : 99 < u.1 2 r + x2
        · refine lv_aload_n hx hb dL_law_276 rfl (lv_at hl 1 rfl) ?_
          refine lv_aload_n hx hb dL_law_277 rfl (lv_at hl 0 rfl) ?_
          refine lv_iload hx hb dL_law_278 (lv_at hl 4 rfl) ?_
          refine lv_iconst (v := 1) hx hb dL_law_280 (by decide) ?_
          refine lv_iadd hx hb dL_law_281 ?_
          refine g_top (nI_add i 1) ?_
          refine va_sld hx hb hX hbl hbA X.2.2.2.2 (i := nI (i + 1)) (vp_in_nI (by omega) (by omega)) dL_law_282 ?_
          refine g_top (y := nI r) ((congrArg xs (nI_clamp (by omega))).trans ex1.symm) ?_
          refine lv_aload_n hx hb dL_law_283 rfl (lv_at hl 0 rfl) ?_
          refine lv_iload hx hb dL_law_284 (lv_at hl 4 rfl) ?_
          refine lv_iconst (v := 2) hx hb dL_law_286 (by decide) ?_
          refine lv_iadd hx hb dL_law_287 ?_
          refine g_top (nI_add i 2) ?_
          refine va_sld hx hb hX hbl hbA X.2.2.2.2 (i := nI (i + 2)) (vp_in_nI (by omega) (by omega)) dL_law_288 ?_
          refine g_top (y := x2) ((congrArg xs (nI_clamp (by omega))).trans ex2.symm) ?_
          refine lv_aload_n hx hb dL_law_289 rfl (lv_at hl 0 rfl) ?_
          refine lv_iload hx hb dL_law_290 (lv_at hl 4 rfl) ?_
          refine lv_iconst (v := 3) hx hb dL_law_292 (by decide) ?_
          refine lv_iadd hx hb dL_law_293 ?_
          refine g_top (nI_add i 3) ?_
          refine va_sld hx hb hX hbl hbA X.2.2.2.2 (i := nI (i + 3)) (vp_in_nI (by omega) (by omega)) dL_law_294 ?_
          refine g_top (y := x3) ((congrArg xs (nI_clamp (by omega))).trans ex3.symm) ?_
          refine lv_if_eq (tgt := 302) hx hb dL_law_295 (by decide) (fun c1 => ?_) (fun c1 => absurd a5 c1)
          refine lv_iconst (v := 0) hx hb dL_law_302 (by decide) ?_
          refine lv_aload_n hx hb dL_law_303 rfl (lv_at hl 3 rfl) ?_
          refine g_lawH (n := 5) (As := [.ref o, .int (nI r), .int x2, .int 0, .ref q]) C X (fun sz => xL_work3 l D t cI cL o ad q sz f u (fun sz => xX0_work3 l D t cI o ad sz u hl0 hu8 r hr x2 0 (ld_ok1 a2) (ld_ok2 a2) a4)) (rwW_S q132 q133 q36 q134) kd_L_work ⟨Nat.le_of_ble_eq_true rfl, Nat.le_of_ble_eq_true rfl⟩ hl.1 rfl rfl (Nat.le_of_ble_eq_true rfl) dL_law_304 ⟨(show kC + 1 ≤ 601024 by omega), (show nC + 6 ≤ 7293034 by omega)⟩ (fun r9 f9 u9 H locs hp X => ?_)
          obtain ⟨rfl, eu9⟩ := hp
          rw [eu9] at X
          refine lv_istore (lv' := [(5, .int 3), (0, .ref b), (1, .ref o), (2, .ref o2), (3, .ref q), (4, .int (nI i))]) hx hb dL_law_307 hl (by decide) rfl (fun ls hl => ?_)
          refine lv_aload_n hx hb dL_law_309 rfl (lv_at hl 3 rfl) ?_
          refine lv_aload_n hx hb dL_law_310 rfl (lv_at hl 1 rfl) ?_
          refine lv_iload hx hb dL_law_311 (lv_at hl 5 rfl) ?_
          refine lv_iconst (v := 1) hx hb dL_law_313 (by decide) ?_
          refine lv_iadd hx hb dL_law_314 ?_
          refine g_top (nI_add i 1) ?_
          refine va_sld hx hb hX hbl hbA X.2.2.2.2 (i := nI (i + 1)) (vp_in_nI (by omega) (by omega)) dL_law_315 ?_
          refine g_top (y := nI r) ((congrArg xs (nI_clamp (by omega))).trans ex1.symm) ?_
          refine lv_aload_n hx hb dL_law_316 rfl (lv_at hl 1 rfl) ?_
          refine lv_iload hx hb dL_law_317 (lv_at hl 5 rfl) ?_
          refine lv_iconst (v := 2) hx hb dL_law_319 (by decide) ?_
          refine lv_iadd hx hb dL_law_320 ?_
          refine g_top (nI_add i 2) ?_
          refine va_sld hx hb hX hbl hbA X.2.2.2.2 (i := nI (i + 2)) (vp_in_nI (by omega) (by omega)) dL_law_321 ?_
          refine g_top (y := x2) ((congrArg xs (nI_clamp (by omega))).trans ex2.symm) ?_
          refine lv_aload_n hx hb dL_law_322 rfl (lv_at hl 1 rfl) ?_
          refine lv_iload hx hb dL_law_323 (lv_at hl 5 rfl) ?_
          refine lv_iconst (v := 3) hx hb dL_law_325 (by decide) ?_
          refine lv_iadd hx hb dL_law_326 ?_
          refine g_top (nI_add i 3) ?_
          refine va_sld hx hb hX hbl hbA X.2.2.2.2 (i := nI (i + 3)) (vp_in_nI (by omega) (by omega)) dL_law_327 ?_
          refine g_top (y := x3) ((congrArg xs (nI_clamp (by omega))).trans ex3.symm) ?_
          refine lv_if_eq (tgt := 335) hx hb dL_law_328 (by decide) (fun c2 => ?_) (fun c2 => absurd a5 c2)
          refine lv_iconst (v := 0) hx hb dL_law_335 (by decide) ?_
          refine g_lawRie (n := 3) (As := [.int (nI r), .int x2, .int 0]) C X (bX1_work3 l D t cI o2 H.size v hv8 r (show r < v.2.1 by omega) x2 0 (ld_ok1 a2) (ld_ok3 a2) (by rw [← (er r (by omega)).2]; exact Int32.not_le.mpr a4)) (rw_V q139 q140 q141 q5 q142) kd_X1_work rfl ⟨Nat.le_of_ble_eq_true rfl, Nat.le_of_ble_eq_true rfl⟩ hl.1 rfl rfl (Nat.le_of_ble_eq_true rfl) dL_law_336 ⟨(show kC + 1 + 0 ≤ 601024 by omega), (show nC + 6 + 0 ≤ 7293034 by omega)⟩ (fun H locs X => ?_)
          refine lv_topi (fun b3 eb3 => ?_)
          refine lv_istore (lv' := [(6, .int b3), (5, .int 3), (0, .ref b), (1, .ref o), (2, .ref o2), (3, .ref q), (4, .int (nI i))]) hx hb dL_law_339 hl (by decide) rfl (fun ls hl => ?_)
          refine lv_goto (tgt := 751) hx hb dL_law_341 (by decide) ?_
          refine W.widen (k := kC + 20) (n := nC + 200) ((by omega)) ((by omega)) ?_
          exact kk _ _ _ _ _ _ X (T.E ra_E0 ⟨rfl, rfl, fun _ _ => ⟨rfl, rfl⟩⟩) (lv_sub hl [2, 3, 4, 5, 6] rfl)
        · refine lv_aload_n hx hb dL_law_276 rfl (lv_at hl 1 rfl) ?_
          refine lv_aload_n hx hb dL_law_277 rfl (lv_at hl 0 rfl) ?_
          refine lv_iload hx hb dL_law_278 (lv_at hl 4 rfl) ?_
          refine lv_iconst (v := 1) hx hb dL_law_280 (by decide) ?_
          refine lv_iadd hx hb dL_law_281 ?_
          refine g_top (nI_add i 1) ?_
          refine va_sld hx hb hX hbl hbA X.2.2.2.2 (i := nI (i + 1)) (vp_in_nI (by omega) (by omega)) dL_law_282 ?_
          refine g_top (y := nI r) ((congrArg xs (nI_clamp (by omega))).trans ex1.symm) ?_
          refine lv_aload_n hx hb dL_law_283 rfl (lv_at hl 0 rfl) ?_
          refine lv_iload hx hb dL_law_284 (lv_at hl 4 rfl) ?_
          refine lv_iconst (v := 2) hx hb dL_law_286 (by decide) ?_
          refine lv_iadd hx hb dL_law_287 ?_
          refine g_top (nI_add i 2) ?_
          refine va_sld hx hb hX hbl hbA X.2.2.2.2 (i := nI (i + 2)) (vp_in_nI (by omega) (by omega)) dL_law_288 ?_
          refine g_top (y := x2) ((congrArg xs (nI_clamp (by omega))).trans ex2.symm) ?_
          refine lv_aload_n hx hb dL_law_289 rfl (lv_at hl 0 rfl) ?_
          refine lv_iload hx hb dL_law_290 (lv_at hl 4 rfl) ?_
          refine lv_iconst (v := 3) hx hb dL_law_292 (by decide) ?_
          refine lv_iadd hx hb dL_law_293 ?_
          refine g_top (nI_add i 3) ?_
          refine va_sld hx hb hX hbl hbA X.2.2.2.2 (i := nI (i + 3)) (vp_in_nI (by omega) (by omega)) dL_law_294 ?_
          refine g_top (y := x3) ((congrArg xs (nI_clamp (by omega))).trans ex3.symm) ?_
          refine lv_if_eq (tgt := 302) hx hb dL_law_295 (by decide) (fun c1 => ?_) (fun c1 => absurd a5 c1)
          refine lv_iconst (v := 0) hx hb dL_law_302 (by decide) ?_
          refine lv_aload_n hx hb dL_law_303 rfl (lv_at hl 3 rfl) ?_
          refine g_lawH (n := 5) (As := [.ref o, .int (nI r), .int x2, .int 0, .ref q]) C X (fun sz => mL_work l D t cI cL o ad q sz f u (fun sz => mX0_work l D t cI o ad sz u hu8 r hr x2 0 (ld_ok1 a2) (ld_ok2 a2) a4)) (rwW_S q132 q133 q36 q134) kd_L_work ⟨Nat.le_of_ble_eq_true rfl, Nat.le_of_ble_eq_true rfl⟩ hl.1 rfl rfl (Nat.le_of_ble_eq_true rfl) dL_law_304 ⟨(show kC + 0 ≤ 601024 by omega), (show nC + 0 ≤ 7293034 by omega)⟩ (fun r9 f9 u9 H locs hp X => ?_)
          obtain ⟨rfl, eu9, hf⟩ := hp
          rw [eu9] at X
          refine lv_istore (lv' := [(5, .int 0), (0, .ref b), (1, .ref o), (2, .ref o2), (3, .ref q), (4, .int (nI i))]) hx hb dL_law_307 hl (by decide) rfl (fun ls hl => ?_)
          refine lv_aload_n hx hb dL_law_309 rfl (lv_at hl 3 rfl) ?_
          refine lv_aload_n hx hb dL_law_310 rfl (lv_at hl 1 rfl) ?_
          refine lv_iload hx hb dL_law_311 (lv_at hl 5 rfl) ?_
          refine lv_iconst (v := 1) hx hb dL_law_313 (by decide) ?_
          refine lv_iadd hx hb dL_law_314 ?_
          refine g_top (nI_add i 1) ?_
          refine va_sld hx hb hX hbl hbA X.2.2.2.2 (i := nI (i + 1)) (vp_in_nI (by omega) (by omega)) dL_law_315 ?_
          refine g_top (y := nI r) ((congrArg xs (nI_clamp (by omega))).trans ex1.symm) ?_
          refine lv_aload_n hx hb dL_law_316 rfl (lv_at hl 1 rfl) ?_
          refine lv_iload hx hb dL_law_317 (lv_at hl 5 rfl) ?_
          refine lv_iconst (v := 2) hx hb dL_law_319 (by decide) ?_
          refine lv_iadd hx hb dL_law_320 ?_
          refine g_top (nI_add i 2) ?_
          refine va_sld hx hb hX hbl hbA X.2.2.2.2 (i := nI (i + 2)) (vp_in_nI (by omega) (by omega)) dL_law_321 ?_
          refine g_top (y := x2) ((congrArg xs (nI_clamp (by omega))).trans ex2.symm) ?_
          refine lv_aload_n hx hb dL_law_322 rfl (lv_at hl 1 rfl) ?_
          refine lv_iload hx hb dL_law_323 (lv_at hl 5 rfl) ?_
          refine lv_iconst (v := 3) hx hb dL_law_325 (by decide) ?_
          refine lv_iadd hx hb dL_law_326 ?_
          refine g_top (nI_add i 3) ?_
          refine va_sld hx hb hX hbl hbA X.2.2.2.2 (i := nI (i + 3)) (vp_in_nI (by omega) (by omega)) dL_law_327 ?_
          refine g_top (y := x3) ((congrArg xs (nI_clamp (by omega))).trans ex3.symm) ?_
          refine lv_if_eq (tgt := 335) hx hb dL_law_328 (by decide) (fun c2 => ?_) (fun c2 => absurd a5 c2)
          refine lv_iconst (v := 0) hx hb dL_law_335 (by decide) ?_
          refine g_lawRi (P := (fun z v' => z = v.1 2 (7 * r + 2) + x2 ∧ ∃ y : Int32, v' = rb_s (rb_s (rb_t v 0) 2 (7 * r + 2) (v.1 2 (7 * r + 2) + x2)) 2 (7 * r + 3) y)) (n := 3) (As := [.int (nI r), .int x2, .int 0]) C X (oX1_work l D t cI o2 H.size v hv8 r (show r < v.2.1 by omega) x2 0 (ld_ok1 a2) (ld_ok3 a2) (by rw [← (er r (by omega)).2]; exact Int32.not_lt.mp a4)) (fun z w' h => h.2.elim (fun y h9 => ⟨_, ⟨h.1, y, rfl⟩, h9⟩)) (rw_V q139 q140 q141 q5 q142) kd_X1_work rfl ⟨Nat.le_of_ble_eq_true rfl, Nat.le_of_ble_eq_true rfl⟩ hl.1 rfl rfl (Nat.le_of_ble_eq_true rfl) dL_law_336 ⟨(show kC + 0 + 0 ≤ 601024 by omega), (show nC + 0 + 0 ≤ 7293034 by omega)⟩ (fun b3 v9 H locs hp X => ?_)
          obtain ⟨eb3, y9, rfl⟩ := hp
          refine lv_istore (lv' := [(6, .int b3), (5, .int 0), (0, .ref b), (1, .ref o), (2, .ref o2), (3, .ref q), (4, .int (nI i))]) hx hb dL_law_339 hl (by decide) rfl (fun ls hl => ?_)
          refine lv_goto (tgt := 751) hx hb dL_law_341 (by decide) ?_
          refine W.widen (k := kC + 20) (n := nC + 200) ((by omega)) ((by omega)) ?_
          exact kk _ _ _ _ _ _ X (T.work (by omega)) (lv_sub hl [2, 3, 4, 5, 6] rfl)
    · refine lv_aload_n hx hb dL_law_276 rfl (lv_at hl 1 rfl) ?_
      refine lv_aload_n hx hb dL_law_277 rfl (lv_at hl 0 rfl) ?_
      refine lv_iload hx hb dL_law_278 (lv_at hl 4 rfl) ?_
      refine lv_iconst (v := 1) hx hb dL_law_280 (by decide) ?_
      refine lv_iadd hx hb dL_law_281 ?_
      refine g_top (nI_add i 1) ?_
      refine va_sld hx hb hX hbl hbA X.2.2.2.2 (i := nI (i + 1)) (vp_in_nI (by omega) (by omega)) dL_law_282 ?_
      refine g_top (y := x1) ((congrArg xs (nI_clamp (by omega))).trans ex1.symm) ?_
      refine lv_aload_n hx hb dL_law_283 rfl (lv_at hl 0 rfl) ?_
      refine lv_iload hx hb dL_law_284 (lv_at hl 4 rfl) ?_
      refine lv_iconst (v := 2) hx hb dL_law_286 (by decide) ?_
      refine lv_iadd hx hb dL_law_287 ?_
      refine g_top (nI_add i 2) ?_
      refine va_sld hx hb hX hbl hbA X.2.2.2.2 (i := nI (i + 2)) (vp_in_nI (by omega) (by omega)) dL_law_288 ?_
      refine g_top (y := x2) ((congrArg xs (nI_clamp (by omega))).trans ex2.symm) ?_
      refine lv_aload_n hx hb dL_law_289 rfl (lv_at hl 0 rfl) ?_
      refine lv_iload hx hb dL_law_290 (lv_at hl 4 rfl) ?_
      refine lv_iconst (v := 3) hx hb dL_law_292 (by decide) ?_
      refine lv_iadd hx hb dL_law_293 ?_
      refine g_top (nI_add i 3) ?_
      refine va_sld hx hb hX hbl hbA X.2.2.2.2 (i := nI (i + 3)) (vp_in_nI (by omega) (by omega)) dL_law_294 ?_
      refine g_top (y := x3) ((congrArg xs (nI_clamp (by omega))).trans ex3.symm) ?_
      refine lv_if_eq (tgt := 302) hx hb dL_law_295 (by decide) (fun c1 => ?_) (fun c1 => absurd a5 c1)
      refine lv_iconst (v := 0) hx hb dL_law_302 (by decide) ?_
      refine lv_aload_n hx hb dL_law_303 rfl (lv_at hl 3 rfl) ?_
      refine g_lawH (n := 5) (As := [.ref o, .int x1, .int x2, .int 0, .ref q]) C X (fun sz => xL_work1 l D t cI cL o ad q sz f u (fun sz => xX0_work1 l D t cI o ad sz u hl0 x1 x2 0 a1)) (rwW_S q132 q133 q36 q134) kd_L_work ⟨Nat.le_of_ble_eq_true rfl, Nat.le_of_ble_eq_true rfl⟩ hl.1 rfl rfl (Nat.le_of_ble_eq_true rfl) dL_law_304 ⟨(show kC + 1 ≤ 601024 by omega), (show nC + 6 ≤ 7293034 by omega)⟩ (fun r9 f9 u9 H locs hp X => ?_)
      obtain ⟨rfl, eu9⟩ := hp
      rw [eu9] at X
      refine lv_istore (lv' := [(5, .int 1), (0, .ref b), (1, .ref o), (2, .ref o2), (3, .ref q), (4, .int (nI i))]) hx hb dL_law_307 hl (by decide) rfl (fun ls hl => ?_)
      refine lv_aload_n hx hb dL_law_309 rfl (lv_at hl 3 rfl) ?_
      refine lv_aload_n hx hb dL_law_310 rfl (lv_at hl 1 rfl) ?_
      refine lv_iload hx hb dL_law_311 (lv_at hl 5 rfl) ?_
      refine lv_iconst (v := 1) hx hb dL_law_313 (by decide) ?_
      refine lv_iadd hx hb dL_law_314 ?_
      refine g_top (nI_add i 1) ?_
      refine va_sld hx hb hX hbl hbA X.2.2.2.2 (i := nI (i + 1)) (vp_in_nI (by omega) (by omega)) dL_law_315 ?_
      refine g_top (y := x1) ((congrArg xs (nI_clamp (by omega))).trans ex1.symm) ?_
      refine lv_aload_n hx hb dL_law_316 rfl (lv_at hl 1 rfl) ?_
      refine lv_iload hx hb dL_law_317 (lv_at hl 5 rfl) ?_
      refine lv_iconst (v := 2) hx hb dL_law_319 (by decide) ?_
      refine lv_iadd hx hb dL_law_320 ?_
      refine g_top (nI_add i 2) ?_
      refine va_sld hx hb hX hbl hbA X.2.2.2.2 (i := nI (i + 2)) (vp_in_nI (by omega) (by omega)) dL_law_321 ?_
      refine g_top (y := x2) ((congrArg xs (nI_clamp (by omega))).trans ex2.symm) ?_
      refine lv_aload_n hx hb dL_law_322 rfl (lv_at hl 1 rfl) ?_
      refine lv_iload hx hb dL_law_323 (lv_at hl 5 rfl) ?_
      refine lv_iconst (v := 3) hx hb dL_law_325 (by decide) ?_
      refine lv_iadd hx hb dL_law_326 ?_
      refine g_top (nI_add i 3) ?_
      refine va_sld hx hb hX hbl hbA X.2.2.2.2 (i := nI (i + 3)) (vp_in_nI (by omega) (by omega)) dL_law_327 ?_
      refine g_top (y := x3) ((congrArg xs (nI_clamp (by omega))).trans ex3.symm) ?_
      refine lv_if_eq (tgt := 335) hx hb dL_law_328 (by decide) (fun c2 => ?_) (fun c2 => absurd a5 c2)
      refine lv_iconst (v := 0) hx hb dL_law_335 (by decide) ?_
      refine g_lawRie (n := 3) (As := [.int x1, .int x2, .int 0]) C X (bX1_work1 l D t cI o2 H.size v hv8 x1 x2 0 (by rw [← ehv]; exact a1)) (rw_V q139 q140 q141 q5 q142) kd_X1_work rfl ⟨Nat.le_of_ble_eq_true rfl, Nat.le_of_ble_eq_true rfl⟩ hl.1 rfl rfl (Nat.le_of_ble_eq_true rfl) dL_law_336 ⟨(show kC + 1 + 0 ≤ 601024 by omega), (show nC + 6 + 0 ≤ 7293034 by omega)⟩ (fun H locs X => ?_)
      refine lv_topi (fun b3 eb3 => ?_)
      refine lv_istore (lv' := [(6, .int b3), (5, .int 1), (0, .ref b), (1, .ref o), (2, .ref o2), (3, .ref q), (4, .int (nI i))]) hx hb dL_law_339 hl (by decide) rfl (fun ls hl => ?_)
      refine lv_goto (tgt := 751) hx hb dL_law_341 (by decide) ?_
      refine W.widen (k := kC + 20) (n := nC + 200) ((by omega)) ((by omega)) ?_
      exact kk _ _ _ _ _ _ X (T.E ra_E0 ⟨rfl, rfl, fun _ _ => ⟨rfl, rfl⟩⟩) (lv_sub hl [2, 3, 4, 5, 6] rfl)
  · rcases ld_cut u.2.1 (by omega) x1 with ⟨r, hr, rfl⟩ | a1
    · by_cases a2 : x2 < 0 ∨ ¬ x2 ≤ 16
      · refine lv_aload_n hx hb dL_law_276 rfl (lv_at hl 1 rfl) ?_
        refine lv_aload_n hx hb dL_law_277 rfl (lv_at hl 0 rfl) ?_
        refine lv_iload hx hb dL_law_278 (lv_at hl 4 rfl) ?_
        refine lv_iconst (v := 1) hx hb dL_law_280 (by decide) ?_
        refine lv_iadd hx hb dL_law_281 ?_
        refine g_top (nI_add i 1) ?_
        refine va_sld hx hb hX hbl hbA X.2.2.2.2 (i := nI (i + 1)) (vp_in_nI (by omega) (by omega)) dL_law_282 ?_
        refine g_top (y := nI r) ((congrArg xs (nI_clamp (by omega))).trans ex1.symm) ?_
        refine lv_aload_n hx hb dL_law_283 rfl (lv_at hl 0 rfl) ?_
        refine lv_iload hx hb dL_law_284 (lv_at hl 4 rfl) ?_
        refine lv_iconst (v := 2) hx hb dL_law_286 (by decide) ?_
        refine lv_iadd hx hb dL_law_287 ?_
        refine g_top (nI_add i 2) ?_
        refine va_sld hx hb hX hbl hbA X.2.2.2.2 (i := nI (i + 2)) (vp_in_nI (by omega) (by omega)) dL_law_288 ?_
        refine g_top (y := x2) ((congrArg xs (nI_clamp (by omega))).trans ex2.symm) ?_
        refine lv_aload_n hx hb dL_law_289 rfl (lv_at hl 0 rfl) ?_
        refine lv_iload hx hb dL_law_290 (lv_at hl 4 rfl) ?_
        refine lv_iconst (v := 3) hx hb dL_law_292 (by decide) ?_
        refine lv_iadd hx hb dL_law_293 ?_
        refine g_top (nI_add i 3) ?_
        refine va_sld hx hb hX hbl hbA X.2.2.2.2 (i := nI (i + 3)) (vp_in_nI (by omega) (by omega)) dL_law_294 ?_
        refine g_top (y := x3) ((congrArg xs (nI_clamp (by omega))).trans ex3.symm) ?_
        refine lv_if_eq (tgt := 302) hx hb dL_law_295 (by decide) (fun c1 => absurd c1 a5) (fun c1 => ?_)
        refine lv_iconst (v := 1) hx hb dL_law_298 (by decide) ?_
        refine lv_goto (tgt := 303) hx hb dL_law_299 (by decide) ?_
        refine lv_aload_n hx hb dL_law_303 rfl (lv_at hl 3 rfl) ?_
        refine g_lawH (n := 5) (As := [.ref o, .int (nI r), .int x2, .int 1, .ref q]) C X (fun sz => xL_work2 l D t cI cL o ad q sz f u (fun sz => xX0_work2 l D t cI o ad sz u hl0 hu8 r hr x2 1 a2)) (rwW_S q132 q133 q36 q134) kd_L_work ⟨Nat.le_of_ble_eq_true rfl, Nat.le_of_ble_eq_true rfl⟩ hl.1 rfl rfl (Nat.le_of_ble_eq_true rfl) dL_law_304 ⟨(show kC + 1 ≤ 601024 by omega), (show nC + 6 ≤ 7293034 by omega)⟩ (fun r9 f9 u9 H locs hp X => ?_)
        obtain ⟨rfl, eu9⟩ := hp
        rw [eu9] at X
        refine lv_istore (lv' := [(5, .int 2), (0, .ref b), (1, .ref o), (2, .ref o2), (3, .ref q), (4, .int (nI i))]) hx hb dL_law_307 hl (by decide) rfl (fun ls hl => ?_)
        refine lv_aload_n hx hb dL_law_309 rfl (lv_at hl 3 rfl) ?_
        refine lv_aload_n hx hb dL_law_310 rfl (lv_at hl 1 rfl) ?_
        refine lv_iload hx hb dL_law_311 (lv_at hl 5 rfl) ?_
        refine lv_iconst (v := 1) hx hb dL_law_313 (by decide) ?_
        refine lv_iadd hx hb dL_law_314 ?_
        refine g_top (nI_add i 1) ?_
        refine va_sld hx hb hX hbl hbA X.2.2.2.2 (i := nI (i + 1)) (vp_in_nI (by omega) (by omega)) dL_law_315 ?_
        refine g_top (y := nI r) ((congrArg xs (nI_clamp (by omega))).trans ex1.symm) ?_
        refine lv_aload_n hx hb dL_law_316 rfl (lv_at hl 1 rfl) ?_
        refine lv_iload hx hb dL_law_317 (lv_at hl 5 rfl) ?_
        refine lv_iconst (v := 2) hx hb dL_law_319 (by decide) ?_
        refine lv_iadd hx hb dL_law_320 ?_
        refine g_top (nI_add i 2) ?_
        refine va_sld hx hb hX hbl hbA X.2.2.2.2 (i := nI (i + 2)) (vp_in_nI (by omega) (by omega)) dL_law_321 ?_
        refine g_top (y := x2) ((congrArg xs (nI_clamp (by omega))).trans ex2.symm) ?_
        refine lv_aload_n hx hb dL_law_322 rfl (lv_at hl 1 rfl) ?_
        refine lv_iload hx hb dL_law_323 (lv_at hl 5 rfl) ?_
        refine lv_iconst (v := 3) hx hb dL_law_325 (by decide) ?_
        refine lv_iadd hx hb dL_law_326 ?_
        refine g_top (nI_add i 3) ?_
        refine va_sld hx hb hX hbl hbA X.2.2.2.2 (i := nI (i + 3)) (vp_in_nI (by omega) (by omega)) dL_law_327 ?_
        refine g_top (y := x3) ((congrArg xs (nI_clamp (by omega))).trans ex3.symm) ?_
        refine lv_if_eq (tgt := 335) hx hb dL_law_328 (by decide) (fun c2 => absurd c2 a5) (fun c2 => ?_)
        refine lv_iconst (v := 1) hx hb dL_law_331 (by decide) ?_
        refine lv_goto (tgt := 336) hx hb dL_law_332 (by decide) ?_
        refine g_lawRie (n := 3) (As := [.int (nI r), .int x2, .int 1]) C X (bX1_work2 l D t cI o2 H.size v hv8 r (show r < v.2.1 by omega) x2 1 (ld_bad a2)) (rw_V q139 q140 q141 q5 q142) kd_X1_work rfl ⟨Nat.le_of_ble_eq_true rfl, Nat.le_of_ble_eq_true rfl⟩ hl.1 rfl rfl (Nat.le_of_ble_eq_true rfl) dL_law_336 ⟨(show kC + 1 + 0 ≤ 601024 by omega), (show nC + 6 + 0 ≤ 7293034 by omega)⟩ (fun H locs X => ?_)
        refine lv_topi (fun b3 eb3 => ?_)
        refine lv_istore (lv' := [(6, .int b3), (5, .int 2), (0, .ref b), (1, .ref o), (2, .ref o2), (3, .ref q), (4, .int (nI i))]) hx hb dL_law_339 hl (by decide) rfl (fun ls hl => ?_)
        refine lv_goto (tgt := 751) hx hb dL_law_341 (by decide) ?_
        refine W.widen (k := kC + 20) (n := nC + 200) ((by omega)) ((by omega)) ?_
        exact kk _ _ _ _ _ _ X (T.E ra_E0 ⟨rfl, rfl, fun _ _ => ⟨rfl, rfl⟩⟩) (lv_sub hl [2, 3, 4, 5, 6] rfl)
      · by_cases a4 : 99 < u.1 2 r + x2
        · refine lv_aload_n hx hb dL_law_276 rfl (lv_at hl 1 rfl) ?_
          refine lv_aload_n hx hb dL_law_277 rfl (lv_at hl 0 rfl) ?_
          refine lv_iload hx hb dL_law_278 (lv_at hl 4 rfl) ?_
          refine lv_iconst (v := 1) hx hb dL_law_280 (by decide) ?_
          refine lv_iadd hx hb dL_law_281 ?_
          refine g_top (nI_add i 1) ?_
          refine va_sld hx hb hX hbl hbA X.2.2.2.2 (i := nI (i + 1)) (vp_in_nI (by omega) (by omega)) dL_law_282 ?_
          refine g_top (y := nI r) ((congrArg xs (nI_clamp (by omega))).trans ex1.symm) ?_
          refine lv_aload_n hx hb dL_law_283 rfl (lv_at hl 0 rfl) ?_
          refine lv_iload hx hb dL_law_284 (lv_at hl 4 rfl) ?_
          refine lv_iconst (v := 2) hx hb dL_law_286 (by decide) ?_
          refine lv_iadd hx hb dL_law_287 ?_
          refine g_top (nI_add i 2) ?_
          refine va_sld hx hb hX hbl hbA X.2.2.2.2 (i := nI (i + 2)) (vp_in_nI (by omega) (by omega)) dL_law_288 ?_
          refine g_top (y := x2) ((congrArg xs (nI_clamp (by omega))).trans ex2.symm) ?_
          refine lv_aload_n hx hb dL_law_289 rfl (lv_at hl 0 rfl) ?_
          refine lv_iload hx hb dL_law_290 (lv_at hl 4 rfl) ?_
          refine lv_iconst (v := 3) hx hb dL_law_292 (by decide) ?_
          refine lv_iadd hx hb dL_law_293 ?_
          refine g_top (nI_add i 3) ?_
          refine va_sld hx hb hX hbl hbA X.2.2.2.2 (i := nI (i + 3)) (vp_in_nI (by omega) (by omega)) dL_law_294 ?_
          refine g_top (y := x3) ((congrArg xs (nI_clamp (by omega))).trans ex3.symm) ?_
          refine lv_if_eq (tgt := 302) hx hb dL_law_295 (by decide) (fun c1 => absurd c1 a5) (fun c1 => ?_)
          refine lv_iconst (v := 1) hx hb dL_law_298 (by decide) ?_
          refine lv_goto (tgt := 303) hx hb dL_law_299 (by decide) ?_
          refine lv_aload_n hx hb dL_law_303 rfl (lv_at hl 3 rfl) ?_
          refine g_lawH (n := 5) (As := [.ref o, .int (nI r), .int x2, .int 1, .ref q]) C X (fun sz => xL_work3 l D t cI cL o ad q sz f u (fun sz => xX0_work3 l D t cI o ad sz u hl0 hu8 r hr x2 1 (ld_ok1 a2) (ld_ok2 a2) a4)) (rwW_S q132 q133 q36 q134) kd_L_work ⟨Nat.le_of_ble_eq_true rfl, Nat.le_of_ble_eq_true rfl⟩ hl.1 rfl rfl (Nat.le_of_ble_eq_true rfl) dL_law_304 ⟨(show kC + 1 ≤ 601024 by omega), (show nC + 6 ≤ 7293034 by omega)⟩ (fun r9 f9 u9 H locs hp X => ?_)
          obtain ⟨rfl, eu9⟩ := hp
          rw [eu9] at X
          refine lv_istore (lv' := [(5, .int 3), (0, .ref b), (1, .ref o), (2, .ref o2), (3, .ref q), (4, .int (nI i))]) hx hb dL_law_307 hl (by decide) rfl (fun ls hl => ?_)
          refine lv_aload_n hx hb dL_law_309 rfl (lv_at hl 3 rfl) ?_
          refine lv_aload_n hx hb dL_law_310 rfl (lv_at hl 1 rfl) ?_
          refine lv_iload hx hb dL_law_311 (lv_at hl 5 rfl) ?_
          refine lv_iconst (v := 1) hx hb dL_law_313 (by decide) ?_
          refine lv_iadd hx hb dL_law_314 ?_
          refine g_top (nI_add i 1) ?_
          refine va_sld hx hb hX hbl hbA X.2.2.2.2 (i := nI (i + 1)) (vp_in_nI (by omega) (by omega)) dL_law_315 ?_
          refine g_top (y := nI r) ((congrArg xs (nI_clamp (by omega))).trans ex1.symm) ?_
          refine lv_aload_n hx hb dL_law_316 rfl (lv_at hl 1 rfl) ?_
          refine lv_iload hx hb dL_law_317 (lv_at hl 5 rfl) ?_
          refine lv_iconst (v := 2) hx hb dL_law_319 (by decide) ?_
          refine lv_iadd hx hb dL_law_320 ?_
          refine g_top (nI_add i 2) ?_
          refine va_sld hx hb hX hbl hbA X.2.2.2.2 (i := nI (i + 2)) (vp_in_nI (by omega) (by omega)) dL_law_321 ?_
          refine g_top (y := x2) ((congrArg xs (nI_clamp (by omega))).trans ex2.symm) ?_
          refine lv_aload_n hx hb dL_law_322 rfl (lv_at hl 1 rfl) ?_
          refine lv_iload hx hb dL_law_323 (lv_at hl 5 rfl) ?_
          refine lv_iconst (v := 3) hx hb dL_law_325 (by decide) ?_
          refine lv_iadd hx hb dL_law_326 ?_
          refine g_top (nI_add i 3) ?_
          refine va_sld hx hb hX hbl hbA X.2.2.2.2 (i := nI (i + 3)) (vp_in_nI (by omega) (by omega)) dL_law_327 ?_
          refine g_top (y := x3) ((congrArg xs (nI_clamp (by omega))).trans ex3.symm) ?_
          refine lv_if_eq (tgt := 335) hx hb dL_law_328 (by decide) (fun c2 => absurd c2 a5) (fun c2 => ?_)
          refine lv_iconst (v := 1) hx hb dL_law_331 (by decide) ?_
          refine lv_goto (tgt := 336) hx hb dL_law_332 (by decide) ?_
          refine g_lawRie (n := 3) (As := [.int (nI r), .int x2, .int 1]) C X (bX1_work3 l D t cI o2 H.size v hv8 r (show r < v.2.1 by omega) x2 1 (ld_ok1 a2) (ld_ok3 a2) (by rw [← (er r (by omega)).2]; exact Int32.not_le.mpr a4)) (rw_V q139 q140 q141 q5 q142) kd_X1_work rfl ⟨Nat.le_of_ble_eq_true rfl, Nat.le_of_ble_eq_true rfl⟩ hl.1 rfl rfl (Nat.le_of_ble_eq_true rfl) dL_law_336 ⟨(show kC + 1 + 0 ≤ 601024 by omega), (show nC + 6 + 0 ≤ 7293034 by omega)⟩ (fun H locs X => ?_)
          refine lv_topi (fun b3 eb3 => ?_)
          refine lv_istore (lv' := [(6, .int b3), (5, .int 3), (0, .ref b), (1, .ref o), (2, .ref o2), (3, .ref q), (4, .int (nI i))]) hx hb dL_law_339 hl (by decide) rfl (fun ls hl => ?_)
          refine lv_goto (tgt := 751) hx hb dL_law_341 (by decide) ?_
          refine W.widen (k := kC + 20) (n := nC + 200) ((by omega)) ((by omega)) ?_
          exact kk _ _ _ _ _ _ X (T.E ra_E0 ⟨rfl, rfl, fun _ _ => ⟨rfl, rfl⟩⟩) (lv_sub hl [2, 3, 4, 5, 6] rfl)
        · refine lv_aload_n hx hb dL_law_276 rfl (lv_at hl 1 rfl) ?_
          refine lv_aload_n hx hb dL_law_277 rfl (lv_at hl 0 rfl) ?_
          refine lv_iload hx hb dL_law_278 (lv_at hl 4 rfl) ?_
          refine lv_iconst (v := 1) hx hb dL_law_280 (by decide) ?_
          refine lv_iadd hx hb dL_law_281 ?_
          refine g_top (nI_add i 1) ?_
          refine va_sld hx hb hX hbl hbA X.2.2.2.2 (i := nI (i + 1)) (vp_in_nI (by omega) (by omega)) dL_law_282 ?_
          refine g_top (y := nI r) ((congrArg xs (nI_clamp (by omega))).trans ex1.symm) ?_
          refine lv_aload_n hx hb dL_law_283 rfl (lv_at hl 0 rfl) ?_
          refine lv_iload hx hb dL_law_284 (lv_at hl 4 rfl) ?_
          refine lv_iconst (v := 2) hx hb dL_law_286 (by decide) ?_
          refine lv_iadd hx hb dL_law_287 ?_
          refine g_top (nI_add i 2) ?_
          refine va_sld hx hb hX hbl hbA X.2.2.2.2 (i := nI (i + 2)) (vp_in_nI (by omega) (by omega)) dL_law_288 ?_
          refine g_top (y := x2) ((congrArg xs (nI_clamp (by omega))).trans ex2.symm) ?_
          refine lv_aload_n hx hb dL_law_289 rfl (lv_at hl 0 rfl) ?_
          refine lv_iload hx hb dL_law_290 (lv_at hl 4 rfl) ?_
          refine lv_iconst (v := 3) hx hb dL_law_292 (by decide) ?_
          refine lv_iadd hx hb dL_law_293 ?_
          refine g_top (nI_add i 3) ?_
          refine va_sld hx hb hX hbl hbA X.2.2.2.2 (i := nI (i + 3)) (vp_in_nI (by omega) (by omega)) dL_law_294 ?_
          refine g_top (y := x3) ((congrArg xs (nI_clamp (by omega))).trans ex3.symm) ?_
          refine lv_if_eq (tgt := 302) hx hb dL_law_295 (by decide) (fun c1 => absurd c1 a5) (fun c1 => ?_)
          refine lv_iconst (v := 1) hx hb dL_law_298 (by decide) ?_
          refine lv_goto (tgt := 303) hx hb dL_law_299 (by decide) ?_
          refine lv_aload_n hx hb dL_law_303 rfl (lv_at hl 3 rfl) ?_
          refine g_lawH (n := 5) (As := [.ref o, .int (nI r), .int x2, .int 1, .ref q]) C X (fun sz => mL_work l D t cI cL o ad q sz f u (fun sz => mX0_work l D t cI o ad sz u hu8 r hr x2 1 (ld_ok1 a2) (ld_ok2 a2) a4)) (rwW_S q132 q133 q36 q134) kd_L_work ⟨Nat.le_of_ble_eq_true rfl, Nat.le_of_ble_eq_true rfl⟩ hl.1 rfl rfl (Nat.le_of_ble_eq_true rfl) dL_law_304 ⟨(show kC + 0 ≤ 601024 by omega), (show nC + 0 ≤ 7293034 by omega)⟩ (fun r9 f9 u9 H locs hp X => ?_)
          obtain ⟨rfl, eu9, hf⟩ := hp
          rw [eu9] at X
          refine lv_istore (lv' := [(5, .int 0), (0, .ref b), (1, .ref o), (2, .ref o2), (3, .ref q), (4, .int (nI i))]) hx hb dL_law_307 hl (by decide) rfl (fun ls hl => ?_)
          refine lv_aload_n hx hb dL_law_309 rfl (lv_at hl 3 rfl) ?_
          refine lv_aload_n hx hb dL_law_310 rfl (lv_at hl 1 rfl) ?_
          refine lv_iload hx hb dL_law_311 (lv_at hl 5 rfl) ?_
          refine lv_iconst (v := 1) hx hb dL_law_313 (by decide) ?_
          refine lv_iadd hx hb dL_law_314 ?_
          refine g_top (nI_add i 1) ?_
          refine va_sld hx hb hX hbl hbA X.2.2.2.2 (i := nI (i + 1)) (vp_in_nI (by omega) (by omega)) dL_law_315 ?_
          refine g_top (y := nI r) ((congrArg xs (nI_clamp (by omega))).trans ex1.symm) ?_
          refine lv_aload_n hx hb dL_law_316 rfl (lv_at hl 1 rfl) ?_
          refine lv_iload hx hb dL_law_317 (lv_at hl 5 rfl) ?_
          refine lv_iconst (v := 2) hx hb dL_law_319 (by decide) ?_
          refine lv_iadd hx hb dL_law_320 ?_
          refine g_top (nI_add i 2) ?_
          refine va_sld hx hb hX hbl hbA X.2.2.2.2 (i := nI (i + 2)) (vp_in_nI (by omega) (by omega)) dL_law_321 ?_
          refine g_top (y := x2) ((congrArg xs (nI_clamp (by omega))).trans ex2.symm) ?_
          refine lv_aload_n hx hb dL_law_322 rfl (lv_at hl 1 rfl) ?_
          refine lv_iload hx hb dL_law_323 (lv_at hl 5 rfl) ?_
          refine lv_iconst (v := 3) hx hb dL_law_325 (by decide) ?_
          refine lv_iadd hx hb dL_law_326 ?_
          refine g_top (nI_add i 3) ?_
          refine va_sld hx hb hX hbl hbA X.2.2.2.2 (i := nI (i + 3)) (vp_in_nI (by omega) (by omega)) dL_law_327 ?_
          refine g_top (y := x3) ((congrArg xs (nI_clamp (by omega))).trans ex3.symm) ?_
          refine lv_if_eq (tgt := 335) hx hb dL_law_328 (by decide) (fun c2 => absurd c2 a5) (fun c2 => ?_)
          refine lv_iconst (v := 1) hx hb dL_law_331 (by decide) ?_
          refine lv_goto (tgt := 336) hx hb dL_law_332 (by decide) ?_
          refine g_lawRi (P := (fun z v' => z = v.1 2 (7 * r + 2) + x2 ∧ ∃ y : Int32, v' = rb_s (rb_s (rb_t v 0) 2 (7 * r + 2) (v.1 2 (7 * r + 2) + x2)) 2 (7 * r + 3) y)) (n := 3) (As := [.int (nI r), .int x2, .int 1]) C X (oX1_work l D t cI o2 H.size v hv8 r (show r < v.2.1 by omega) x2 1 (ld_ok1 a2) (ld_ok3 a2) (by rw [← (er r (by omega)).2]; exact Int32.not_lt.mp a4)) (fun z w' h => h.2.elim (fun y h9 => ⟨_, ⟨h.1, y, rfl⟩, h9⟩)) (rw_V q139 q140 q141 q5 q142) kd_X1_work rfl ⟨Nat.le_of_ble_eq_true rfl, Nat.le_of_ble_eq_true rfl⟩ hl.1 rfl rfl (Nat.le_of_ble_eq_true rfl) dL_law_336 ⟨(show kC + 0 + 0 ≤ 601024 by omega), (show nC + 0 + 0 ≤ 7293034 by omega)⟩ (fun b3 v9 H locs hp X => ?_)
          obtain ⟨eb3, y9, rfl⟩ := hp
          refine lv_istore (lv' := [(6, .int b3), (5, .int 0), (0, .ref b), (1, .ref o), (2, .ref o2), (3, .ref q), (4, .int (nI i))]) hx hb dL_law_339 hl (by decide) rfl (fun ls hl => ?_)
          refine lv_goto (tgt := 751) hx hb dL_law_341 (by decide) ?_
          refine W.widen (k := kC + 20) (n := nC + 200) ((by omega)) ((by omega)) ?_
          exact kk _ _ _ _ _ _ X (T.work (by omega)) (lv_sub hl [2, 3, 4, 5, 6] rfl)
    · refine lv_aload_n hx hb dL_law_276 rfl (lv_at hl 1 rfl) ?_
      refine lv_aload_n hx hb dL_law_277 rfl (lv_at hl 0 rfl) ?_
      refine lv_iload hx hb dL_law_278 (lv_at hl 4 rfl) ?_
      refine lv_iconst (v := 1) hx hb dL_law_280 (by decide) ?_
      refine lv_iadd hx hb dL_law_281 ?_
      refine g_top (nI_add i 1) ?_
      refine va_sld hx hb hX hbl hbA X.2.2.2.2 (i := nI (i + 1)) (vp_in_nI (by omega) (by omega)) dL_law_282 ?_
      refine g_top (y := x1) ((congrArg xs (nI_clamp (by omega))).trans ex1.symm) ?_
      refine lv_aload_n hx hb dL_law_283 rfl (lv_at hl 0 rfl) ?_
      refine lv_iload hx hb dL_law_284 (lv_at hl 4 rfl) ?_
      refine lv_iconst (v := 2) hx hb dL_law_286 (by decide) ?_
      refine lv_iadd hx hb dL_law_287 ?_
      refine g_top (nI_add i 2) ?_
      refine va_sld hx hb hX hbl hbA X.2.2.2.2 (i := nI (i + 2)) (vp_in_nI (by omega) (by omega)) dL_law_288 ?_
      refine g_top (y := x2) ((congrArg xs (nI_clamp (by omega))).trans ex2.symm) ?_
      refine lv_aload_n hx hb dL_law_289 rfl (lv_at hl 0 rfl) ?_
      refine lv_iload hx hb dL_law_290 (lv_at hl 4 rfl) ?_
      refine lv_iconst (v := 3) hx hb dL_law_292 (by decide) ?_
      refine lv_iadd hx hb dL_law_293 ?_
      refine g_top (nI_add i 3) ?_
      refine va_sld hx hb hX hbl hbA X.2.2.2.2 (i := nI (i + 3)) (vp_in_nI (by omega) (by omega)) dL_law_294 ?_
      refine g_top (y := x3) ((congrArg xs (nI_clamp (by omega))).trans ex3.symm) ?_
      refine lv_if_eq (tgt := 302) hx hb dL_law_295 (by decide) (fun c1 => absurd c1 a5) (fun c1 => ?_)
      refine lv_iconst (v := 1) hx hb dL_law_298 (by decide) ?_
      refine lv_goto (tgt := 303) hx hb dL_law_299 (by decide) ?_
      refine lv_aload_n hx hb dL_law_303 rfl (lv_at hl 3 rfl) ?_
      refine g_lawH (n := 5) (As := [.ref o, .int x1, .int x2, .int 1, .ref q]) C X (fun sz => xL_work1 l D t cI cL o ad q sz f u (fun sz => xX0_work1 l D t cI o ad sz u hl0 x1 x2 1 a1)) (rwW_S q132 q133 q36 q134) kd_L_work ⟨Nat.le_of_ble_eq_true rfl, Nat.le_of_ble_eq_true rfl⟩ hl.1 rfl rfl (Nat.le_of_ble_eq_true rfl) dL_law_304 ⟨(show kC + 1 ≤ 601024 by omega), (show nC + 6 ≤ 7293034 by omega)⟩ (fun r9 f9 u9 H locs hp X => ?_)
      obtain ⟨rfl, eu9⟩ := hp
      rw [eu9] at X
      refine lv_istore (lv' := [(5, .int 1), (0, .ref b), (1, .ref o), (2, .ref o2), (3, .ref q), (4, .int (nI i))]) hx hb dL_law_307 hl (by decide) rfl (fun ls hl => ?_)
      refine lv_aload_n hx hb dL_law_309 rfl (lv_at hl 3 rfl) ?_
      refine lv_aload_n hx hb dL_law_310 rfl (lv_at hl 1 rfl) ?_
      refine lv_iload hx hb dL_law_311 (lv_at hl 5 rfl) ?_
      refine lv_iconst (v := 1) hx hb dL_law_313 (by decide) ?_
      refine lv_iadd hx hb dL_law_314 ?_
      refine g_top (nI_add i 1) ?_
      refine va_sld hx hb hX hbl hbA X.2.2.2.2 (i := nI (i + 1)) (vp_in_nI (by omega) (by omega)) dL_law_315 ?_
      refine g_top (y := x1) ((congrArg xs (nI_clamp (by omega))).trans ex1.symm) ?_
      refine lv_aload_n hx hb dL_law_316 rfl (lv_at hl 1 rfl) ?_
      refine lv_iload hx hb dL_law_317 (lv_at hl 5 rfl) ?_
      refine lv_iconst (v := 2) hx hb dL_law_319 (by decide) ?_
      refine lv_iadd hx hb dL_law_320 ?_
      refine g_top (nI_add i 2) ?_
      refine va_sld hx hb hX hbl hbA X.2.2.2.2 (i := nI (i + 2)) (vp_in_nI (by omega) (by omega)) dL_law_321 ?_
      refine g_top (y := x2) ((congrArg xs (nI_clamp (by omega))).trans ex2.symm) ?_
      refine lv_aload_n hx hb dL_law_322 rfl (lv_at hl 1 rfl) ?_
      refine lv_iload hx hb dL_law_323 (lv_at hl 5 rfl) ?_
      refine lv_iconst (v := 3) hx hb dL_law_325 (by decide) ?_
      refine lv_iadd hx hb dL_law_326 ?_
      refine g_top (nI_add i 3) ?_
      refine va_sld hx hb hX hbl hbA X.2.2.2.2 (i := nI (i + 3)) (vp_in_nI (by omega) (by omega)) dL_law_327 ?_
      refine g_top (y := x3) ((congrArg xs (nI_clamp (by omega))).trans ex3.symm) ?_
      refine lv_if_eq (tgt := 335) hx hb dL_law_328 (by decide) (fun c2 => absurd c2 a5) (fun c2 => ?_)
      refine lv_iconst (v := 1) hx hb dL_law_331 (by decide) ?_
      refine lv_goto (tgt := 336) hx hb dL_law_332 (by decide) ?_
      refine g_lawRie (n := 3) (As := [.int x1, .int x2, .int 1]) C X (bX1_work1 l D t cI o2 H.size v hv8 x1 x2 1 (by rw [← ehv]; exact a1)) (rw_V q139 q140 q141 q5 q142) kd_X1_work rfl ⟨Nat.le_of_ble_eq_true rfl, Nat.le_of_ble_eq_true rfl⟩ hl.1 rfl rfl (Nat.le_of_ble_eq_true rfl) dL_law_336 ⟨(show kC + 1 + 0 ≤ 601024 by omega), (show nC + 6 + 0 ≤ 7293034 by omega)⟩ (fun H locs X => ?_)
      refine lv_topi (fun b3 eb3 => ?_)
      refine lv_istore (lv' := [(6, .int b3), (5, .int 1), (0, .ref b), (1, .ref o), (2, .ref o2), (3, .ref q), (4, .int (nI i))]) hx hb dL_law_339 hl (by decide) rfl (fun ls hl => ?_)
      refine lv_goto (tgt := 751) hx hb dL_law_341 (by decide) ?_
      refine W.widen (k := kC + 20) (n := nC + 200) ((by omega)) ((by omega)) ?_
      exact kk _ _ _ _ _ _ X (T.E ra_E0 ⟨rfl, rfl, fun _ _ => ⟨rfl, rfl⟩⟩) (lv_sub hl [2, 3, 4, 5, 6] rfl)
set_option maxHeartbeats 4000000 in
set_option maxRecDepth 100000 in
theorem law_g5 {p : Program} {l : Launch} {e : Env} {s : State} {m : MethodId} {below : List Frame} {meth : Method} {c : Code} {Q : State → Prop} {D : va_G} {t : Nat → Nat} {A : Nat → Prop} {cI cL : ClassId} {o o2 q b L kC nC i : Nat} {ad : Nat → Nat} {xs : Nat → Int32} {u : S0} {v : S1} {f : Nat → Int64} {H : Heap} {locs : List Loc} {ls : Array Slot} (C : gC p s m #[.ref b] meth c code 9 RL D (lT cI cL) t A) (hl0 : l.stackTraces = false) (hX : va_X b L xs s s.heap) (hbl : b < s.heap.size) (hbA : ¬ A b) (hi : i + 4 ≤ L) (hL : L ≤ 2048) (X : lS D A s cI cL o ad u o2 v q f H locs) (T : lTie u v) (hl : lv_has ls 9 [(0, .ref b), (1, .ref o), (2, .ref o2), (3, .ref q), (4, .int (nI i))]) (hk9 : kC + 20 ≤ 601024) (hn9 : nC + 200 ≤ 7293034) (kk : ∀ (u : S0) (v : S1) (f : Nat → Int64) (H : Heap) (locs : List Loc) (ls : Array Slot), lS D A s cI cL o ad u o2 v q f H locs → lTie u v → lv_has ls 9 [(0, .ref b), (1, .ref o), (2, .ref o2), (3, .ref q), (4, .int (nI i))] → W p l e room_1 s m #[.ref b] below meth c H locs (kC + 20) (nC + 200) Q (F0 m 751 ls [])) : W p l e room_1 s m #[.ref b] below meth c H locs kC nC Q (F0 m 344 ls []) := by
  have hx := C.1
  have hb := C.2.1
  have hown := C.2.2.2.1
  have hts := C.2.2.2.2.1
  obtain ⟨ehv, hv8, e7, er, hp4⟩ := id T
  have hu8 : u.2.1 ≤ 8 := by omega
  obtain ⟨x1, ex1⟩ : ∃ z, z = xs (i + 1) := ⟨_, rfl⟩
  obtain ⟨x2, ex2⟩ : ∃ z, z = xs (i + 2) := ⟨_, rfl⟩
  rcases ld_cut u.2.1 (by omega) x1 with ⟨r, hr, rfl⟩ | a1
  · by_cases a2 : x2 < 1 ∨ ¬ x2 ≤ 2000
    · refine lv_aload_n hx hb dL_law_344 rfl (lv_at hl 1 rfl) ?_
      refine lv_aload_n hx hb dL_law_345 rfl (lv_at hl 0 rfl) ?_
      refine lv_iload hx hb dL_law_346 (lv_at hl 4 rfl) ?_
      refine lv_iconst (v := 1) hx hb dL_law_348 (by decide) ?_
      refine lv_iadd hx hb dL_law_349 ?_
      refine g_top (nI_add i 1) ?_
      refine va_sld hx hb hX hbl hbA X.2.2.2.2 (i := nI (i + 1)) (vp_in_nI (by omega) (by omega)) dL_law_350 ?_
      refine g_top (y := nI r) ((congrArg xs (nI_clamp (by omega))).trans ex1.symm) ?_
      refine lv_aload_n hx hb dL_law_351 rfl (lv_at hl 0 rfl) ?_
      refine lv_iload hx hb dL_law_352 (lv_at hl 4 rfl) ?_
      refine lv_iconst (v := 2) hx hb dL_law_354 (by decide) ?_
      refine lv_iadd hx hb dL_law_355 ?_
      refine g_top (nI_add i 2) ?_
      refine va_sld hx hb hX hbl hbA X.2.2.2.2 (i := nI (i + 2)) (vp_in_nI (by omega) (by omega)) dL_law_356 ?_
      refine g_top (y := x2) ((congrArg xs (nI_clamp (by omega))).trans ex2.symm) ?_
      refine lv_aload_n hx hb dL_law_357 rfl (lv_at hl 3 rfl) ?_
      refine g_lawH (n := 4) (As := [.ref o, .int (nI r), .int x2, .ref q]) C X (fun sz => xL_lend2 l D t cI cL o ad q sz f u (fun sz => xX0_lend2 l D t cI o ad sz u hl0 hu8 r hr x2 a2)) (rwW_S q143 q144 q36 q145) kd_L_lend ⟨Nat.le_of_ble_eq_true rfl, Nat.le_of_ble_eq_true rfl⟩ hl.1 rfl rfl (Nat.le_of_ble_eq_true rfl) dL_law_358 ⟨(show kC + 1 ≤ 601024 by omega), (show nC + 6 ≤ 7293034 by omega)⟩ (fun r9 f9 u9 H locs hp X => ?_)
      obtain ⟨rfl, eu9⟩ := hp
      rw [eu9] at X
      refine lv_istore (lv' := [(5, .int 2), (0, .ref b), (1, .ref o), (2, .ref o2), (3, .ref q), (4, .int (nI i))]) hx hb dL_law_361 hl (by decide) rfl (fun ls hl => ?_)
      refine lv_aload_n hx hb dL_law_363 rfl (lv_at hl 3 rfl) ?_
      refine lv_aload_n hx hb dL_law_364 rfl (lv_at hl 1 rfl) ?_
      refine lv_iload hx hb dL_law_365 (lv_at hl 5 rfl) ?_
      refine lv_iconst (v := 1) hx hb dL_law_367 (by decide) ?_
      refine lv_iadd hx hb dL_law_368 ?_
      refine g_top (nI_add i 1) ?_
      refine va_sld hx hb hX hbl hbA X.2.2.2.2 (i := nI (i + 1)) (vp_in_nI (by omega) (by omega)) dL_law_369 ?_
      refine g_top (y := nI r) ((congrArg xs (nI_clamp (by omega))).trans ex1.symm) ?_
      refine lv_aload_n hx hb dL_law_370 rfl (lv_at hl 1 rfl) ?_
      refine lv_iload hx hb dL_law_371 (lv_at hl 5 rfl) ?_
      refine lv_iconst (v := 2) hx hb dL_law_373 (by decide) ?_
      refine lv_iadd hx hb dL_law_374 ?_
      refine g_top (nI_add i 2) ?_
      refine va_sld hx hb hX hbl hbA X.2.2.2.2 (i := nI (i + 2)) (vp_in_nI (by omega) (by omega)) dL_law_375 ?_
      refine g_top (y := x2) ((congrArg xs (nI_clamp (by omega))).trans ex2.symm) ?_
      refine g_lawRi (P := (fun _ v' => rb_E v v')) (n := 2) (As := [.int (nI r), .int x2]) C X (wX1_lend l D t cI o2 H.size v hv8 r (show r < v.2.1 by omega) x2) (fun r w' h => h) (rw_V q150 q151 q152 q5 q153) kd_X1_lend rfl ⟨Nat.le_of_ble_eq_true rfl, Nat.le_of_ble_eq_true rfl⟩ hl.1 rfl rfl (Nat.le_of_ble_eq_true rfl) dL_law_376 ⟨(show kC + 1 + 0 ≤ 601024 by omega), (show nC + 6 + 0 ≤ 7293034 by omega)⟩ (fun b1 v9 H locs hp X => ?_)
      skip
      refine lv_istore (lv' := [(6, .int b1), (5, .int 2), (0, .ref b), (1, .ref o), (2, .ref o2), (3, .ref q), (4, .int (nI i))]) hx hb dL_law_379 hl (by decide) rfl (fun ls hl => ?_)
      refine lv_goto (tgt := 751) hx hb dL_law_381 (by decide) ?_
      refine W.widen (k := kC + 20) (n := nC + 200) ((by omega)) ((by omega)) ?_
      exact kk _ _ _ _ _ _ X (T.E ra_E0 hp) (lv_sub hl [2, 3, 4, 5, 6] rfl)
    · by_cases a4 : 5000 < u.1 4 r + x2
      · refine lv_aload_n hx hb dL_law_344 rfl (lv_at hl 1 rfl) ?_
        refine lv_aload_n hx hb dL_law_345 rfl (lv_at hl 0 rfl) ?_
        refine lv_iload hx hb dL_law_346 (lv_at hl 4 rfl) ?_
        refine lv_iconst (v := 1) hx hb dL_law_348 (by decide) ?_
        refine lv_iadd hx hb dL_law_349 ?_
        refine g_top (nI_add i 1) ?_
        refine va_sld hx hb hX hbl hbA X.2.2.2.2 (i := nI (i + 1)) (vp_in_nI (by omega) (by omega)) dL_law_350 ?_
        refine g_top (y := nI r) ((congrArg xs (nI_clamp (by omega))).trans ex1.symm) ?_
        refine lv_aload_n hx hb dL_law_351 rfl (lv_at hl 0 rfl) ?_
        refine lv_iload hx hb dL_law_352 (lv_at hl 4 rfl) ?_
        refine lv_iconst (v := 2) hx hb dL_law_354 (by decide) ?_
        refine lv_iadd hx hb dL_law_355 ?_
        refine g_top (nI_add i 2) ?_
        refine va_sld hx hb hX hbl hbA X.2.2.2.2 (i := nI (i + 2)) (vp_in_nI (by omega) (by omega)) dL_law_356 ?_
        refine g_top (y := x2) ((congrArg xs (nI_clamp (by omega))).trans ex2.symm) ?_
        refine lv_aload_n hx hb dL_law_357 rfl (lv_at hl 3 rfl) ?_
        refine g_lawH (n := 4) (As := [.ref o, .int (nI r), .int x2, .ref q]) C X (fun sz => xL_lend3 l D t cI cL o ad q sz f u (fun sz => xX0_lend3 l D t cI o ad sz u hl0 hu8 r hr x2 (ld_ok1 a2) (ld_ok2 a2) a4)) (rwW_S q143 q144 q36 q145) kd_L_lend ⟨Nat.le_of_ble_eq_true rfl, Nat.le_of_ble_eq_true rfl⟩ hl.1 rfl rfl (Nat.le_of_ble_eq_true rfl) dL_law_358 ⟨(show kC + 1 ≤ 601024 by omega), (show nC + 6 ≤ 7293034 by omega)⟩ (fun r9 f9 u9 H locs hp X => ?_)
        obtain ⟨rfl, eu9⟩ := hp
        rw [eu9] at X
        refine lv_istore (lv' := [(5, .int 3), (0, .ref b), (1, .ref o), (2, .ref o2), (3, .ref q), (4, .int (nI i))]) hx hb dL_law_361 hl (by decide) rfl (fun ls hl => ?_)
        refine lv_aload_n hx hb dL_law_363 rfl (lv_at hl 3 rfl) ?_
        refine lv_aload_n hx hb dL_law_364 rfl (lv_at hl 1 rfl) ?_
        refine lv_iload hx hb dL_law_365 (lv_at hl 5 rfl) ?_
        refine lv_iconst (v := 1) hx hb dL_law_367 (by decide) ?_
        refine lv_iadd hx hb dL_law_368 ?_
        refine g_top (nI_add i 1) ?_
        refine va_sld hx hb hX hbl hbA X.2.2.2.2 (i := nI (i + 1)) (vp_in_nI (by omega) (by omega)) dL_law_369 ?_
        refine g_top (y := nI r) ((congrArg xs (nI_clamp (by omega))).trans ex1.symm) ?_
        refine lv_aload_n hx hb dL_law_370 rfl (lv_at hl 1 rfl) ?_
        refine lv_iload hx hb dL_law_371 (lv_at hl 5 rfl) ?_
        refine lv_iconst (v := 2) hx hb dL_law_373 (by decide) ?_
        refine lv_iadd hx hb dL_law_374 ?_
        refine g_top (nI_add i 2) ?_
        refine va_sld hx hb hX hbl hbA X.2.2.2.2 (i := nI (i + 2)) (vp_in_nI (by omega) (by omega)) dL_law_375 ?_
        refine g_top (y := x2) ((congrArg xs (nI_clamp (by omega))).trans ex2.symm) ?_
        refine g_lawRi (P := (fun _ v' => rb_E v v')) (n := 2) (As := [.int (nI r), .int x2]) C X (wX1_lend l D t cI o2 H.size v hv8 r (show r < v.2.1 by omega) x2) (fun r w' h => h) (rw_V q150 q151 q152 q5 q153) kd_X1_lend rfl ⟨Nat.le_of_ble_eq_true rfl, Nat.le_of_ble_eq_true rfl⟩ hl.1 rfl rfl (Nat.le_of_ble_eq_true rfl) dL_law_376 ⟨(show kC + 1 + 0 ≤ 601024 by omega), (show nC + 6 + 0 ≤ 7293034 by omega)⟩ (fun b1 v9 H locs hp X => ?_)
        skip
        refine lv_istore (lv' := [(6, .int b1), (5, .int 3), (0, .ref b), (1, .ref o), (2, .ref o2), (3, .ref q), (4, .int (nI i))]) hx hb dL_law_379 hl (by decide) rfl (fun ls hl => ?_)
        refine lv_goto (tgt := 751) hx hb dL_law_381 (by decide) ?_
        refine W.widen (k := kC + 20) (n := nC + 200) ((by omega)) ((by omega)) ?_
        exact kk _ _ _ _ _ _ X (T.E ra_E0 hp) (lv_sub hl [2, 3, 4, 5, 6] rfl)
      · refine lv_aload_n hx hb dL_law_344 rfl (lv_at hl 1 rfl) ?_
        refine lv_aload_n hx hb dL_law_345 rfl (lv_at hl 0 rfl) ?_
        refine lv_iload hx hb dL_law_346 (lv_at hl 4 rfl) ?_
        refine lv_iconst (v := 1) hx hb dL_law_348 (by decide) ?_
        refine lv_iadd hx hb dL_law_349 ?_
        refine g_top (nI_add i 1) ?_
        refine va_sld hx hb hX hbl hbA X.2.2.2.2 (i := nI (i + 1)) (vp_in_nI (by omega) (by omega)) dL_law_350 ?_
        refine g_top (y := nI r) ((congrArg xs (nI_clamp (by omega))).trans ex1.symm) ?_
        refine lv_aload_n hx hb dL_law_351 rfl (lv_at hl 0 rfl) ?_
        refine lv_iload hx hb dL_law_352 (lv_at hl 4 rfl) ?_
        refine lv_iconst (v := 2) hx hb dL_law_354 (by decide) ?_
        refine lv_iadd hx hb dL_law_355 ?_
        refine g_top (nI_add i 2) ?_
        refine va_sld hx hb hX hbl hbA X.2.2.2.2 (i := nI (i + 2)) (vp_in_nI (by omega) (by omega)) dL_law_356 ?_
        refine g_top (y := x2) ((congrArg xs (nI_clamp (by omega))).trans ex2.symm) ?_
        refine lv_aload_n hx hb dL_law_357 rfl (lv_at hl 3 rfl) ?_
        refine g_lawH (n := 4) (As := [.ref o, .int (nI r), .int x2, .ref q]) C X (fun sz => mL_lend l D t cI cL o ad q sz f u (fun sz => mX0_lend l D t cI o ad sz u hu8 r hr x2 (ld_ok1 a2) (ld_ok2 a2) a4)) (rwW_S q143 q144 q36 q145) kd_L_lend ⟨Nat.le_of_ble_eq_true rfl, Nat.le_of_ble_eq_true rfl⟩ hl.1 rfl rfl (Nat.le_of_ble_eq_true rfl) dL_law_358 ⟨(show kC + 0 ≤ 601024 by omega), (show nC + 0 ≤ 7293034 by omega)⟩ (fun r9 f9 u9 H locs hp X => ?_)
        obtain ⟨rfl, eu9, hf⟩ := hp
        rw [eu9] at X
        refine lv_istore (lv' := [(5, .int 0), (0, .ref b), (1, .ref o), (2, .ref o2), (3, .ref q), (4, .int (nI i))]) hx hb dL_law_361 hl (by decide) rfl (fun ls hl => ?_)
        refine lv_aload_n hx hb dL_law_363 rfl (lv_at hl 3 rfl) ?_
        refine lv_aload_n hx hb dL_law_364 rfl (lv_at hl 1 rfl) ?_
        refine lv_iload hx hb dL_law_365 (lv_at hl 5 rfl) ?_
        refine lv_iconst (v := 1) hx hb dL_law_367 (by decide) ?_
        refine lv_iadd hx hb dL_law_368 ?_
        refine g_top (nI_add i 1) ?_
        refine va_sld hx hb hX hbl hbA X.2.2.2.2 (i := nI (i + 1)) (vp_in_nI (by omega) (by omega)) dL_law_369 ?_
        refine g_top (y := nI r) ((congrArg xs (nI_clamp (by omega))).trans ex1.symm) ?_
        refine lv_aload_n hx hb dL_law_370 rfl (lv_at hl 1 rfl) ?_
        refine lv_iload hx hb dL_law_371 (lv_at hl 5 rfl) ?_
        refine lv_iconst (v := 2) hx hb dL_law_373 (by decide) ?_
        refine lv_iadd hx hb dL_law_374 ?_
        refine g_top (nI_add i 2) ?_
        refine va_sld hx hb hX hbl hbA X.2.2.2.2 (i := nI (i + 2)) (vp_in_nI (by omega) (by omega)) dL_law_375 ?_
        refine g_top (y := x2) ((congrArg xs (nI_clamp (by omega))).trans ex2.symm) ?_
        refine g_lawRi (P := (fun _ v' => rb_E v v')) (n := 2) (As := [.int (nI r), .int x2]) C X (wX1_lend l D t cI o2 H.size v hv8 r (show r < v.2.1 by omega) x2) (fun r w' h => h) (rw_V q150 q151 q152 q5 q153) kd_X1_lend rfl ⟨Nat.le_of_ble_eq_true rfl, Nat.le_of_ble_eq_true rfl⟩ hl.1 rfl rfl (Nat.le_of_ble_eq_true rfl) dL_law_376 ⟨(show kC + 0 + 0 ≤ 601024 by omega), (show nC + 0 + 0 ≤ 7293034 by omega)⟩ (fun b1 v9 H locs hp X => ?_)
        skip
        refine lv_istore (lv' := [(6, .int b1), (5, .int 0), (0, .ref b), (1, .ref o), (2, .ref o2), (3, .ref q), (4, .int (nI i))]) hx hb dL_law_379 hl (by decide) rfl (fun ls hl => ?_)
        refine lv_goto (tgt := 751) hx hb dL_law_381 (by decide) ?_
        refine W.widen (k := kC + 20) (n := nC + 200) ((by omega)) ((by omega)) ?_
        exact kk _ _ _ _ _ _ X (T.E (ra_Es (by decide)) hp) (lv_sub hl [2, 3, 4, 5, 6] rfl)
  · refine lv_aload_n hx hb dL_law_344 rfl (lv_at hl 1 rfl) ?_
    refine lv_aload_n hx hb dL_law_345 rfl (lv_at hl 0 rfl) ?_
    refine lv_iload hx hb dL_law_346 (lv_at hl 4 rfl) ?_
    refine lv_iconst (v := 1) hx hb dL_law_348 (by decide) ?_
    refine lv_iadd hx hb dL_law_349 ?_
    refine g_top (nI_add i 1) ?_
    refine va_sld hx hb hX hbl hbA X.2.2.2.2 (i := nI (i + 1)) (vp_in_nI (by omega) (by omega)) dL_law_350 ?_
    refine g_top (y := x1) ((congrArg xs (nI_clamp (by omega))).trans ex1.symm) ?_
    refine lv_aload_n hx hb dL_law_351 rfl (lv_at hl 0 rfl) ?_
    refine lv_iload hx hb dL_law_352 (lv_at hl 4 rfl) ?_
    refine lv_iconst (v := 2) hx hb dL_law_354 (by decide) ?_
    refine lv_iadd hx hb dL_law_355 ?_
    refine g_top (nI_add i 2) ?_
    refine va_sld hx hb hX hbl hbA X.2.2.2.2 (i := nI (i + 2)) (vp_in_nI (by omega) (by omega)) dL_law_356 ?_
    refine g_top (y := x2) ((congrArg xs (nI_clamp (by omega))).trans ex2.symm) ?_
    refine lv_aload_n hx hb dL_law_357 rfl (lv_at hl 3 rfl) ?_
    refine g_lawH (n := 4) (As := [.ref o, .int x1, .int x2, .ref q]) C X (fun sz => xL_lend1 l D t cI cL o ad q sz f u (fun sz => xX0_lend1 l D t cI o ad sz u hl0 x1 x2 a1)) (rwW_S q143 q144 q36 q145) kd_L_lend ⟨Nat.le_of_ble_eq_true rfl, Nat.le_of_ble_eq_true rfl⟩ hl.1 rfl rfl (Nat.le_of_ble_eq_true rfl) dL_law_358 ⟨(show kC + 1 ≤ 601024 by omega), (show nC + 6 ≤ 7293034 by omega)⟩ (fun r9 f9 u9 H locs hp X => ?_)
    obtain ⟨rfl, eu9⟩ := hp
    rw [eu9] at X
    refine lv_istore (lv' := [(5, .int 1), (0, .ref b), (1, .ref o), (2, .ref o2), (3, .ref q), (4, .int (nI i))]) hx hb dL_law_361 hl (by decide) rfl (fun ls hl => ?_)
    refine lv_aload_n hx hb dL_law_363 rfl (lv_at hl 3 rfl) ?_
    refine lv_aload_n hx hb dL_law_364 rfl (lv_at hl 1 rfl) ?_
    refine lv_iload hx hb dL_law_365 (lv_at hl 5 rfl) ?_
    refine lv_iconst (v := 1) hx hb dL_law_367 (by decide) ?_
    refine lv_iadd hx hb dL_law_368 ?_
    refine g_top (nI_add i 1) ?_
    refine va_sld hx hb hX hbl hbA X.2.2.2.2 (i := nI (i + 1)) (vp_in_nI (by omega) (by omega)) dL_law_369 ?_
    refine g_top (y := x1) ((congrArg xs (nI_clamp (by omega))).trans ex1.symm) ?_
    refine lv_aload_n hx hb dL_law_370 rfl (lv_at hl 1 rfl) ?_
    refine lv_iload hx hb dL_law_371 (lv_at hl 5 rfl) ?_
    refine lv_iconst (v := 2) hx hb dL_law_373 (by decide) ?_
    refine lv_iadd hx hb dL_law_374 ?_
    refine g_top (nI_add i 2) ?_
    refine va_sld hx hb hX hbl hbA X.2.2.2.2 (i := nI (i + 2)) (vp_in_nI (by omega) (by omega)) dL_law_375 ?_
    refine g_top (y := x2) ((congrArg xs (nI_clamp (by omega))).trans ex2.symm) ?_
    refine g_lawRi (P := (fun _ v' => rb_E v v')) (n := 2) (As := [.int x1, .int x2]) C X (wbX1_lend1 l D t cI o2 H.size v hv8 x1 x2 (by rw [← ehv]; exact a1)) (fun r w' h => h) (rw_V q150 q151 q152 q5 q153) kd_X1_lend rfl ⟨Nat.le_of_ble_eq_true rfl, Nat.le_of_ble_eq_true rfl⟩ hl.1 rfl rfl (Nat.le_of_ble_eq_true rfl) dL_law_376 ⟨(show kC + 1 + 0 ≤ 601024 by omega), (show nC + 6 + 0 ≤ 7293034 by omega)⟩ (fun b1 v9 H locs hp X => ?_)
    skip
    refine lv_istore (lv' := [(6, .int b1), (5, .int 1), (0, .ref b), (1, .ref o), (2, .ref o2), (3, .ref q), (4, .int (nI i))]) hx hb dL_law_379 hl (by decide) rfl (fun ls hl => ?_)
    refine lv_goto (tgt := 751) hx hb dL_law_381 (by decide) ?_
    refine W.widen (k := kC + 20) (n := nC + 200) ((by omega)) ((by omega)) ?_
    exact kk _ _ _ _ _ _ X (T.E ra_E0 hp) (lv_sub hl [2, 3, 4, 5, 6] rfl)
set_option maxHeartbeats 4000000 in
set_option maxRecDepth 100000 in
theorem law_g6 {p : Program} {l : Launch} {e : Env} {s : State} {m : MethodId} {below : List Frame} {meth : Method} {c : Code} {Q : State → Prop} {D : va_G} {t : Nat → Nat} {A : Nat → Prop} {cI cL : ClassId} {o o2 q b L kC nC i : Nat} {ad : Nat → Nat} {xs : Nat → Int32} {u : S0} {v : S1} {f : Nat → Int64} {H : Heap} {locs : List Loc} {ls : Array Slot} (C : gC p s m #[.ref b] meth c code 9 RL D (lT cI cL) t A) (hl0 : l.stackTraces = false) (hX : va_X b L xs s s.heap) (hbl : b < s.heap.size) (hbA : ¬ A b) (hi : i + 4 ≤ L) (hL : L ≤ 2048) (X : lS D A s cI cL o ad u o2 v q f H locs) (T : lTie u v) (hl : lv_has ls 9 [(0, .ref b), (1, .ref o), (2, .ref o2), (3, .ref q), (4, .int (nI i))]) (hk9 : kC + 20 ≤ 601024) (hn9 : nC + 200 ≤ 7293034) (kk : ∀ (u : S0) (v : S1) (f : Nat → Int64) (H : Heap) (locs : List Loc) (ls : Array Slot), lS D A s cI cL o ad u o2 v q f H locs → lTie u v → lv_has ls 9 [(0, .ref b), (1, .ref o), (2, .ref o2), (3, .ref q), (4, .int (nI i))] → W p l e room_1 s m #[.ref b] below meth c H locs (kC + 20) (nC + 200) Q (F0 m 751 ls [])) : W p l e room_1 s m #[.ref b] below meth c H locs kC nC Q (F0 m 384 ls []) := by
  have hx := C.1
  have hb := C.2.1
  have hown := C.2.2.2.1
  have hts := C.2.2.2.2.1
  obtain ⟨ehv, hv8, e7, er, hp4⟩ := id T
  have hu8 : u.2.1 ≤ 8 := by omega
  refine lv_aload_n hx hb dL_law_384 rfl (lv_at hl 1 rfl) ?_
  refine g_lawXie (n := 0) (As := []) C X (mX0_pay l D t cI o ad H.size u hu8) (rw_V q154 q155 q156 q2 q157) kd_X0_pay rfl ⟨Nat.le_of_ble_eq_true rfl, Nat.le_of_ble_eq_true rfl⟩ hl.1 rfl rfl (Nat.le_of_ble_eq_true rfl) dL_law_385 ⟨(show kC + 0 ≤ 601024 by omega), (show nC + 0 ≤ 7293034 by omega)⟩ (fun H locs X => ?_)
  refine lv_topi (fun b1 eb1 => ?_)
  refine lv_pop hx hb dL_law_388 rfl ?_
  refine lv_aload_n hx hb dL_law_389 rfl (lv_at hl 2 rfl) ?_
  refine g_lawRi (P := (fun _ v' => rb_R (rb_t v 0) v' v.2.1)) (n := 0) (As := []) C X (wX1_pay l D t cI o2 H.size v hv8 hp4) (fun r w' h => h) (rw_V q203 q204 q205 q5 q206) kd_X1_pay rfl ⟨Nat.le_of_ble_eq_true rfl, Nat.le_of_ble_eq_true rfl⟩ hl.1 rfl rfl (Nat.le_of_ble_eq_true rfl) dL_law_390 ⟨(show kC + 0 + 8 ≤ 601024 by omega), (show nC + 0 + 56 ≤ 7293034 by omega)⟩ (fun b2 v9 H locs hp X => ?_)
  skip
  refine lv_pop hx hb dL_law_393 rfl ?_
  refine lv_goto (tgt := 751) hx hb dL_law_394 (by decide) ?_
  refine W.widen (k := kC + 20) (n := nC + 200) ((by omega)) ((by omega)) ?_
  exact kk _ _ _ _ _ _ X ((T.E ra_E0 rb_E.t).R (rf_pyR u.2.1) hp) (lv_sub hl [0, 1, 2, 3, 4] rfl)
set_option maxHeartbeats 4000000 in
set_option maxRecDepth 100000 in
theorem law_g7 {p : Program} {l : Launch} {e : Env} {s : State} {m : MethodId} {below : List Frame} {meth : Method} {c : Code} {Q : State → Prop} {D : va_G} {t : Nat → Nat} {A : Nat → Prop} {cI cL : ClassId} {o o2 q b L kC nC i : Nat} {ad : Nat → Nat} {xs : Nat → Int32} {u : S0} {v : S1} {f : Nat → Int64} {H : Heap} {locs : List Loc} {ls : Array Slot} (C : gC p s m #[.ref b] meth c code 9 RL D (lT cI cL) t A) (hl0 : l.stackTraces = false) (hX : va_X b L xs s s.heap) (hbl : b < s.heap.size) (hbA : ¬ A b) (hi : i + 4 ≤ L) (hL : L ≤ 2048) (X : lS D A s cI cL o ad u o2 v q f H locs) (T : lTie u v) (hl : lv_has ls 9 [(0, .ref b), (1, .ref o), (2, .ref o2), (3, .ref q), (4, .int (nI i))]) (hk9 : kC + 20 ≤ 601024) (hn9 : nC + 200 ≤ 7293034) (kk : ∀ (u : S0) (v : S1) (f : Nat → Int64) (H : Heap) (locs : List Loc) (ls : Array Slot), lS D A s cI cL o ad u o2 v q f H locs → lTie u v → lv_has ls 9 [(0, .ref b), (1, .ref o), (2, .ref o2), (3, .ref q), (4, .int (nI i))] → W p l e room_1 s m #[.ref b] below meth c H locs (kC + 20) (nC + 200) Q (F0 m 751 ls [])) : W p l e room_1 s m #[.ref b] below meth c H locs kC nC Q (F0 m 397 ls []) := by
  have hx := C.1
  have hb := C.2.1
  have hown := C.2.2.2.1
  have hts := C.2.2.2.2.1
  obtain ⟨ehv, hv8, e7, er, hp4⟩ := id T
  have hu8 : u.2.1 ≤ 8 := by omega
  obtain ⟨x1, ex1⟩ : ∃ z, z = xs (i + 1) := ⟨_, rfl⟩
  obtain ⟨x2, ex2⟩ : ∃ z, z = xs (i + 2) := ⟨_, rfl⟩
  rcases ld_cut u.2.1 (by omega) x1 with ⟨r, hr, rfl⟩ | a1
  · rcases ld_cut 8 (by omega) x2 with ⟨k, hk, rfl⟩ | a2
    · refine lv_aload_n hx hb dL_law_397 rfl (lv_at hl 1 rfl) ?_
      refine lv_aload_n hx hb dL_law_398 rfl (lv_at hl 0 rfl) ?_
      refine lv_iload hx hb dL_law_399 (lv_at hl 4 rfl) ?_
      refine lv_iconst (v := 1) hx hb dL_law_401 (by decide) ?_
      refine lv_iadd hx hb dL_law_402 ?_
      refine g_top (nI_add i 1) ?_
      refine va_sld hx hb hX hbl hbA X.2.2.2.2 (i := nI (i + 1)) (vp_in_nI (by omega) (by omega)) dL_law_403 ?_
      refine g_top (y := nI r) ((congrArg xs (nI_clamp (by omega))).trans ex1.symm) ?_
      refine lv_aload_n hx hb dL_law_404 rfl (lv_at hl 0 rfl) ?_
      refine lv_iload hx hb dL_law_405 (lv_at hl 4 rfl) ?_
      refine lv_iconst (v := 2) hx hb dL_law_407 (by decide) ?_
      refine lv_iadd hx hb dL_law_408 ?_
      refine g_top (nI_add i 2) ?_
      refine va_sld hx hb hX hbl hbA X.2.2.2.2 (i := nI (i + 2)) (vp_in_nI (by omega) (by omega)) dL_law_409 ?_
      refine g_top (y := nI k) ((congrArg xs (nI_clamp (by omega))).trans ex2.symm) ?_
      refine lv_aload_n hx hb dL_law_410 rfl (lv_at hl 3 rfl) ?_
      refine g_lawH (n := 4) (As := [.ref o, .int (nI r), .int (nI k), .ref q]) C X (fun sz => mL_told l D t cI cL o ad q sz f u (fun sz => mX0_told l D t cI o ad sz u hu8 r hr k hk)) (rwW_S q243 q244 q36 q245) kd_L_told ⟨Nat.le_of_ble_eq_true rfl, Nat.le_of_ble_eq_true rfl⟩ hl.1 rfl rfl (Nat.le_of_ble_eq_true rfl) dL_law_411 ⟨(show kC + 0 ≤ 601024 by omega), (show nC + 0 ≤ 7293034 by omega)⟩ (fun r9 f9 u9 H locs hp X => ?_)
      obtain ⟨rfl, eu9, hf⟩ := hp
      rw [eu9] at X
      refine lv_istore (lv' := [(5, .int 0), (0, .ref b), (1, .ref o), (2, .ref o2), (3, .ref q), (4, .int (nI i))]) hx hb dL_law_414 hl (by decide) rfl (fun ls hl => ?_)
      refine lv_aload_n hx hb dL_law_416 rfl (lv_at hl 3 rfl) ?_
      refine lv_aload_n hx hb dL_law_417 rfl (lv_at hl 1 rfl) ?_
      refine lv_iload hx hb dL_law_418 (lv_at hl 5 rfl) ?_
      refine lv_iconst (v := 1) hx hb dL_law_420 (by decide) ?_
      refine lv_iadd hx hb dL_law_421 ?_
      refine g_top (nI_add i 1) ?_
      refine va_sld hx hb hX hbl hbA X.2.2.2.2 (i := nI (i + 1)) (vp_in_nI (by omega) (by omega)) dL_law_422 ?_
      refine g_top (y := nI r) ((congrArg xs (nI_clamp (by omega))).trans ex1.symm) ?_
      refine lv_aload_n hx hb dL_law_423 rfl (lv_at hl 1 rfl) ?_
      refine lv_iload hx hb dL_law_424 (lv_at hl 5 rfl) ?_
      refine lv_iconst (v := 2) hx hb dL_law_426 (by decide) ?_
      refine lv_iadd hx hb dL_law_427 ?_
      refine g_top (nI_add i 2) ?_
      refine va_sld hx hb hX hbl hbA X.2.2.2.2 (i := nI (i + 2)) (vp_in_nI (by omega) (by omega)) dL_law_428 ?_
      refine g_top (y := nI k) ((congrArg xs (nI_clamp (by omega))).trans ex2.symm) ?_
      refine g_lawRi (P := (fun _ v' => rb_E v v')) (n := 2) (As := [.int (nI r), .int (nI k)]) C X (wX1_told l D t cI o2 H.size v hv8 r (show r < v.2.1 by omega) k hk) (fun r w' h => h) (rw_V q250 q251 q252 q5 q253) kd_X1_told rfl ⟨Nat.le_of_ble_eq_true rfl, Nat.le_of_ble_eq_true rfl⟩ hl.1 rfl rfl (Nat.le_of_ble_eq_true rfl) dL_law_429 ⟨(show kC + 0 + 0 ≤ 601024 by omega), (show nC + 0 + 0 ≤ 7293034 by omega)⟩ (fun b1 v9 H locs hp X => ?_)
      skip
      refine lv_istore (lv' := [(6, .int b1), (5, .int 0), (0, .ref b), (1, .ref o), (2, .ref o2), (3, .ref q), (4, .int (nI i))]) hx hb dL_law_432 hl (by decide) rfl (fun ls hl => ?_)
      refine lv_goto (tgt := 751) hx hb dL_law_434 (by decide) ?_
      refine W.widen (k := kC + 20) (n := nC + 200) ((by omega)) ((by omega)) ?_
      exact kk _ _ _ _ _ _ X (T.E ra_E0 hp) (lv_sub hl [2, 3, 4, 5, 6] rfl)
    · refine lv_aload_n hx hb dL_law_397 rfl (lv_at hl 1 rfl) ?_
      refine lv_aload_n hx hb dL_law_398 rfl (lv_at hl 0 rfl) ?_
      refine lv_iload hx hb dL_law_399 (lv_at hl 4 rfl) ?_
      refine lv_iconst (v := 1) hx hb dL_law_401 (by decide) ?_
      refine lv_iadd hx hb dL_law_402 ?_
      refine g_top (nI_add i 1) ?_
      refine va_sld hx hb hX hbl hbA X.2.2.2.2 (i := nI (i + 1)) (vp_in_nI (by omega) (by omega)) dL_law_403 ?_
      refine g_top (y := nI r) ((congrArg xs (nI_clamp (by omega))).trans ex1.symm) ?_
      refine lv_aload_n hx hb dL_law_404 rfl (lv_at hl 0 rfl) ?_
      refine lv_iload hx hb dL_law_405 (lv_at hl 4 rfl) ?_
      refine lv_iconst (v := 2) hx hb dL_law_407 (by decide) ?_
      refine lv_iadd hx hb dL_law_408 ?_
      refine g_top (nI_add i 2) ?_
      refine va_sld hx hb hX hbl hbA X.2.2.2.2 (i := nI (i + 2)) (vp_in_nI (by omega) (by omega)) dL_law_409 ?_
      refine g_top (y := x2) ((congrArg xs (nI_clamp (by omega))).trans ex2.symm) ?_
      refine lv_aload_n hx hb dL_law_410 rfl (lv_at hl 3 rfl) ?_
      refine g_lawH (n := 4) (As := [.ref o, .int (nI r), .int x2, .ref q]) C X (fun sz => xL_told2 l D t cI cL o ad q sz f u (fun sz => xX0_told2 l D t cI o ad sz u hl0 hu8 r hr x2 a2)) (rwW_S q243 q244 q36 q245) kd_L_told ⟨Nat.le_of_ble_eq_true rfl, Nat.le_of_ble_eq_true rfl⟩ hl.1 rfl rfl (Nat.le_of_ble_eq_true rfl) dL_law_411 ⟨(show kC + 1 ≤ 601024 by omega), (show nC + 6 ≤ 7293034 by omega)⟩ (fun r9 f9 u9 H locs hp X => ?_)
      obtain ⟨rfl, eu9⟩ := hp
      rw [eu9] at X
      refine lv_istore (lv' := [(5, .int 1), (0, .ref b), (1, .ref o), (2, .ref o2), (3, .ref q), (4, .int (nI i))]) hx hb dL_law_414 hl (by decide) rfl (fun ls hl => ?_)
      refine lv_aload_n hx hb dL_law_416 rfl (lv_at hl 3 rfl) ?_
      refine lv_aload_n hx hb dL_law_417 rfl (lv_at hl 1 rfl) ?_
      refine lv_iload hx hb dL_law_418 (lv_at hl 5 rfl) ?_
      refine lv_iconst (v := 1) hx hb dL_law_420 (by decide) ?_
      refine lv_iadd hx hb dL_law_421 ?_
      refine g_top (nI_add i 1) ?_
      refine va_sld hx hb hX hbl hbA X.2.2.2.2 (i := nI (i + 1)) (vp_in_nI (by omega) (by omega)) dL_law_422 ?_
      refine g_top (y := nI r) ((congrArg xs (nI_clamp (by omega))).trans ex1.symm) ?_
      refine lv_aload_n hx hb dL_law_423 rfl (lv_at hl 1 rfl) ?_
      refine lv_iload hx hb dL_law_424 (lv_at hl 5 rfl) ?_
      refine lv_iconst (v := 2) hx hb dL_law_426 (by decide) ?_
      refine lv_iadd hx hb dL_law_427 ?_
      refine g_top (nI_add i 2) ?_
      refine va_sld hx hb hX hbl hbA X.2.2.2.2 (i := nI (i + 2)) (vp_in_nI (by omega) (by omega)) dL_law_428 ?_
      refine g_top (y := x2) ((congrArg xs (nI_clamp (by omega))).trans ex2.symm) ?_
      refine g_lawRi (P := (fun _ v' => rb_E v v')) (n := 2) (As := [.int (nI r), .int x2]) C X (wbX1_told2 l D t cI o2 H.size v hv8 r (show r < v.2.1 by omega) x2 a2) (fun r w' h => h) (rw_V q250 q251 q252 q5 q253) kd_X1_told rfl ⟨Nat.le_of_ble_eq_true rfl, Nat.le_of_ble_eq_true rfl⟩ hl.1 rfl rfl (Nat.le_of_ble_eq_true rfl) dL_law_429 ⟨(show kC + 1 + 0 ≤ 601024 by omega), (show nC + 6 + 0 ≤ 7293034 by omega)⟩ (fun b1 v9 H locs hp X => ?_)
      skip
      refine lv_istore (lv' := [(6, .int b1), (5, .int 1), (0, .ref b), (1, .ref o), (2, .ref o2), (3, .ref q), (4, .int (nI i))]) hx hb dL_law_432 hl (by decide) rfl (fun ls hl => ?_)
      refine lv_goto (tgt := 751) hx hb dL_law_434 (by decide) ?_
      refine W.widen (k := kC + 20) (n := nC + 200) ((by omega)) ((by omega)) ?_
      exact kk _ _ _ _ _ _ X (T.E ra_E0 hp) (lv_sub hl [2, 3, 4, 5, 6] rfl)
  · refine lv_aload_n hx hb dL_law_397 rfl (lv_at hl 1 rfl) ?_
    refine lv_aload_n hx hb dL_law_398 rfl (lv_at hl 0 rfl) ?_
    refine lv_iload hx hb dL_law_399 (lv_at hl 4 rfl) ?_
    refine lv_iconst (v := 1) hx hb dL_law_401 (by decide) ?_
    refine lv_iadd hx hb dL_law_402 ?_
    refine g_top (nI_add i 1) ?_
    refine va_sld hx hb hX hbl hbA X.2.2.2.2 (i := nI (i + 1)) (vp_in_nI (by omega) (by omega)) dL_law_403 ?_
    refine g_top (y := x1) ((congrArg xs (nI_clamp (by omega))).trans ex1.symm) ?_
    refine lv_aload_n hx hb dL_law_404 rfl (lv_at hl 0 rfl) ?_
    refine lv_iload hx hb dL_law_405 (lv_at hl 4 rfl) ?_
    refine lv_iconst (v := 2) hx hb dL_law_407 (by decide) ?_
    refine lv_iadd hx hb dL_law_408 ?_
    refine g_top (nI_add i 2) ?_
    refine va_sld hx hb hX hbl hbA X.2.2.2.2 (i := nI (i + 2)) (vp_in_nI (by omega) (by omega)) dL_law_409 ?_
    refine g_top (y := x2) ((congrArg xs (nI_clamp (by omega))).trans ex2.symm) ?_
    refine lv_aload_n hx hb dL_law_410 rfl (lv_at hl 3 rfl) ?_
    refine g_lawH (n := 4) (As := [.ref o, .int x1, .int x2, .ref q]) C X (fun sz => xL_told1 l D t cI cL o ad q sz f u (fun sz => xX0_told1 l D t cI o ad sz u hl0 x1 x2 a1)) (rwW_S q243 q244 q36 q245) kd_L_told ⟨Nat.le_of_ble_eq_true rfl, Nat.le_of_ble_eq_true rfl⟩ hl.1 rfl rfl (Nat.le_of_ble_eq_true rfl) dL_law_411 ⟨(show kC + 1 ≤ 601024 by omega), (show nC + 6 ≤ 7293034 by omega)⟩ (fun r9 f9 u9 H locs hp X => ?_)
    obtain ⟨rfl, eu9⟩ := hp
    rw [eu9] at X
    refine lv_istore (lv' := [(5, .int 1), (0, .ref b), (1, .ref o), (2, .ref o2), (3, .ref q), (4, .int (nI i))]) hx hb dL_law_414 hl (by decide) rfl (fun ls hl => ?_)
    refine lv_aload_n hx hb dL_law_416 rfl (lv_at hl 3 rfl) ?_
    refine lv_aload_n hx hb dL_law_417 rfl (lv_at hl 1 rfl) ?_
    refine lv_iload hx hb dL_law_418 (lv_at hl 5 rfl) ?_
    refine lv_iconst (v := 1) hx hb dL_law_420 (by decide) ?_
    refine lv_iadd hx hb dL_law_421 ?_
    refine g_top (nI_add i 1) ?_
    refine va_sld hx hb hX hbl hbA X.2.2.2.2 (i := nI (i + 1)) (vp_in_nI (by omega) (by omega)) dL_law_422 ?_
    refine g_top (y := x1) ((congrArg xs (nI_clamp (by omega))).trans ex1.symm) ?_
    refine lv_aload_n hx hb dL_law_423 rfl (lv_at hl 1 rfl) ?_
    refine lv_iload hx hb dL_law_424 (lv_at hl 5 rfl) ?_
    refine lv_iconst (v := 2) hx hb dL_law_426 (by decide) ?_
    refine lv_iadd hx hb dL_law_427 ?_
    refine g_top (nI_add i 2) ?_
    refine va_sld hx hb hX hbl hbA X.2.2.2.2 (i := nI (i + 2)) (vp_in_nI (by omega) (by omega)) dL_law_428 ?_
    refine g_top (y := x2) ((congrArg xs (nI_clamp (by omega))).trans ex2.symm) ?_
    refine g_lawRi (P := (fun _ v' => rb_E v v')) (n := 2) (As := [.int x1, .int x2]) C X (wbX1_told1 l D t cI o2 H.size v hv8 x1 x2 (by rw [← ehv]; exact a1)) (fun r w' h => h) (rw_V q250 q251 q252 q5 q253) kd_X1_told rfl ⟨Nat.le_of_ble_eq_true rfl, Nat.le_of_ble_eq_true rfl⟩ hl.1 rfl rfl (Nat.le_of_ble_eq_true rfl) dL_law_429 ⟨(show kC + 1 + 0 ≤ 601024 by omega), (show nC + 6 + 0 ≤ 7293034 by omega)⟩ (fun b1 v9 H locs hp X => ?_)
    skip
    refine lv_istore (lv' := [(6, .int b1), (5, .int 1), (0, .ref b), (1, .ref o), (2, .ref o2), (3, .ref q), (4, .int (nI i))]) hx hb dL_law_432 hl (by decide) rfl (fun ls hl => ?_)
    refine lv_goto (tgt := 751) hx hb dL_law_434 (by decide) ?_
    refine W.widen (k := kC + 20) (n := nC + 200) ((by omega)) ((by omega)) ?_
    exact kk _ _ _ _ _ _ X (T.E ra_E0 hp) (lv_sub hl [2, 3, 4, 5, 6] rfl)
set_option maxHeartbeats 4000000 in
set_option maxRecDepth 100000 in
theorem law_g8 {p : Program} {l : Launch} {e : Env} {s : State} {m : MethodId} {below : List Frame} {meth : Method} {c : Code} {Q : State → Prop} {D : va_G} {t : Nat → Nat} {A : Nat → Prop} {cI cL : ClassId} {o o2 q b L kC nC i : Nat} {ad : Nat → Nat} {xs : Nat → Int32} {u : S0} {v : S1} {f : Nat → Int64} {H : Heap} {locs : List Loc} {ls : Array Slot} (C : gC p s m #[.ref b] meth c code 9 RL D (lT cI cL) t A) (hl0 : l.stackTraces = false) (hX : va_X b L xs s s.heap) (hbl : b < s.heap.size) (hbA : ¬ A b) (hi : i + 4 ≤ L) (hL : L ≤ 2048) (X : lS D A s cI cL o ad u o2 v q f H locs) (T : lTie u v) (hl : lv_has ls 9 [(0, .ref b), (1, .ref o), (2, .ref o2), (3, .ref q), (4, .int (nI i))]) (hk9 : kC + 20 ≤ 601024) (hn9 : nC + 200 ≤ 7293034) (kk : ∀ (u : S0) (v : S1) (f : Nat → Int64) (H : Heap) (locs : List Loc) (ls : Array Slot), lS D A s cI cL o ad u o2 v q f H locs → lTie u v → lv_has ls 9 [(0, .ref b), (1, .ref o), (2, .ref o2), (3, .ref q), (4, .int (nI i))] → W p l e room_1 s m #[.ref b] below meth c H locs (kC + 20) (nC + 200) Q (F0 m 751 ls [])) : W p l e room_1 s m #[.ref b] below meth c H locs kC nC Q (F0 m 437 ls []) := by
  have hx := C.1
  have hb := C.2.1
  have hown := C.2.2.2.1
  have hts := C.2.2.2.2.1
  obtain ⟨ehv, hv8, e7, er, hp4⟩ := id T
  have hu8 : u.2.1 ≤ 8 := by omega
  obtain ⟨x1, ex1⟩ : ∃ z, z = xs (i + 1) := ⟨_, rfl⟩
  obtain ⟨x2, ex2⟩ : ∃ z, z = xs (i + 2) := ⟨_, rfl⟩
  rcases ld_cut u.2.1 (by omega) x1 with ⟨r, hr, rfl⟩ | a1
  · rcases ld_cut 6 (by omega) x2 with ⟨k, hk, rfl⟩ | a2
    · refine lv_aload_n hx hb dL_law_437 rfl (lv_at hl 1 rfl) ?_
      refine lv_aload_n hx hb dL_law_438 rfl (lv_at hl 0 rfl) ?_
      refine lv_iload hx hb dL_law_439 (lv_at hl 4 rfl) ?_
      refine lv_iconst (v := 1) hx hb dL_law_441 (by decide) ?_
      refine lv_iadd hx hb dL_law_442 ?_
      refine g_top (nI_add i 1) ?_
      refine va_sld hx hb hX hbl hbA X.2.2.2.2 (i := nI (i + 1)) (vp_in_nI (by omega) (by omega)) dL_law_443 ?_
      refine g_top (y := nI r) ((congrArg xs (nI_clamp (by omega))).trans ex1.symm) ?_
      refine lv_aload_n hx hb dL_law_444 rfl (lv_at hl 0 rfl) ?_
      refine lv_iload hx hb dL_law_445 (lv_at hl 4 rfl) ?_
      refine lv_iconst (v := 2) hx hb dL_law_447 (by decide) ?_
      refine lv_iadd hx hb dL_law_448 ?_
      refine g_top (nI_add i 2) ?_
      refine va_sld hx hb hX hbl hbA X.2.2.2.2 (i := nI (i + 2)) (vp_in_nI (by omega) (by omega)) dL_law_449 ?_
      refine g_top (y := nI k) ((congrArg xs (nI_clamp (by omega))).trans ex2.symm) ?_
      refine lv_aload_n hx hb dL_law_450 rfl (lv_at hl 3 rfl) ?_
      refine g_lawH (n := 4) (As := [.ref o, .int (nI r), .int (nI k), .ref q]) C X (fun sz => mL_wage l D t cI cL o ad q sz f u (fun sz => mX0_wage l D t cI o ad sz u hu8 r hr k hk)) (rwW_S q258 q259 q36 q260) kd_L_wage ⟨Nat.le_of_ble_eq_true rfl, Nat.le_of_ble_eq_true rfl⟩ hl.1 rfl rfl (Nat.le_of_ble_eq_true rfl) dL_law_451 ⟨(show kC + 0 ≤ 601024 by omega), (show nC + 0 ≤ 7293034 by omega)⟩ (fun r9 f9 u9 H locs hp X => ?_)
      obtain ⟨rfl, eu9, hf⟩ := hp
      rw [eu9] at X
      refine lv_istore (lv' := [(5, .int 0), (0, .ref b), (1, .ref o), (2, .ref o2), (3, .ref q), (4, .int (nI i))]) hx hb dL_law_454 hl (by decide) rfl (fun ls hl => ?_)
      refine lv_aload_n hx hb dL_law_456 rfl (lv_at hl 3 rfl) ?_
      refine lv_aload_n hx hb dL_law_457 rfl (lv_at hl 1 rfl) ?_
      refine lv_iload hx hb dL_law_458 (lv_at hl 5 rfl) ?_
      refine lv_iconst (v := 1) hx hb dL_law_460 (by decide) ?_
      refine lv_iadd hx hb dL_law_461 ?_
      refine g_top (nI_add i 1) ?_
      refine va_sld hx hb hX hbl hbA X.2.2.2.2 (i := nI (i + 1)) (vp_in_nI (by omega) (by omega)) dL_law_462 ?_
      refine g_top (y := nI r) ((congrArg xs (nI_clamp (by omega))).trans ex1.symm) ?_
      refine lv_aload_n hx hb dL_law_463 rfl (lv_at hl 1 rfl) ?_
      refine lv_iload hx hb dL_law_464 (lv_at hl 5 rfl) ?_
      refine lv_iconst (v := 2) hx hb dL_law_466 (by decide) ?_
      refine lv_iadd hx hb dL_law_467 ?_
      refine g_top (nI_add i 2) ?_
      refine va_sld hx hb hX hbl hbA X.2.2.2.2 (i := nI (i + 2)) (vp_in_nI (by omega) (by omega)) dL_law_468 ?_
      refine g_top (y := nI k) ((congrArg xs (nI_clamp (by omega))).trans ex2.symm) ?_
      refine g_lawRi (P := (fun _ v' => rb_E v v')) (n := 2) (As := [.int (nI r), .int (nI k)]) C X (wX1_wage l D t cI o2 H.size v hv8 hp4 r (show r < v.2.1 by omega) k hk) (fun r w' h => h) (rw_V q269 q270 q271 q5 q272) kd_X1_wage rfl ⟨Nat.le_of_ble_eq_true rfl, Nat.le_of_ble_eq_true rfl⟩ hl.1 rfl rfl (Nat.le_of_ble_eq_true rfl) dL_law_469 ⟨(show kC + 0 + 0 ≤ 601024 by omega), (show nC + 0 + 0 ≤ 7293034 by omega)⟩ (fun b1 v9 H locs hp X => ?_)
      skip
      refine lv_istore (lv' := [(6, .int b1), (5, .int 0), (0, .ref b), (1, .ref o), (2, .ref o2), (3, .ref q), (4, .int (nI i))]) hx hb dL_law_472 hl (by decide) rfl (fun ls hl => ?_)
      refine lv_goto (tgt := 751) hx hb dL_law_474 (by decide) ?_
      refine W.widen (k := kC + 20) (n := nC + 200) ((by omega)) ((by omega)) ?_
      exact kk _ _ _ _ _ _ X (T.E ra_E0 hp) (lv_sub hl [2, 3, 4, 5, 6] rfl)
    · refine lv_aload_n hx hb dL_law_437 rfl (lv_at hl 1 rfl) ?_
      refine lv_aload_n hx hb dL_law_438 rfl (lv_at hl 0 rfl) ?_
      refine lv_iload hx hb dL_law_439 (lv_at hl 4 rfl) ?_
      refine lv_iconst (v := 1) hx hb dL_law_441 (by decide) ?_
      refine lv_iadd hx hb dL_law_442 ?_
      refine g_top (nI_add i 1) ?_
      refine va_sld hx hb hX hbl hbA X.2.2.2.2 (i := nI (i + 1)) (vp_in_nI (by omega) (by omega)) dL_law_443 ?_
      refine g_top (y := nI r) ((congrArg xs (nI_clamp (by omega))).trans ex1.symm) ?_
      refine lv_aload_n hx hb dL_law_444 rfl (lv_at hl 0 rfl) ?_
      refine lv_iload hx hb dL_law_445 (lv_at hl 4 rfl) ?_
      refine lv_iconst (v := 2) hx hb dL_law_447 (by decide) ?_
      refine lv_iadd hx hb dL_law_448 ?_
      refine g_top (nI_add i 2) ?_
      refine va_sld hx hb hX hbl hbA X.2.2.2.2 (i := nI (i + 2)) (vp_in_nI (by omega) (by omega)) dL_law_449 ?_
      refine g_top (y := x2) ((congrArg xs (nI_clamp (by omega))).trans ex2.symm) ?_
      refine lv_aload_n hx hb dL_law_450 rfl (lv_at hl 3 rfl) ?_
      refine g_lawH (n := 4) (As := [.ref o, .int (nI r), .int x2, .ref q]) C X (fun sz => xL_wage2 l D t cI cL o ad q sz f u (fun sz => xX0_wage2 l D t cI o ad sz u hl0 hu8 r hr x2 a2)) (rwW_S q258 q259 q36 q260) kd_L_wage ⟨Nat.le_of_ble_eq_true rfl, Nat.le_of_ble_eq_true rfl⟩ hl.1 rfl rfl (Nat.le_of_ble_eq_true rfl) dL_law_451 ⟨(show kC + 1 ≤ 601024 by omega), (show nC + 6 ≤ 7293034 by omega)⟩ (fun r9 f9 u9 H locs hp X => ?_)
      obtain ⟨rfl, eu9⟩ := hp
      rw [eu9] at X
      refine lv_istore (lv' := [(5, .int 1), (0, .ref b), (1, .ref o), (2, .ref o2), (3, .ref q), (4, .int (nI i))]) hx hb dL_law_454 hl (by decide) rfl (fun ls hl => ?_)
      refine lv_aload_n hx hb dL_law_456 rfl (lv_at hl 3 rfl) ?_
      refine lv_aload_n hx hb dL_law_457 rfl (lv_at hl 1 rfl) ?_
      refine lv_iload hx hb dL_law_458 (lv_at hl 5 rfl) ?_
      refine lv_iconst (v := 1) hx hb dL_law_460 (by decide) ?_
      refine lv_iadd hx hb dL_law_461 ?_
      refine g_top (nI_add i 1) ?_
      refine va_sld hx hb hX hbl hbA X.2.2.2.2 (i := nI (i + 1)) (vp_in_nI (by omega) (by omega)) dL_law_462 ?_
      refine g_top (y := nI r) ((congrArg xs (nI_clamp (by omega))).trans ex1.symm) ?_
      refine lv_aload_n hx hb dL_law_463 rfl (lv_at hl 1 rfl) ?_
      refine lv_iload hx hb dL_law_464 (lv_at hl 5 rfl) ?_
      refine lv_iconst (v := 2) hx hb dL_law_466 (by decide) ?_
      refine lv_iadd hx hb dL_law_467 ?_
      refine g_top (nI_add i 2) ?_
      refine va_sld hx hb hX hbl hbA X.2.2.2.2 (i := nI (i + 2)) (vp_in_nI (by omega) (by omega)) dL_law_468 ?_
      refine g_top (y := x2) ((congrArg xs (nI_clamp (by omega))).trans ex2.symm) ?_
      refine g_lawRi (P := (fun _ v' => rb_E v v')) (n := 2) (As := [.int (nI r), .int x2]) C X (wbX1_wage2 l D t cI o2 H.size v hv8 r (show r < v.2.1 by omega) x2 a2) (fun r w' h => h) (rw_V q269 q270 q271 q5 q272) kd_X1_wage rfl ⟨Nat.le_of_ble_eq_true rfl, Nat.le_of_ble_eq_true rfl⟩ hl.1 rfl rfl (Nat.le_of_ble_eq_true rfl) dL_law_469 ⟨(show kC + 1 + 0 ≤ 601024 by omega), (show nC + 6 + 0 ≤ 7293034 by omega)⟩ (fun b1 v9 H locs hp X => ?_)
      skip
      refine lv_istore (lv' := [(6, .int b1), (5, .int 1), (0, .ref b), (1, .ref o), (2, .ref o2), (3, .ref q), (4, .int (nI i))]) hx hb dL_law_472 hl (by decide) rfl (fun ls hl => ?_)
      refine lv_goto (tgt := 751) hx hb dL_law_474 (by decide) ?_
      refine W.widen (k := kC + 20) (n := nC + 200) ((by omega)) ((by omega)) ?_
      exact kk _ _ _ _ _ _ X (T.E ra_E0 hp) (lv_sub hl [2, 3, 4, 5, 6] rfl)
  · refine lv_aload_n hx hb dL_law_437 rfl (lv_at hl 1 rfl) ?_
    refine lv_aload_n hx hb dL_law_438 rfl (lv_at hl 0 rfl) ?_
    refine lv_iload hx hb dL_law_439 (lv_at hl 4 rfl) ?_
    refine lv_iconst (v := 1) hx hb dL_law_441 (by decide) ?_
    refine lv_iadd hx hb dL_law_442 ?_
    refine g_top (nI_add i 1) ?_
    refine va_sld hx hb hX hbl hbA X.2.2.2.2 (i := nI (i + 1)) (vp_in_nI (by omega) (by omega)) dL_law_443 ?_
    refine g_top (y := x1) ((congrArg xs (nI_clamp (by omega))).trans ex1.symm) ?_
    refine lv_aload_n hx hb dL_law_444 rfl (lv_at hl 0 rfl) ?_
    refine lv_iload hx hb dL_law_445 (lv_at hl 4 rfl) ?_
    refine lv_iconst (v := 2) hx hb dL_law_447 (by decide) ?_
    refine lv_iadd hx hb dL_law_448 ?_
    refine g_top (nI_add i 2) ?_
    refine va_sld hx hb hX hbl hbA X.2.2.2.2 (i := nI (i + 2)) (vp_in_nI (by omega) (by omega)) dL_law_449 ?_
    refine g_top (y := x2) ((congrArg xs (nI_clamp (by omega))).trans ex2.symm) ?_
    refine lv_aload_n hx hb dL_law_450 rfl (lv_at hl 3 rfl) ?_
    refine g_lawH (n := 4) (As := [.ref o, .int x1, .int x2, .ref q]) C X (fun sz => xL_wage1 l D t cI cL o ad q sz f u (fun sz => xX0_wage1 l D t cI o ad sz u hl0 x1 x2 a1)) (rwW_S q258 q259 q36 q260) kd_L_wage ⟨Nat.le_of_ble_eq_true rfl, Nat.le_of_ble_eq_true rfl⟩ hl.1 rfl rfl (Nat.le_of_ble_eq_true rfl) dL_law_451 ⟨(show kC + 1 ≤ 601024 by omega), (show nC + 6 ≤ 7293034 by omega)⟩ (fun r9 f9 u9 H locs hp X => ?_)
    obtain ⟨rfl, eu9⟩ := hp
    rw [eu9] at X
    refine lv_istore (lv' := [(5, .int 1), (0, .ref b), (1, .ref o), (2, .ref o2), (3, .ref q), (4, .int (nI i))]) hx hb dL_law_454 hl (by decide) rfl (fun ls hl => ?_)
    refine lv_aload_n hx hb dL_law_456 rfl (lv_at hl 3 rfl) ?_
    refine lv_aload_n hx hb dL_law_457 rfl (lv_at hl 1 rfl) ?_
    refine lv_iload hx hb dL_law_458 (lv_at hl 5 rfl) ?_
    refine lv_iconst (v := 1) hx hb dL_law_460 (by decide) ?_
    refine lv_iadd hx hb dL_law_461 ?_
    refine g_top (nI_add i 1) ?_
    refine va_sld hx hb hX hbl hbA X.2.2.2.2 (i := nI (i + 1)) (vp_in_nI (by omega) (by omega)) dL_law_462 ?_
    refine g_top (y := x1) ((congrArg xs (nI_clamp (by omega))).trans ex1.symm) ?_
    refine lv_aload_n hx hb dL_law_463 rfl (lv_at hl 1 rfl) ?_
    refine lv_iload hx hb dL_law_464 (lv_at hl 5 rfl) ?_
    refine lv_iconst (v := 2) hx hb dL_law_466 (by decide) ?_
    refine lv_iadd hx hb dL_law_467 ?_
    refine g_top (nI_add i 2) ?_
    refine va_sld hx hb hX hbl hbA X.2.2.2.2 (i := nI (i + 2)) (vp_in_nI (by omega) (by omega)) dL_law_468 ?_
    refine g_top (y := x2) ((congrArg xs (nI_clamp (by omega))).trans ex2.symm) ?_
    refine g_lawRi (P := (fun _ v' => rb_E v v')) (n := 2) (As := [.int x1, .int x2]) C X (wbX1_wage1 l D t cI o2 H.size v hv8 x1 x2 (by rw [← ehv]; exact a1)) (fun r w' h => h) (rw_V q269 q270 q271 q5 q272) kd_X1_wage rfl ⟨Nat.le_of_ble_eq_true rfl, Nat.le_of_ble_eq_true rfl⟩ hl.1 rfl rfl (Nat.le_of_ble_eq_true rfl) dL_law_469 ⟨(show kC + 1 + 0 ≤ 601024 by omega), (show nC + 6 + 0 ≤ 7293034 by omega)⟩ (fun b1 v9 H locs hp X => ?_)
    skip
    refine lv_istore (lv' := [(6, .int b1), (5, .int 1), (0, .ref b), (1, .ref o), (2, .ref o2), (3, .ref q), (4, .int (nI i))]) hx hb dL_law_472 hl (by decide) rfl (fun ls hl => ?_)
    refine lv_goto (tgt := 751) hx hb dL_law_474 (by decide) ?_
    refine W.widen (k := kC + 20) (n := nC + 200) ((by omega)) ((by omega)) ?_
    exact kk _ _ _ _ _ _ X (T.E ra_E0 hp) (lv_sub hl [2, 3, 4, 5, 6] rfl)
set_option maxHeartbeats 4000000 in
set_option maxRecDepth 100000 in
theorem law_g9 {p : Program} {l : Launch} {e : Env} {s : State} {m : MethodId} {below : List Frame} {meth : Method} {c : Code} {Q : State → Prop} {D : va_G} {t : Nat → Nat} {A : Nat → Prop} {cI cL : ClassId} {o o2 q b L kC nC i : Nat} {ad : Nat → Nat} {xs : Nat → Int32} {u : S0} {v : S1} {f : Nat → Int64} {H : Heap} {locs : List Loc} {ls : Array Slot} (C : gC p s m #[.ref b] meth c code 9 RL D (lT cI cL) t A) (hl0 : l.stackTraces = false) (hX : va_X b L xs s s.heap) (hbl : b < s.heap.size) (hbA : ¬ A b) (hi : i + 4 ≤ L) (hL : L ≤ 2048) (X : lS D A s cI cL o ad u o2 v q f H locs) (T : lTie u v) (hl : lv_has ls 9 [(0, .ref b), (1, .ref o), (2, .ref o2), (3, .ref q), (4, .int (nI i))]) (hk9 : kC + 20 ≤ 601024) (hn9 : nC + 200 ≤ 7293034) (kk : ∀ (u : S0) (v : S1) (f : Nat → Int64) (H : Heap) (locs : List Loc) (ls : Array Slot), lS D A s cI cL o ad u o2 v q f H locs → lTie u v → lv_has ls 9 [(0, .ref b), (1, .ref o), (2, .ref o2), (3, .ref q), (4, .int (nI i))] → W p l e room_1 s m #[.ref b] below meth c H locs (kC + 20) (nC + 200) Q (F0 m 751 ls [])) : W p l e room_1 s m #[.ref b] below meth c H locs kC nC Q (F0 m 477 ls []) := by
  have hx := C.1
  have hb := C.2.1
  have hown := C.2.2.2.1
  have hts := C.2.2.2.2.1
  obtain ⟨ehv, hv8, e7, er, hp4⟩ := id T
  have hu8 : u.2.1 ≤ 8 := by omega
  obtain ⟨x1, ex1⟩ : ∃ z, z = xs (i + 1) := ⟨_, rfl⟩
  rcases ld_cut 3 (by omega) x1 with ⟨k, hk, rfl⟩ | a1
  · refine lv_aload_n hx hb dL_law_477 rfl (lv_at hl 1 rfl) ?_
    refine lv_aload_n hx hb dL_law_478 rfl (lv_at hl 0 rfl) ?_
    refine lv_iload hx hb dL_law_479 (lv_at hl 4 rfl) ?_
    refine lv_iconst (v := 1) hx hb dL_law_481 (by decide) ?_
    refine lv_iadd hx hb dL_law_482 ?_
    refine g_top (nI_add i 1) ?_
    refine va_sld hx hb hX hbl hbA X.2.2.2.2 (i := nI (i + 1)) (vp_in_nI (by omega) (by omega)) dL_law_483 ?_
    refine g_top (y := nI k) ((congrArg xs (nI_clamp (by omega))).trans ex1.symm) ?_
    refine lv_aload_n hx hb dL_law_484 rfl (lv_at hl 3 rfl) ?_
    refine g_lawH (n := 3) (As := [.ref o, .int (nI k), .ref q]) C X (fun sz => mL_chest l D t cI cL o ad q sz f u (fun sz => mX0_chest l D t cI o ad sz u k hk)) (rwW_S q277 q278 q36 q279) kd_L_chest ⟨Nat.le_of_ble_eq_true rfl, Nat.le_of_ble_eq_true rfl⟩ hl.1 rfl rfl (Nat.le_of_ble_eq_true rfl) dL_law_485 ⟨(show kC + 0 ≤ 601024 by omega), (show nC + 0 ≤ 7293034 by omega)⟩ (fun r9 f9 u9 H locs hp X => ?_)
    obtain ⟨rfl, eu9, hf⟩ := hp
    rw [eu9] at X
    refine lv_istore (lv' := [(5, .int 0), (0, .ref b), (1, .ref o), (2, .ref o2), (3, .ref q), (4, .int (nI i))]) hx hb dL_law_488 hl (by decide) rfl (fun ls hl => ?_)
    refine lv_aload_n hx hb dL_law_490 rfl (lv_at hl 3 rfl) ?_
    refine lv_aload_n hx hb dL_law_491 rfl (lv_at hl 1 rfl) ?_
    refine lv_iload hx hb dL_law_492 (lv_at hl 5 rfl) ?_
    refine lv_iconst (v := 1) hx hb dL_law_494 (by decide) ?_
    refine lv_iadd hx hb dL_law_495 ?_
    refine g_top (nI_add i 1) ?_
    refine va_sld hx hb hX hbl hbA X.2.2.2.2 (i := nI (i + 1)) (vp_in_nI (by omega) (by omega)) dL_law_496 ?_
    refine g_top (y := nI k) ((congrArg xs (nI_clamp (by omega))).trans ex1.symm) ?_
    refine g_lawRie (n := 1) (As := [.int (nI k)]) C X (oX1_chest l D t cI o2 H.size v k hk) (rw_V q284 q285 q286 q5 q287) kd_X1_chest rfl ⟨Nat.le_of_ble_eq_true rfl, Nat.le_of_ble_eq_true rfl⟩ hl.1 rfl rfl (Nat.le_of_ble_eq_true rfl) dL_law_497 ⟨(show kC + 0 + 0 ≤ 601024 by omega), (show nC + 0 + 0 ≤ 7293034 by omega)⟩ (fun H locs X => ?_)
    refine lv_topi (fun b1 eb1 => ?_)
    refine lv_istore (lv' := [(6, .int b1), (5, .int 0), (0, .ref b), (1, .ref o), (2, .ref o2), (3, .ref q), (4, .int (nI i))]) hx hb dL_law_500 hl (by decide) rfl (fun ls hl => ?_)
    refine lv_goto (tgt := 751) hx hb dL_law_502 (by decide) ?_
    refine W.widen (k := kC + 20) (n := nC + 200) ((by omega)) ((by omega)) ?_
    exact kk _ _ _ _ _ _ X (T.E ra_E0 ⟨rfl, rfl, fun _ _ => ⟨rfl, rfl⟩⟩) (lv_sub hl [2, 3, 4, 5, 6] rfl)
  · refine lv_aload_n hx hb dL_law_477 rfl (lv_at hl 1 rfl) ?_
    refine lv_aload_n hx hb dL_law_478 rfl (lv_at hl 0 rfl) ?_
    refine lv_iload hx hb dL_law_479 (lv_at hl 4 rfl) ?_
    refine lv_iconst (v := 1) hx hb dL_law_481 (by decide) ?_
    refine lv_iadd hx hb dL_law_482 ?_
    refine g_top (nI_add i 1) ?_
    refine va_sld hx hb hX hbl hbA X.2.2.2.2 (i := nI (i + 1)) (vp_in_nI (by omega) (by omega)) dL_law_483 ?_
    refine g_top (y := x1) ((congrArg xs (nI_clamp (by omega))).trans ex1.symm) ?_
    refine lv_aload_n hx hb dL_law_484 rfl (lv_at hl 3 rfl) ?_
    refine g_lawH (n := 3) (As := [.ref o, .int x1, .ref q]) C X (fun sz => xL_chest1 l D t cI cL o ad q sz f u (fun sz => xX0_chest1 l D t cI o ad sz u hl0 x1 a1)) (rwW_S q277 q278 q36 q279) kd_L_chest ⟨Nat.le_of_ble_eq_true rfl, Nat.le_of_ble_eq_true rfl⟩ hl.1 rfl rfl (Nat.le_of_ble_eq_true rfl) dL_law_485 ⟨(show kC + 1 ≤ 601024 by omega), (show nC + 6 ≤ 7293034 by omega)⟩ (fun r9 f9 u9 H locs hp X => ?_)
    obtain ⟨rfl, eu9⟩ := hp
    rw [eu9] at X
    refine lv_istore (lv' := [(5, .int 1), (0, .ref b), (1, .ref o), (2, .ref o2), (3, .ref q), (4, .int (nI i))]) hx hb dL_law_488 hl (by decide) rfl (fun ls hl => ?_)
    refine lv_aload_n hx hb dL_law_490 rfl (lv_at hl 3 rfl) ?_
    refine lv_aload_n hx hb dL_law_491 rfl (lv_at hl 1 rfl) ?_
    refine lv_iload hx hb dL_law_492 (lv_at hl 5 rfl) ?_
    refine lv_iconst (v := 1) hx hb dL_law_494 (by decide) ?_
    refine lv_iadd hx hb dL_law_495 ?_
    refine g_top (nI_add i 1) ?_
    refine va_sld hx hb hX hbl hbA X.2.2.2.2 (i := nI (i + 1)) (vp_in_nI (by omega) (by omega)) dL_law_496 ?_
    refine g_top (y := x1) ((congrArg xs (nI_clamp (by omega))).trans ex1.symm) ?_
    refine g_lawRie (n := 1) (As := [.int x1]) C X (bX1_chest1 l D t cI o2 H.size v x1 a1) (rw_V q284 q285 q286 q5 q287) kd_X1_chest rfl ⟨Nat.le_of_ble_eq_true rfl, Nat.le_of_ble_eq_true rfl⟩ hl.1 rfl rfl (Nat.le_of_ble_eq_true rfl) dL_law_497 ⟨(show kC + 1 + 0 ≤ 601024 by omega), (show nC + 6 + 0 ≤ 7293034 by omega)⟩ (fun H locs X => ?_)
    refine lv_topi (fun b1 eb1 => ?_)
    refine lv_istore (lv' := [(6, .int b1), (5, .int 1), (0, .ref b), (1, .ref o), (2, .ref o2), (3, .ref q), (4, .int (nI i))]) hx hb dL_law_500 hl (by decide) rfl (fun ls hl => ?_)
    refine lv_goto (tgt := 751) hx hb dL_law_502 (by decide) ?_
    refine W.widen (k := kC + 20) (n := nC + 200) ((by omega)) ((by omega)) ?_
    exact kk _ _ _ _ _ _ X (T.E ra_E0 ⟨rfl, rfl, fun _ _ => ⟨rfl, rfl⟩⟩) (lv_sub hl [2, 3, 4, 5, 6] rfl)
set_option maxHeartbeats 4000000 in
set_option maxRecDepth 100000 in
theorem law_g10 {p : Program} {l : Launch} {e : Env} {s : State} {m : MethodId} {below : List Frame} {meth : Method} {c : Code} {Q : State → Prop} {D : va_G} {t : Nat → Nat} {A : Nat → Prop} {cI cL : ClassId} {o o2 q b L kC nC i : Nat} {ad : Nat → Nat} {xs : Nat → Int32} {u : S0} {v : S1} {f : Nat → Int64} {H : Heap} {locs : List Loc} {ls : Array Slot} (C : gC p s m #[.ref b] meth c code 9 RL D (lT cI cL) t A) (hl0 : l.stackTraces = false) (hX : va_X b L xs s s.heap) (hbl : b < s.heap.size) (hbA : ¬ A b) (hi : i + 4 ≤ L) (hL : L ≤ 2048) (X : lS D A s cI cL o ad u o2 v q f H locs) (T : lTie u v) (hl : lv_has ls 9 [(0, .ref b), (1, .ref o), (2, .ref o2), (3, .ref q), (4, .int (nI i))]) (hk9 : kC + 20 ≤ 601024) (hn9 : nC + 200 ≤ 7293034) (kk : ∀ (u : S0) (v : S1) (f : Nat → Int64) (H : Heap) (locs : List Loc) (ls : Array Slot), lS D A s cI cL o ad u o2 v q f H locs → lTie u v → lv_has ls 9 [(0, .ref b), (1, .ref o), (2, .ref o2), (3, .ref q), (4, .int (nI i))] → W p l e room_1 s m #[.ref b] below meth c H locs (kC + 20) (nC + 200) Q (F0 m 751 ls [])) : W p l e room_1 s m #[.ref b] below meth c H locs kC nC Q (F0 m 505 ls []) := by
  have hx := C.1
  have hb := C.2.1
  have hown := C.2.2.2.1
  have hts := C.2.2.2.2.1
  obtain ⟨ehv, hv8, e7, er, hp4⟩ := id T
  have hu8 : u.2.1 ≤ 8 := by omega
  obtain ⟨x1, ex1⟩ : ∃ z, z = xs (i + 1) := ⟨_, rfl⟩
  obtain ⟨x2, ex2⟩ : ∃ z, z = xs (i + 2) := ⟨_, rfl⟩
  rcases ld_cut u.2.1 (by omega) x1 with ⟨r, hr, rfl⟩ | a1
  · rcases ld_cut 3 (by omega) x2 with ⟨k, hk, rfl⟩ | a2
    · refine lv_aload_n hx hb dL_law_505 rfl (lv_at hl 1 rfl) ?_
      refine lv_aload_n hx hb dL_law_506 rfl (lv_at hl 0 rfl) ?_
      refine lv_iload hx hb dL_law_507 (lv_at hl 4 rfl) ?_
      refine lv_iconst (v := 1) hx hb dL_law_509 (by decide) ?_
      refine lv_iadd hx hb dL_law_510 ?_
      refine g_top (nI_add i 1) ?_
      refine va_sld hx hb hX hbl hbA X.2.2.2.2 (i := nI (i + 1)) (vp_in_nI (by omega) (by omega)) dL_law_511 ?_
      refine g_top (y := nI r) ((congrArg xs (nI_clamp (by omega))).trans ex1.symm) ?_
      refine lv_aload_n hx hb dL_law_512 rfl (lv_at hl 0 rfl) ?_
      refine lv_iload hx hb dL_law_513 (lv_at hl 4 rfl) ?_
      refine lv_iconst (v := 2) hx hb dL_law_515 (by decide) ?_
      refine lv_iadd hx hb dL_law_516 ?_
      refine g_top (nI_add i 2) ?_
      refine va_sld hx hb hX hbl hbA X.2.2.2.2 (i := nI (i + 2)) (vp_in_nI (by omega) (by omega)) dL_law_517 ?_
      refine g_top (y := nI k) ((congrArg xs (nI_clamp (by omega))).trans ex2.symm) ?_
      refine lv_aload_n hx hb dL_law_518 rfl (lv_at hl 3 rfl) ?_
      refine g_lawH (n := 4) (As := [.ref o, .int (nI r), .int (nI k), .ref q]) C X (fun sz => mL_coins l D t cI cL o ad q sz f u (fun sz => mX0_coins l D t cI o ad sz u hu8 r hr k hk)) (rwW_S q288 q289 q36 q290) kd_L_coins ⟨Nat.le_of_ble_eq_true rfl, Nat.le_of_ble_eq_true rfl⟩ hl.1 rfl rfl (Nat.le_of_ble_eq_true rfl) dL_law_519 ⟨(show kC + 0 ≤ 601024 by omega), (show nC + 0 ≤ 7293034 by omega)⟩ (fun r9 f9 u9 H locs hp X => ?_)
      obtain ⟨rfl, eu9, hf⟩ := hp
      rw [eu9] at X
      refine lv_istore (lv' := [(5, .int 0), (0, .ref b), (1, .ref o), (2, .ref o2), (3, .ref q), (4, .int (nI i))]) hx hb dL_law_522 hl (by decide) rfl (fun ls hl => ?_)
      refine lv_aload_n hx hb dL_law_524 rfl (lv_at hl 3 rfl) ?_
      refine lv_aload_n hx hb dL_law_525 rfl (lv_at hl 1 rfl) ?_
      refine lv_iload hx hb dL_law_526 (lv_at hl 5 rfl) ?_
      refine lv_iconst (v := 1) hx hb dL_law_528 (by decide) ?_
      refine lv_iadd hx hb dL_law_529 ?_
      refine g_top (nI_add i 1) ?_
      refine va_sld hx hb hX hbl hbA X.2.2.2.2 (i := nI (i + 1)) (vp_in_nI (by omega) (by omega)) dL_law_530 ?_
      refine g_top (y := nI r) ((congrArg xs (nI_clamp (by omega))).trans ex1.symm) ?_
      refine lv_aload_n hx hb dL_law_531 rfl (lv_at hl 1 rfl) ?_
      refine lv_iload hx hb dL_law_532 (lv_at hl 5 rfl) ?_
      refine lv_iconst (v := 2) hx hb dL_law_534 (by decide) ?_
      refine lv_iadd hx hb dL_law_535 ?_
      refine g_top (nI_add i 2) ?_
      refine va_sld hx hb hX hbl hbA X.2.2.2.2 (i := nI (i + 2)) (vp_in_nI (by omega) (by omega)) dL_law_536 ?_
      refine g_top (y := nI k) ((congrArg xs (nI_clamp (by omega))).trans ex2.symm) ?_
      refine g_lawRi (P := (fun _ v' => rb_E v v')) (n := 2) (As := [.int (nI r), .int (nI k)]) C X (wX1_coins l D t cI o2 H.size v hv8 hp4 r (show r < v.2.1 by omega) k hk) (fun r w' h => h) (rw_V q298 q299 q300 q5 q301) kd_X1_coins rfl ⟨Nat.le_of_ble_eq_true rfl, Nat.le_of_ble_eq_true rfl⟩ hl.1 rfl rfl (Nat.le_of_ble_eq_true rfl) dL_law_537 ⟨(show kC + 0 + 10 ≤ 601024 by omega), (show nC + 0 + 115 ≤ 7293034 by omega)⟩ (fun b1 v9 H locs hp X => ?_)
      skip
      refine lv_istore (lv' := [(6, .int b1), (5, .int 0), (0, .ref b), (1, .ref o), (2, .ref o2), (3, .ref q), (4, .int (nI i))]) hx hb dL_law_540 hl (by decide) rfl (fun ls hl => ?_)
      refine lv_goto (tgt := 751) hx hb dL_law_542 (by decide) ?_
      refine W.widen (k := kC + 20) (n := nC + 200) ((by omega)) ((by omega)) ?_
      exact kk _ _ _ _ _ _ X (T.E rf_csE hp) (lv_sub hl [2, 3, 4, 5, 6] rfl)
    · refine lv_aload_n hx hb dL_law_505 rfl (lv_at hl 1 rfl) ?_
      refine lv_aload_n hx hb dL_law_506 rfl (lv_at hl 0 rfl) ?_
      refine lv_iload hx hb dL_law_507 (lv_at hl 4 rfl) ?_
      refine lv_iconst (v := 1) hx hb dL_law_509 (by decide) ?_
      refine lv_iadd hx hb dL_law_510 ?_
      refine g_top (nI_add i 1) ?_
      refine va_sld hx hb hX hbl hbA X.2.2.2.2 (i := nI (i + 1)) (vp_in_nI (by omega) (by omega)) dL_law_511 ?_
      refine g_top (y := nI r) ((congrArg xs (nI_clamp (by omega))).trans ex1.symm) ?_
      refine lv_aload_n hx hb dL_law_512 rfl (lv_at hl 0 rfl) ?_
      refine lv_iload hx hb dL_law_513 (lv_at hl 4 rfl) ?_
      refine lv_iconst (v := 2) hx hb dL_law_515 (by decide) ?_
      refine lv_iadd hx hb dL_law_516 ?_
      refine g_top (nI_add i 2) ?_
      refine va_sld hx hb hX hbl hbA X.2.2.2.2 (i := nI (i + 2)) (vp_in_nI (by omega) (by omega)) dL_law_517 ?_
      refine g_top (y := x2) ((congrArg xs (nI_clamp (by omega))).trans ex2.symm) ?_
      refine lv_aload_n hx hb dL_law_518 rfl (lv_at hl 3 rfl) ?_
      refine g_lawH (n := 4) (As := [.ref o, .int (nI r), .int x2, .ref q]) C X (fun sz => xL_coins2 l D t cI cL o ad q sz f u (fun sz => xX0_coins2 l D t cI o ad sz u hl0 hu8 r hr x2 a2)) (rwW_S q288 q289 q36 q290) kd_L_coins ⟨Nat.le_of_ble_eq_true rfl, Nat.le_of_ble_eq_true rfl⟩ hl.1 rfl rfl (Nat.le_of_ble_eq_true rfl) dL_law_519 ⟨(show kC + 1 ≤ 601024 by omega), (show nC + 6 ≤ 7293034 by omega)⟩ (fun r9 f9 u9 H locs hp X => ?_)
      obtain ⟨rfl, eu9⟩ := hp
      rw [eu9] at X
      refine lv_istore (lv' := [(5, .int 1), (0, .ref b), (1, .ref o), (2, .ref o2), (3, .ref q), (4, .int (nI i))]) hx hb dL_law_522 hl (by decide) rfl (fun ls hl => ?_)
      refine lv_aload_n hx hb dL_law_524 rfl (lv_at hl 3 rfl) ?_
      refine lv_aload_n hx hb dL_law_525 rfl (lv_at hl 1 rfl) ?_
      refine lv_iload hx hb dL_law_526 (lv_at hl 5 rfl) ?_
      refine lv_iconst (v := 1) hx hb dL_law_528 (by decide) ?_
      refine lv_iadd hx hb dL_law_529 ?_
      refine g_top (nI_add i 1) ?_
      refine va_sld hx hb hX hbl hbA X.2.2.2.2 (i := nI (i + 1)) (vp_in_nI (by omega) (by omega)) dL_law_530 ?_
      refine g_top (y := nI r) ((congrArg xs (nI_clamp (by omega))).trans ex1.symm) ?_
      refine lv_aload_n hx hb dL_law_531 rfl (lv_at hl 1 rfl) ?_
      refine lv_iload hx hb dL_law_532 (lv_at hl 5 rfl) ?_
      refine lv_iconst (v := 2) hx hb dL_law_534 (by decide) ?_
      refine lv_iadd hx hb dL_law_535 ?_
      refine g_top (nI_add i 2) ?_
      refine va_sld hx hb hX hbl hbA X.2.2.2.2 (i := nI (i + 2)) (vp_in_nI (by omega) (by omega)) dL_law_536 ?_
      refine g_top (y := x2) ((congrArg xs (nI_clamp (by omega))).trans ex2.symm) ?_
      refine g_lawRi (P := (fun _ v' => rb_E v v')) (n := 2) (As := [.int (nI r), .int x2]) C X (wbX1_coins2 l D t cI o2 H.size v hv8 r (show r < v.2.1 by omega) x2 a2) (fun r w' h => h) (rw_V q298 q299 q300 q5 q301) kd_X1_coins rfl ⟨Nat.le_of_ble_eq_true rfl, Nat.le_of_ble_eq_true rfl⟩ hl.1 rfl rfl (Nat.le_of_ble_eq_true rfl) dL_law_537 ⟨(show kC + 1 + 0 ≤ 601024 by omega), (show nC + 6 + 0 ≤ 7293034 by omega)⟩ (fun b1 v9 H locs hp X => ?_)
      skip
      refine lv_istore (lv' := [(6, .int b1), (5, .int 1), (0, .ref b), (1, .ref o), (2, .ref o2), (3, .ref q), (4, .int (nI i))]) hx hb dL_law_540 hl (by decide) rfl (fun ls hl => ?_)
      refine lv_goto (tgt := 751) hx hb dL_law_542 (by decide) ?_
      refine W.widen (k := kC + 20) (n := nC + 200) ((by omega)) ((by omega)) ?_
      exact kk _ _ _ _ _ _ X (T.E ra_E0 hp) (lv_sub hl [2, 3, 4, 5, 6] rfl)
  · refine lv_aload_n hx hb dL_law_505 rfl (lv_at hl 1 rfl) ?_
    refine lv_aload_n hx hb dL_law_506 rfl (lv_at hl 0 rfl) ?_
    refine lv_iload hx hb dL_law_507 (lv_at hl 4 rfl) ?_
    refine lv_iconst (v := 1) hx hb dL_law_509 (by decide) ?_
    refine lv_iadd hx hb dL_law_510 ?_
    refine g_top (nI_add i 1) ?_
    refine va_sld hx hb hX hbl hbA X.2.2.2.2 (i := nI (i + 1)) (vp_in_nI (by omega) (by omega)) dL_law_511 ?_
    refine g_top (y := x1) ((congrArg xs (nI_clamp (by omega))).trans ex1.symm) ?_
    refine lv_aload_n hx hb dL_law_512 rfl (lv_at hl 0 rfl) ?_
    refine lv_iload hx hb dL_law_513 (lv_at hl 4 rfl) ?_
    refine lv_iconst (v := 2) hx hb dL_law_515 (by decide) ?_
    refine lv_iadd hx hb dL_law_516 ?_
    refine g_top (nI_add i 2) ?_
    refine va_sld hx hb hX hbl hbA X.2.2.2.2 (i := nI (i + 2)) (vp_in_nI (by omega) (by omega)) dL_law_517 ?_
    refine g_top (y := x2) ((congrArg xs (nI_clamp (by omega))).trans ex2.symm) ?_
    refine lv_aload_n hx hb dL_law_518 rfl (lv_at hl 3 rfl) ?_
    refine g_lawH (n := 4) (As := [.ref o, .int x1, .int x2, .ref q]) C X (fun sz => xL_coins1 l D t cI cL o ad q sz f u (fun sz => xX0_coins1 l D t cI o ad sz u hl0 x1 x2 a1)) (rwW_S q288 q289 q36 q290) kd_L_coins ⟨Nat.le_of_ble_eq_true rfl, Nat.le_of_ble_eq_true rfl⟩ hl.1 rfl rfl (Nat.le_of_ble_eq_true rfl) dL_law_519 ⟨(show kC + 1 ≤ 601024 by omega), (show nC + 6 ≤ 7293034 by omega)⟩ (fun r9 f9 u9 H locs hp X => ?_)
    obtain ⟨rfl, eu9⟩ := hp
    rw [eu9] at X
    refine lv_istore (lv' := [(5, .int 1), (0, .ref b), (1, .ref o), (2, .ref o2), (3, .ref q), (4, .int (nI i))]) hx hb dL_law_522 hl (by decide) rfl (fun ls hl => ?_)
    refine lv_aload_n hx hb dL_law_524 rfl (lv_at hl 3 rfl) ?_
    refine lv_aload_n hx hb dL_law_525 rfl (lv_at hl 1 rfl) ?_
    refine lv_iload hx hb dL_law_526 (lv_at hl 5 rfl) ?_
    refine lv_iconst (v := 1) hx hb dL_law_528 (by decide) ?_
    refine lv_iadd hx hb dL_law_529 ?_
    refine g_top (nI_add i 1) ?_
    refine va_sld hx hb hX hbl hbA X.2.2.2.2 (i := nI (i + 1)) (vp_in_nI (by omega) (by omega)) dL_law_530 ?_
    refine g_top (y := x1) ((congrArg xs (nI_clamp (by omega))).trans ex1.symm) ?_
    refine lv_aload_n hx hb dL_law_531 rfl (lv_at hl 1 rfl) ?_
    refine lv_iload hx hb dL_law_532 (lv_at hl 5 rfl) ?_
    refine lv_iconst (v := 2) hx hb dL_law_534 (by decide) ?_
    refine lv_iadd hx hb dL_law_535 ?_
    refine g_top (nI_add i 2) ?_
    refine va_sld hx hb hX hbl hbA X.2.2.2.2 (i := nI (i + 2)) (vp_in_nI (by omega) (by omega)) dL_law_536 ?_
    refine g_top (y := x2) ((congrArg xs (nI_clamp (by omega))).trans ex2.symm) ?_
    refine g_lawRi (P := (fun _ v' => rb_E v v')) (n := 2) (As := [.int x1, .int x2]) C X (wbX1_coins1 l D t cI o2 H.size v hv8 x1 x2 (by rw [← ehv]; exact a1)) (fun r w' h => h) (rw_V q298 q299 q300 q5 q301) kd_X1_coins rfl ⟨Nat.le_of_ble_eq_true rfl, Nat.le_of_ble_eq_true rfl⟩ hl.1 rfl rfl (Nat.le_of_ble_eq_true rfl) dL_law_537 ⟨(show kC + 1 + 0 ≤ 601024 by omega), (show nC + 6 + 0 ≤ 7293034 by omega)⟩ (fun b1 v9 H locs hp X => ?_)
    skip
    refine lv_istore (lv' := [(6, .int b1), (5, .int 1), (0, .ref b), (1, .ref o), (2, .ref o2), (3, .ref q), (4, .int (nI i))]) hx hb dL_law_540 hl (by decide) rfl (fun ls hl => ?_)
    refine lv_goto (tgt := 751) hx hb dL_law_542 (by decide) ?_
    refine W.widen (k := kC + 20) (n := nC + 200) ((by omega)) ((by omega)) ?_
    exact kk _ _ _ _ _ _ X (T.E ra_E0 hp) (lv_sub hl [2, 3, 4, 5, 6] rfl)
set_option maxHeartbeats 4000000 in
set_option maxRecDepth 100000 in
theorem law_g11 {p : Program} {l : Launch} {e : Env} {s : State} {m : MethodId} {below : List Frame} {meth : Method} {c : Code} {Q : State → Prop} {D : va_G} {t : Nat → Nat} {A : Nat → Prop} {cI cL : ClassId} {o o2 q b L kC nC i : Nat} {ad : Nat → Nat} {xs : Nat → Int32} {u : S0} {v : S1} {f : Nat → Int64} {H : Heap} {locs : List Loc} {ls : Array Slot} (C : gC p s m #[.ref b] meth c code 9 RL D (lT cI cL) t A) (hl0 : l.stackTraces = false) (hX : va_X b L xs s s.heap) (hbl : b < s.heap.size) (hbA : ¬ A b) (hi : i + 4 ≤ L) (hL : L ≤ 2048) (X : lS D A s cI cL o ad u o2 v q f H locs) (T : lTie u v) (hl : lv_has ls 9 [(0, .ref b), (1, .ref o), (2, .ref o2), (3, .ref q), (4, .int (nI i))]) (hk9 : kC + 20 ≤ 601024) (hn9 : nC + 200 ≤ 7293034) (kk : ∀ (u : S0) (v : S1) (f : Nat → Int64) (H : Heap) (locs : List Loc) (ls : Array Slot), lS D A s cI cL o ad u o2 v q f H locs → lTie u v → lv_has ls 9 [(0, .ref b), (1, .ref o), (2, .ref o2), (3, .ref q), (4, .int (nI i))] → W p l e room_1 s m #[.ref b] below meth c H locs (kC + 20) (nC + 200) Q (F0 m 751 ls [])) : W p l e room_1 s m #[.ref b] below meth c H locs kC nC Q (F0 m 545 ls []) := by
  have hx := C.1
  have hb := C.2.1
  have hown := C.2.2.2.1
  have hts := C.2.2.2.2.1
  obtain ⟨ehv, hv8, e7, er, hp4⟩ := id T
  have hu8 : u.2.1 ≤ 8 := by omega
  obtain ⟨x1, ex1⟩ : ∃ z, z = xs (i + 1) := ⟨_, rfl⟩
  rcases ld_cut 7 (by omega) x1 with ⟨k, hk, rfl⟩ | a1
  · refine lv_aload_n hx hb dL_law_545 rfl (lv_at hl 1 rfl) ?_
    refine lv_aload_n hx hb dL_law_546 rfl (lv_at hl 0 rfl) ?_
    refine lv_iload hx hb dL_law_547 (lv_at hl 4 rfl) ?_
    refine lv_iconst (v := 1) hx hb dL_law_549 (by decide) ?_
    refine lv_iadd hx hb dL_law_550 ?_
    refine g_top (nI_add i 1) ?_
    refine va_sld hx hb hX hbl hbA X.2.2.2.2 (i := nI (i + 1)) (vp_in_nI (by omega) (by omega)) dL_law_551 ?_
    refine g_top (y := nI k) ((congrArg xs (nI_clamp (by omega))).trans ex1.symm) ?_
    refine lv_aload_n hx hb dL_law_552 rfl (lv_at hl 3 rfl) ?_
    refine g_lawH (n := 3) (As := [.ref o, .int (nI k), .ref q]) C X (fun sz => mL_count l D t cI cL o ad q sz f u (fun sz => mX0_count l D t cI o ad sz u hu8 k hk)) (rwW_S q309 q310 q36 q311) kd_L_count ⟨Nat.le_of_ble_eq_true rfl, Nat.le_of_ble_eq_true rfl⟩ hl.1 rfl rfl (Nat.le_of_ble_eq_true rfl) dL_law_553 ⟨(show kC + 0 ≤ 601024 by omega), (show nC + 0 ≤ 7293034 by omega)⟩ (fun r9 f9 u9 H locs hp X => ?_)
    obtain ⟨rfl, eu9, hf⟩ := hp
    rw [eu9] at X
    refine lv_istore (lv' := [(5, .int 0), (0, .ref b), (1, .ref o), (2, .ref o2), (3, .ref q), (4, .int (nI i))]) hx hb dL_law_556 hl (by decide) rfl (fun ls hl => ?_)
    refine lv_aload_n hx hb dL_law_558 rfl (lv_at hl 3 rfl) ?_
    refine lv_aload_n hx hb dL_law_559 rfl (lv_at hl 1 rfl) ?_
    refine lv_iload hx hb dL_law_560 (lv_at hl 5 rfl) ?_
    refine lv_iconst (v := 1) hx hb dL_law_562 (by decide) ?_
    refine lv_iadd hx hb dL_law_563 ?_
    refine g_top (nI_add i 1) ?_
    refine va_sld hx hb hX hbl hbA X.2.2.2.2 (i := nI (i + 1)) (vp_in_nI (by omega) (by omega)) dL_law_564 ?_
    refine g_top (y := nI k) ((congrArg xs (nI_clamp (by omega))).trans ex1.symm) ?_
    refine g_lawRi (P := (fun _ v' => rb_E v v')) (n := 1) (As := [.int (nI k)]) C X (wX1_count l D t cI o2 H.size v hv8 k hk) (fun r w' h => h) (rw_V q328 q329 q330 q5 q331) kd_X1_count rfl ⟨Nat.le_of_ble_eq_true rfl, Nat.le_of_ble_eq_true rfl⟩ hl.1 rfl rfl (Nat.le_of_ble_eq_true rfl) dL_law_565 ⟨(show kC + 0 + 0 ≤ 601024 by omega), (show nC + 0 + 0 ≤ 7293034 by omega)⟩ (fun b1 v9 H locs hp X => ?_)
    skip
    refine lv_istore (lv' := [(6, .int b1), (5, .int 0), (0, .ref b), (1, .ref o), (2, .ref o2), (3, .ref q), (4, .int (nI i))]) hx hb dL_law_568 hl (by decide) rfl (fun ls hl => ?_)
    refine lv_goto (tgt := 751) hx hb dL_law_570 (by decide) ?_
    refine W.widen (k := kC + 20) (n := nC + 200) ((by omega)) ((by omega)) ?_
    exact kk _ _ _ _ _ _ X (T.E ra_E0 hp) (lv_sub hl [2, 3, 4, 5, 6] rfl)
  · refine lv_aload_n hx hb dL_law_545 rfl (lv_at hl 1 rfl) ?_
    refine lv_aload_n hx hb dL_law_546 rfl (lv_at hl 0 rfl) ?_
    refine lv_iload hx hb dL_law_547 (lv_at hl 4 rfl) ?_
    refine lv_iconst (v := 1) hx hb dL_law_549 (by decide) ?_
    refine lv_iadd hx hb dL_law_550 ?_
    refine g_top (nI_add i 1) ?_
    refine va_sld hx hb hX hbl hbA X.2.2.2.2 (i := nI (i + 1)) (vp_in_nI (by omega) (by omega)) dL_law_551 ?_
    refine g_top (y := x1) ((congrArg xs (nI_clamp (by omega))).trans ex1.symm) ?_
    refine lv_aload_n hx hb dL_law_552 rfl (lv_at hl 3 rfl) ?_
    refine g_lawH (n := 3) (As := [.ref o, .int x1, .ref q]) C X (fun sz => xL_count1 l D t cI cL o ad q sz f u (fun sz => xX0_count1 l D t cI o ad sz u hl0 x1 a1)) (rwW_S q309 q310 q36 q311) kd_L_count ⟨Nat.le_of_ble_eq_true rfl, Nat.le_of_ble_eq_true rfl⟩ hl.1 rfl rfl (Nat.le_of_ble_eq_true rfl) dL_law_553 ⟨(show kC + 1 ≤ 601024 by omega), (show nC + 6 ≤ 7293034 by omega)⟩ (fun r9 f9 u9 H locs hp X => ?_)
    obtain ⟨rfl, eu9⟩ := hp
    rw [eu9] at X
    refine lv_istore (lv' := [(5, .int 1), (0, .ref b), (1, .ref o), (2, .ref o2), (3, .ref q), (4, .int (nI i))]) hx hb dL_law_556 hl (by decide) rfl (fun ls hl => ?_)
    refine lv_aload_n hx hb dL_law_558 rfl (lv_at hl 3 rfl) ?_
    refine lv_aload_n hx hb dL_law_559 rfl (lv_at hl 1 rfl) ?_
    refine lv_iload hx hb dL_law_560 (lv_at hl 5 rfl) ?_
    refine lv_iconst (v := 1) hx hb dL_law_562 (by decide) ?_
    refine lv_iadd hx hb dL_law_563 ?_
    refine g_top (nI_add i 1) ?_
    refine va_sld hx hb hX hbl hbA X.2.2.2.2 (i := nI (i + 1)) (vp_in_nI (by omega) (by omega)) dL_law_564 ?_
    refine g_top (y := x1) ((congrArg xs (nI_clamp (by omega))).trans ex1.symm) ?_
    refine g_lawRie (n := 1) (As := [.int x1]) C X (bX1_count1 l D t cI o2 H.size v x1 a1) (rw_V q328 q329 q330 q5 q331) kd_X1_count rfl ⟨Nat.le_of_ble_eq_true rfl, Nat.le_of_ble_eq_true rfl⟩ hl.1 rfl rfl (Nat.le_of_ble_eq_true rfl) dL_law_565 ⟨(show kC + 1 + 0 ≤ 601024 by omega), (show nC + 6 + 0 ≤ 7293034 by omega)⟩ (fun H locs X => ?_)
    refine lv_topi (fun b1 eb1 => ?_)
    refine lv_istore (lv' := [(6, .int b1), (5, .int 1), (0, .ref b), (1, .ref o), (2, .ref o2), (3, .ref q), (4, .int (nI i))]) hx hb dL_law_568 hl (by decide) rfl (fun ls hl => ?_)
    refine lv_goto (tgt := 751) hx hb dL_law_570 (by decide) ?_
    refine W.widen (k := kC + 20) (n := nC + 200) ((by omega)) ((by omega)) ?_
    exact kk _ _ _ _ _ _ X (T.E ra_E0 ⟨rfl, rfl, fun _ _ => ⟨rfl, rfl⟩⟩) (lv_sub hl [2, 3, 4, 5, 6] rfl)
set_option maxHeartbeats 4000000 in
set_option maxRecDepth 100000 in
theorem law_g12 {p : Program} {l : Launch} {e : Env} {s : State} {m : MethodId} {below : List Frame} {meth : Method} {c : Code} {Q : State → Prop} {D : va_G} {t : Nat → Nat} {A : Nat → Prop} {cI cL : ClassId} {o o2 q b L kC nC i : Nat} {ad : Nat → Nat} {xs : Nat → Int32} {u : S0} {v : S1} {f : Nat → Int64} {H : Heap} {locs : List Loc} {ls : Array Slot} (C : gC p s m #[.ref b] meth c code 9 RL D (lT cI cL) t A) (hl0 : l.stackTraces = false) (hX : va_X b L xs s s.heap) (hbl : b < s.heap.size) (hbA : ¬ A b) (hi : i + 4 ≤ L) (hL : L ≤ 2048) (X : lS D A s cI cL o ad u o2 v q f H locs) (T : lTie u v) (hl : lv_has ls 9 [(0, .ref b), (1, .ref o), (2, .ref o2), (3, .ref q), (4, .int (nI i))]) (hk9 : kC + 20 ≤ 601024) (hn9 : nC + 200 ≤ 7293034) (kk : ∀ (u : S0) (v : S1) (f : Nat → Int64) (H : Heap) (locs : List Loc) (ls : Array Slot), lS D A s cI cL o ad u o2 v q f H locs → lTie u v → lv_has ls 9 [(0, .ref b), (1, .ref o), (2, .ref o2), (3, .ref q), (4, .int (nI i))] → W p l e room_1 s m #[.ref b] below meth c H locs (kC + 20) (nC + 200) Q (F0 m 751 ls [])) : W p l e room_1 s m #[.ref b] below meth c H locs kC nC Q (F0 m 573 ls []) := by
  have hx := C.1
  have hb := C.2.1
  have hown := C.2.2.2.1
  have hts := C.2.2.2.2.1
  obtain ⟨ehv, hv8, e7, er, hp4⟩ := id T
  have hu8 : u.2.1 ≤ 8 := by omega
  obtain ⟨x1, ex1⟩ : ∃ z, z = xs (i + 1) := ⟨_, rfl⟩
  rcases ld_cut 5 (by omega) x1 with ⟨k, hk, rfl⟩ | a1
  · refine lv_aload_n hx hb dL_law_573 rfl (lv_at hl 1 rfl) ?_
    refine lv_aload_n hx hb dL_law_574 rfl (lv_at hl 0 rfl) ?_
    refine lv_iload hx hb dL_law_575 (lv_at hl 4 rfl) ?_
    refine lv_iconst (v := 1) hx hb dL_law_577 (by decide) ?_
    refine lv_iadd hx hb dL_law_578 ?_
    refine g_top (nI_add i 1) ?_
    refine va_sld hx hb hX hbl hbA X.2.2.2.2 (i := nI (i + 1)) (vp_in_nI (by omega) (by omega)) dL_law_579 ?_
    refine g_top (y := nI k) ((congrArg xs (nI_clamp (by omega))).trans ex1.symm) ?_
    refine lv_aload_n hx hb dL_law_580 rfl (lv_at hl 3 rfl) ?_
    refine g_lawH (n := 3) (As := [.ref o, .int (nI k), .ref q]) C X (fun sz => mL_rate l D t cI cL o ad q sz f u (fun sz => mX0_rate l D t cI o ad sz u k hk)) (rwW_S q344 q345 q36 q346) kd_L_rate ⟨Nat.le_of_ble_eq_true rfl, Nat.le_of_ble_eq_true rfl⟩ hl.1 rfl rfl (Nat.le_of_ble_eq_true rfl) dL_law_581 ⟨(show kC + 0 ≤ 601024 by omega), (show nC + 0 ≤ 7293034 by omega)⟩ (fun r9 f9 u9 H locs hp X => ?_)
    obtain ⟨rfl, eu9, hf⟩ := hp
    rw [eu9] at X
    refine lv_istore (lv' := [(5, .int 0), (0, .ref b), (1, .ref o), (2, .ref o2), (3, .ref q), (4, .int (nI i))]) hx hb dL_law_584 hl (by decide) rfl (fun ls hl => ?_)
    refine lv_aload_n hx hb dL_law_586 rfl (lv_at hl 3 rfl) ?_
    refine lv_aload_n hx hb dL_law_587 rfl (lv_at hl 1 rfl) ?_
    refine lv_iload hx hb dL_law_588 (lv_at hl 5 rfl) ?_
    refine lv_iconst (v := 1) hx hb dL_law_590 (by decide) ?_
    refine lv_iadd hx hb dL_law_591 ?_
    refine g_top (nI_add i 1) ?_
    refine va_sld hx hb hX hbl hbA X.2.2.2.2 (i := nI (i + 1)) (vp_in_nI (by omega) (by omega)) dL_law_592 ?_
    refine g_top (y := nI k) ((congrArg xs (nI_clamp (by omega))).trans ex1.symm) ?_
    refine g_lawRie (n := 1) (As := [.int (nI k)]) C X (oX1_rate l D t cI o2 H.size v k hk) (rw_V q351 q352 q353 q5 q354) kd_X1_rate rfl ⟨Nat.le_of_ble_eq_true rfl, Nat.le_of_ble_eq_true rfl⟩ hl.1 rfl rfl (Nat.le_of_ble_eq_true rfl) dL_law_593 ⟨(show kC + 0 + 0 ≤ 601024 by omega), (show nC + 0 + 0 ≤ 7293034 by omega)⟩ (fun H locs X => ?_)
    refine lv_topi (fun b1 eb1 => ?_)
    refine lv_istore (lv' := [(6, .int b1), (5, .int 0), (0, .ref b), (1, .ref o), (2, .ref o2), (3, .ref q), (4, .int (nI i))]) hx hb dL_law_596 hl (by decide) rfl (fun ls hl => ?_)
    refine lv_aload_n hx hb dL_law_598 rfl (lv_at hl 4 rfl) ?_
    refine g_lawRie (n := 0) (As := []) C X (mX1_thrown l D t cI o2 H.size _) (rw_V q355 q356 q357 q5 q358) kd_X1_thrown rfl ⟨Nat.le_of_ble_eq_true rfl, Nat.le_of_ble_eq_true rfl⟩ hl.1 rfl rfl (Nat.le_of_ble_eq_true rfl) dL_law_599 ⟨(show kC + 0 + 0 + 0 ≤ 601024 by omega), (show nC + 0 + 0 + 0 ≤ 7293034 by omega)⟩ (fun H locs X => ?_)
    refine lv_topi (fun t9 et9 => ?_)
    refine lv_iload hx hb dL_law_602 (lv_at hl 1 rfl) ?_
    refine lv_icmp_eq (tgt := 609) hx hb dL_law_604 (by decide) (fun c3 => ?_) (fun c3 => absurd (et9.trans rfl) c3)
    refine lv_iload hx hb dL_law_609 (lv_at hl 1 rfl) ?_
    refine lv_if_ne (tgt := 626) hx hb dL_law_611 (by decide) (fun c4 => absurd c4 (by decide)) (fun c4 => ?_)
    refine lv_aload_n hx hb dL_law_614 rfl (lv_at hl 5 rfl) ?_
    refine lv_iconst (v := 0) hx hb dL_law_615 (by decide) ?_
    refine g_ll C X dL_law_616 ?_
    refine lv_iload hx hb dL_law_617 (lv_at hl 0 rfl) ?_
    refine lv_i2l hx hb dL_law_619 rfl ?_
    refine W.lcmp hx hb dL_law_620 ?_
    refine lv_if_eq (tgt := 626) hx hb dL_law_621 (by decide) (fun c5 => ?_) (fun c5 => absurd (ld_eq hf eb1 (congrFun e7 k)) c5)
    refine lv_goto (tgt := 751) hx hb dL_law_626 (by decide) ?_
    refine W.widen (k := kC + 20) (n := nC + 200) ((by omega)) ((by omega)) ?_
    exact kk _ _ _ _ _ _ X (T.E ra_E0 ⟨rfl, rfl, fun _ _ => ⟨rfl, rfl⟩⟩) (lv_sub hl [2, 3, 4, 5, 6] rfl)
  · refine lv_aload_n hx hb dL_law_573 rfl (lv_at hl 1 rfl) ?_
    refine lv_aload_n hx hb dL_law_574 rfl (lv_at hl 0 rfl) ?_
    refine lv_iload hx hb dL_law_575 (lv_at hl 4 rfl) ?_
    refine lv_iconst (v := 1) hx hb dL_law_577 (by decide) ?_
    refine lv_iadd hx hb dL_law_578 ?_
    refine g_top (nI_add i 1) ?_
    refine va_sld hx hb hX hbl hbA X.2.2.2.2 (i := nI (i + 1)) (vp_in_nI (by omega) (by omega)) dL_law_579 ?_
    refine g_top (y := x1) ((congrArg xs (nI_clamp (by omega))).trans ex1.symm) ?_
    refine lv_aload_n hx hb dL_law_580 rfl (lv_at hl 3 rfl) ?_
    refine g_lawH (n := 3) (As := [.ref o, .int x1, .ref q]) C X (fun sz => xL_rate1 l D t cI cL o ad q sz f u (fun sz => xX0_rate1 l D t cI o ad sz u hl0 x1 a1)) (rwW_S q344 q345 q36 q346) kd_L_rate ⟨Nat.le_of_ble_eq_true rfl, Nat.le_of_ble_eq_true rfl⟩ hl.1 rfl rfl (Nat.le_of_ble_eq_true rfl) dL_law_581 ⟨(show kC + 1 ≤ 601024 by omega), (show nC + 6 ≤ 7293034 by omega)⟩ (fun r9 f9 u9 H locs hp X => ?_)
    obtain ⟨rfl, eu9⟩ := hp
    rw [eu9] at X
    refine lv_istore (lv' := [(5, .int 1), (0, .ref b), (1, .ref o), (2, .ref o2), (3, .ref q), (4, .int (nI i))]) hx hb dL_law_584 hl (by decide) rfl (fun ls hl => ?_)
    refine lv_aload_n hx hb dL_law_586 rfl (lv_at hl 3 rfl) ?_
    refine lv_aload_n hx hb dL_law_587 rfl (lv_at hl 1 rfl) ?_
    refine lv_iload hx hb dL_law_588 (lv_at hl 5 rfl) ?_
    refine lv_iconst (v := 1) hx hb dL_law_590 (by decide) ?_
    refine lv_iadd hx hb dL_law_591 ?_
    refine g_top (nI_add i 1) ?_
    refine va_sld hx hb hX hbl hbA X.2.2.2.2 (i := nI (i + 1)) (vp_in_nI (by omega) (by omega)) dL_law_592 ?_
    refine g_top (y := x1) ((congrArg xs (nI_clamp (by omega))).trans ex1.symm) ?_
    refine g_lawRie (n := 1) (As := [.int x1]) C X (bX1_rate1 l D t cI o2 H.size v x1 a1) (rw_V q351 q352 q353 q5 q354) kd_X1_rate rfl ⟨Nat.le_of_ble_eq_true rfl, Nat.le_of_ble_eq_true rfl⟩ hl.1 rfl rfl (Nat.le_of_ble_eq_true rfl) dL_law_593 ⟨(show kC + 1 + 0 ≤ 601024 by omega), (show nC + 6 + 0 ≤ 7293034 by omega)⟩ (fun H locs X => ?_)
    refine lv_topi (fun b1 eb1 => ?_)
    refine lv_istore (lv' := [(6, .int b1), (5, .int 1), (0, .ref b), (1, .ref o), (2, .ref o2), (3, .ref q), (4, .int (nI i))]) hx hb dL_law_596 hl (by decide) rfl (fun ls hl => ?_)
    refine lv_aload_n hx hb dL_law_598 rfl (lv_at hl 4 rfl) ?_
    refine g_lawRie (n := 0) (As := []) C X (mX1_thrown l D t cI o2 H.size _) (rw_V q355 q356 q357 q5 q358) kd_X1_thrown rfl ⟨Nat.le_of_ble_eq_true rfl, Nat.le_of_ble_eq_true rfl⟩ hl.1 rfl rfl (Nat.le_of_ble_eq_true rfl) dL_law_599 ⟨(show kC + 1 + 0 + 0 ≤ 601024 by omega), (show nC + 6 + 0 + 0 ≤ 7293034 by omega)⟩ (fun H locs X => ?_)
    refine lv_topi (fun t9 et9 => ?_)
    refine lv_iload hx hb dL_law_602 (lv_at hl 1 rfl) ?_
    refine lv_icmp_eq (tgt := 609) hx hb dL_law_604 (by decide) (fun c3 => ?_) (fun c3 => absurd (et9.trans rfl) c3)
    refine lv_iload hx hb dL_law_609 (lv_at hl 1 rfl) ?_
    refine lv_if_ne (tgt := 626) hx hb dL_law_611 (by decide) (fun c4 => ?_) (fun c4 => absurd c4 (by decide))
    refine lv_goto (tgt := 751) hx hb dL_law_626 (by decide) ?_
    refine W.widen (k := kC + 20) (n := nC + 200) ((by omega)) ((by omega)) ?_
    exact kk _ _ _ _ _ _ X (T.E ra_E0 ⟨rfl, rfl, fun _ _ => ⟨rfl, rfl⟩⟩) (lv_sub hl [2, 3, 4, 5, 6] rfl)
set_option maxHeartbeats 4000000 in
set_option maxRecDepth 100000 in
theorem law_g13 {p : Program} {l : Launch} {e : Env} {s : State} {m : MethodId} {below : List Frame} {meth : Method} {c : Code} {Q : State → Prop} {D : va_G} {t : Nat → Nat} {A : Nat → Prop} {cI cL : ClassId} {o o2 q b L kC nC i : Nat} {ad : Nat → Nat} {xs : Nat → Int32} {u : S0} {v : S1} {f : Nat → Int64} {H : Heap} {locs : List Loc} {ls : Array Slot} (C : gC p s m #[.ref b] meth c code 9 RL D (lT cI cL) t A) (hl0 : l.stackTraces = false) (hX : va_X b L xs s s.heap) (hbl : b < s.heap.size) (hbA : ¬ A b) (hi : i + 4 ≤ L) (hL : L ≤ 2048) (X : lS D A s cI cL o ad u o2 v q f H locs) (T : lTie u v) (hl : lv_has ls 9 [(0, .ref b), (1, .ref o), (2, .ref o2), (3, .ref q), (4, .int (nI i))]) (hk9 : kC + 20 ≤ 601024) (hn9 : nC + 200 ≤ 7293034) (kk : ∀ (u : S0) (v : S1) (f : Nat → Int64) (H : Heap) (locs : List Loc) (ls : Array Slot), lS D A s cI cL o ad u o2 v q f H locs → lTie u v → lv_has ls 9 [(0, .ref b), (1, .ref o), (2, .ref o2), (3, .ref q), (4, .int (nI i))] → W p l e room_1 s m #[.ref b] below meth c H locs (kC + 20) (nC + 200) Q (F0 m 751 ls [])) : W p l e room_1 s m #[.ref b] below meth c H locs kC nC Q (F0 m 629 ls []) := by
  have hx := C.1
  have hb := C.2.1
  have hown := C.2.2.2.1
  have hts := C.2.2.2.2.1
  obtain ⟨ehv, hv8, e7, er, hp4⟩ := id T
  have hu8 : u.2.1 ≤ 8 := by omega
  obtain ⟨x1, ex1⟩ : ∃ z, z = xs (i + 1) := ⟨_, rfl⟩
  obtain ⟨x2, ex2⟩ : ∃ z, z = xs (i + 2) := ⟨_, rfl⟩
  rcases ld_cut 5 (by omega) x1 with ⟨k, hk, rfl⟩ | a1
  · by_cases a2 : x2 < rt_RX0_LEAST_RATE k ∨ ¬ x2 ≤ rt_RX0_MOST_RATE k
    · refine lv_aload_n hx hb dL_law_629 rfl (lv_at hl 1 rfl) ?_
      refine lv_aload_n hx hb dL_law_630 rfl (lv_at hl 0 rfl) ?_
      refine lv_iload hx hb dL_law_631 (lv_at hl 4 rfl) ?_
      refine lv_iconst (v := 1) hx hb dL_law_633 (by decide) ?_
      refine lv_iadd hx hb dL_law_634 ?_
      refine g_top (nI_add i 1) ?_
      refine va_sld hx hb hX hbl hbA X.2.2.2.2 (i := nI (i + 1)) (vp_in_nI (by omega) (by omega)) dL_law_635 ?_
      refine g_top (y := nI k) ((congrArg xs (nI_clamp (by omega))).trans ex1.symm) ?_
      refine lv_aload_n hx hb dL_law_636 rfl (lv_at hl 0 rfl) ?_
      refine lv_iload hx hb dL_law_637 (lv_at hl 4 rfl) ?_
      refine lv_iconst (v := 2) hx hb dL_law_639 (by decide) ?_
      refine lv_iadd hx hb dL_law_640 ?_
      refine g_top (nI_add i 2) ?_
      refine va_sld hx hb hX hbl hbA X.2.2.2.2 (i := nI (i + 2)) (vp_in_nI (by omega) (by omega)) dL_law_641 ?_
      refine g_top (y := x2) ((congrArg xs (nI_clamp (by omega))).trans ex2.symm) ?_
      refine lv_aload_n hx hb dL_law_642 rfl (lv_at hl 3 rfl) ?_
      refine g_lawH (n := 4) (As := [.ref o, .int (nI k), .int x2, .ref q]) C X (fun sz => xL_would2 l D t cI cL o ad q sz f u (fun sz => xX0_would2 l D t cI o ad sz u hl0 k hk x2 a2)) (rwW_S q359 q360 q36 q361) kd_L_would ⟨Nat.le_of_ble_eq_true rfl, Nat.le_of_ble_eq_true rfl⟩ hl.1 rfl rfl (Nat.le_of_ble_eq_true rfl) dL_law_643 ⟨(show kC + 1 ≤ 601024 by omega), (show nC + 6 ≤ 7293034 by omega)⟩ (fun r9 f9 u9 H locs hp X => ?_)
      obtain ⟨rfl, eu9⟩ := hp
      rw [eu9] at X
      refine lv_istore (lv' := [(5, .int 2), (0, .ref b), (1, .ref o), (2, .ref o2), (3, .ref q), (4, .int (nI i))]) hx hb dL_law_646 hl (by decide) rfl (fun ls hl => ?_)
      refine lv_aload_n hx hb dL_law_648 rfl (lv_at hl 3 rfl) ?_
      refine lv_aload_n hx hb dL_law_649 rfl (lv_at hl 1 rfl) ?_
      refine lv_iload hx hb dL_law_650 (lv_at hl 5 rfl) ?_
      refine lv_iconst (v := 1) hx hb dL_law_652 (by decide) ?_
      refine lv_iadd hx hb dL_law_653 ?_
      refine g_top (nI_add i 1) ?_
      refine va_sld hx hb hX hbl hbA X.2.2.2.2 (i := nI (i + 1)) (vp_in_nI (by omega) (by omega)) dL_law_654 ?_
      refine g_top (y := nI k) ((congrArg xs (nI_clamp (by omega))).trans ex1.symm) ?_
      refine lv_aload_n hx hb dL_law_655 rfl (lv_at hl 1 rfl) ?_
      refine lv_iload hx hb dL_law_656 (lv_at hl 5 rfl) ?_
      refine lv_iconst (v := 2) hx hb dL_law_658 (by decide) ?_
      refine lv_iadd hx hb dL_law_659 ?_
      refine g_top (nI_add i 2) ?_
      refine va_sld hx hb hX hbl hbA X.2.2.2.2 (i := nI (i + 2)) (vp_in_nI (by omega) (by omega)) dL_law_660 ?_
      refine g_top (y := x2) ((congrArg xs (nI_clamp (by omega))).trans ex2.symm) ?_
      refine g_lawRie (n := 2) (As := [.int (nI k), .int x2]) C X (bX1_would2 l D t cI o2 H.size v k hk x2 (ld_bad a2)) (rw_V q366 q367 q368 q5 q369) kd_X1_would rfl ⟨Nat.le_of_ble_eq_true rfl, Nat.le_of_ble_eq_true rfl⟩ hl.1 rfl rfl (Nat.le_of_ble_eq_true rfl) dL_law_661 ⟨(show kC + 1 + 0 ≤ 601024 by omega), (show nC + 6 + 0 ≤ 7293034 by omega)⟩ (fun H locs X => ?_)
      refine lv_topi (fun b1 eb1 => ?_)
      refine lv_istore (lv' := [(6, .int b1), (5, .int 2), (0, .ref b), (1, .ref o), (2, .ref o2), (3, .ref q), (4, .int (nI i))]) hx hb dL_law_664 hl (by decide) rfl (fun ls hl => ?_)
      refine lv_goto (tgt := 751) hx hb dL_law_666 (by decide) ?_
      refine W.widen (k := kC + 20) (n := nC + 200) ((by omega)) ((by omega)) ?_
      exact kk _ _ _ _ _ _ X (T.E ra_E0 ⟨rfl, rfl, fun _ _ => ⟨rfl, rfl⟩⟩) (lv_sub hl [2, 3, 4, 5, 6] rfl)
    · refine lv_aload_n hx hb dL_law_629 rfl (lv_at hl 1 rfl) ?_
      refine lv_aload_n hx hb dL_law_630 rfl (lv_at hl 0 rfl) ?_
      refine lv_iload hx hb dL_law_631 (lv_at hl 4 rfl) ?_
      refine lv_iconst (v := 1) hx hb dL_law_633 (by decide) ?_
      refine lv_iadd hx hb dL_law_634 ?_
      refine g_top (nI_add i 1) ?_
      refine va_sld hx hb hX hbl hbA X.2.2.2.2 (i := nI (i + 1)) (vp_in_nI (by omega) (by omega)) dL_law_635 ?_
      refine g_top (y := nI k) ((congrArg xs (nI_clamp (by omega))).trans ex1.symm) ?_
      refine lv_aload_n hx hb dL_law_636 rfl (lv_at hl 0 rfl) ?_
      refine lv_iload hx hb dL_law_637 (lv_at hl 4 rfl) ?_
      refine lv_iconst (v := 2) hx hb dL_law_639 (by decide) ?_
      refine lv_iadd hx hb dL_law_640 ?_
      refine g_top (nI_add i 2) ?_
      refine va_sld hx hb hX hbl hbA X.2.2.2.2 (i := nI (i + 2)) (vp_in_nI (by omega) (by omega)) dL_law_641 ?_
      refine g_top (y := x2) ((congrArg xs (nI_clamp (by omega))).trans ex2.symm) ?_
      refine lv_aload_n hx hb dL_law_642 rfl (lv_at hl 3 rfl) ?_
      refine g_lawH (n := 4) (As := [.ref o, .int (nI k), .int x2, .ref q]) C X (fun sz => mL_would l D t cI cL o ad q sz f u (fun sz => mX0_would l D t cI o ad sz u hu8 k hk x2 (ld_ok1 a2) (ld_ok2 a2))) (rwW_S q359 q360 q36 q361) kd_L_would ⟨Nat.le_of_ble_eq_true rfl, Nat.le_of_ble_eq_true rfl⟩ hl.1 rfl rfl (Nat.le_of_ble_eq_true rfl) dL_law_643 ⟨(show kC + 0 ≤ 601024 by omega), (show nC + 0 ≤ 7293034 by omega)⟩ (fun r9 f9 u9 H locs hp X => ?_)
      obtain ⟨rfl, eu9, hf⟩ := hp
      rw [eu9] at X
      refine lv_istore (lv' := [(5, .int 0), (0, .ref b), (1, .ref o), (2, .ref o2), (3, .ref q), (4, .int (nI i))]) hx hb dL_law_646 hl (by decide) rfl (fun ls hl => ?_)
      refine lv_aload_n hx hb dL_law_648 rfl (lv_at hl 3 rfl) ?_
      refine lv_aload_n hx hb dL_law_649 rfl (lv_at hl 1 rfl) ?_
      refine lv_iload hx hb dL_law_650 (lv_at hl 5 rfl) ?_
      refine lv_iconst (v := 1) hx hb dL_law_652 (by decide) ?_
      refine lv_iadd hx hb dL_law_653 ?_
      refine g_top (nI_add i 1) ?_
      refine va_sld hx hb hX hbl hbA X.2.2.2.2 (i := nI (i + 1)) (vp_in_nI (by omega) (by omega)) dL_law_654 ?_
      refine g_top (y := nI k) ((congrArg xs (nI_clamp (by omega))).trans ex1.symm) ?_
      refine lv_aload_n hx hb dL_law_655 rfl (lv_at hl 1 rfl) ?_
      refine lv_iload hx hb dL_law_656 (lv_at hl 5 rfl) ?_
      refine lv_iconst (v := 2) hx hb dL_law_658 (by decide) ?_
      refine lv_iadd hx hb dL_law_659 ?_
      refine g_top (nI_add i 2) ?_
      refine va_sld hx hb hX hbl hbA X.2.2.2.2 (i := nI (i + 2)) (vp_in_nI (by omega) (by omega)) dL_law_660 ?_
      refine g_top (y := x2) ((congrArg xs (nI_clamp (by omega))).trans ex2.symm) ?_
      refine g_lawRi (P := (fun _ v' => rb_E v v')) (n := 2) (As := [.int (nI k), .int x2]) C X (wX1_would l D t cI o2 H.size v hv8 k hk x2) (fun r w' h => h) (rw_V q366 q367 q368 q5 q369) kd_X1_would rfl ⟨Nat.le_of_ble_eq_true rfl, Nat.le_of_ble_eq_true rfl⟩ hl.1 rfl rfl (Nat.le_of_ble_eq_true rfl) dL_law_661 ⟨(show kC + 0 + 0 ≤ 601024 by omega), (show nC + 0 + 0 ≤ 7293034 by omega)⟩ (fun b1 v9 H locs hp X => ?_)
      skip
      refine lv_istore (lv' := [(6, .int b1), (5, .int 0), (0, .ref b), (1, .ref o), (2, .ref o2), (3, .ref q), (4, .int (nI i))]) hx hb dL_law_664 hl (by decide) rfl (fun ls hl => ?_)
      refine lv_goto (tgt := 751) hx hb dL_law_666 (by decide) ?_
      refine W.widen (k := kC + 20) (n := nC + 200) ((by omega)) ((by omega)) ?_
      exact kk _ _ _ _ _ _ X (T.E rf_wdE hp) (lv_sub hl [2, 3, 4, 5, 6] rfl)
  · refine lv_aload_n hx hb dL_law_629 rfl (lv_at hl 1 rfl) ?_
    refine lv_aload_n hx hb dL_law_630 rfl (lv_at hl 0 rfl) ?_
    refine lv_iload hx hb dL_law_631 (lv_at hl 4 rfl) ?_
    refine lv_iconst (v := 1) hx hb dL_law_633 (by decide) ?_
    refine lv_iadd hx hb dL_law_634 ?_
    refine g_top (nI_add i 1) ?_
    refine va_sld hx hb hX hbl hbA X.2.2.2.2 (i := nI (i + 1)) (vp_in_nI (by omega) (by omega)) dL_law_635 ?_
    refine g_top (y := x1) ((congrArg xs (nI_clamp (by omega))).trans ex1.symm) ?_
    refine lv_aload_n hx hb dL_law_636 rfl (lv_at hl 0 rfl) ?_
    refine lv_iload hx hb dL_law_637 (lv_at hl 4 rfl) ?_
    refine lv_iconst (v := 2) hx hb dL_law_639 (by decide) ?_
    refine lv_iadd hx hb dL_law_640 ?_
    refine g_top (nI_add i 2) ?_
    refine va_sld hx hb hX hbl hbA X.2.2.2.2 (i := nI (i + 2)) (vp_in_nI (by omega) (by omega)) dL_law_641 ?_
    refine g_top (y := x2) ((congrArg xs (nI_clamp (by omega))).trans ex2.symm) ?_
    refine lv_aload_n hx hb dL_law_642 rfl (lv_at hl 3 rfl) ?_
    refine g_lawH (n := 4) (As := [.ref o, .int x1, .int x2, .ref q]) C X (fun sz => xL_would1 l D t cI cL o ad q sz f u (fun sz => xX0_would1 l D t cI o ad sz u hl0 x1 x2 a1)) (rwW_S q359 q360 q36 q361) kd_L_would ⟨Nat.le_of_ble_eq_true rfl, Nat.le_of_ble_eq_true rfl⟩ hl.1 rfl rfl (Nat.le_of_ble_eq_true rfl) dL_law_643 ⟨(show kC + 1 ≤ 601024 by omega), (show nC + 6 ≤ 7293034 by omega)⟩ (fun r9 f9 u9 H locs hp X => ?_)
    obtain ⟨rfl, eu9⟩ := hp
    rw [eu9] at X
    refine lv_istore (lv' := [(5, .int 1), (0, .ref b), (1, .ref o), (2, .ref o2), (3, .ref q), (4, .int (nI i))]) hx hb dL_law_646 hl (by decide) rfl (fun ls hl => ?_)
    refine lv_aload_n hx hb dL_law_648 rfl (lv_at hl 3 rfl) ?_
    refine lv_aload_n hx hb dL_law_649 rfl (lv_at hl 1 rfl) ?_
    refine lv_iload hx hb dL_law_650 (lv_at hl 5 rfl) ?_
    refine lv_iconst (v := 1) hx hb dL_law_652 (by decide) ?_
    refine lv_iadd hx hb dL_law_653 ?_
    refine g_top (nI_add i 1) ?_
    refine va_sld hx hb hX hbl hbA X.2.2.2.2 (i := nI (i + 1)) (vp_in_nI (by omega) (by omega)) dL_law_654 ?_
    refine g_top (y := x1) ((congrArg xs (nI_clamp (by omega))).trans ex1.symm) ?_
    refine lv_aload_n hx hb dL_law_655 rfl (lv_at hl 1 rfl) ?_
    refine lv_iload hx hb dL_law_656 (lv_at hl 5 rfl) ?_
    refine lv_iconst (v := 2) hx hb dL_law_658 (by decide) ?_
    refine lv_iadd hx hb dL_law_659 ?_
    refine g_top (nI_add i 2) ?_
    refine va_sld hx hb hX hbl hbA X.2.2.2.2 (i := nI (i + 2)) (vp_in_nI (by omega) (by omega)) dL_law_660 ?_
    refine g_top (y := x2) ((congrArg xs (nI_clamp (by omega))).trans ex2.symm) ?_
    refine g_lawRie (n := 2) (As := [.int x1, .int x2]) C X (bX1_would1 l D t cI o2 H.size v x1 x2 a1) (rw_V q366 q367 q368 q5 q369) kd_X1_would rfl ⟨Nat.le_of_ble_eq_true rfl, Nat.le_of_ble_eq_true rfl⟩ hl.1 rfl rfl (Nat.le_of_ble_eq_true rfl) dL_law_661 ⟨(show kC + 1 + 0 ≤ 601024 by omega), (show nC + 6 + 0 ≤ 7293034 by omega)⟩ (fun H locs X => ?_)
    refine lv_topi (fun b1 eb1 => ?_)
    refine lv_istore (lv' := [(6, .int b1), (5, .int 1), (0, .ref b), (1, .ref o), (2, .ref o2), (3, .ref q), (4, .int (nI i))]) hx hb dL_law_664 hl (by decide) rfl (fun ls hl => ?_)
    refine lv_goto (tgt := 751) hx hb dL_law_666 (by decide) ?_
    refine W.widen (k := kC + 20) (n := nC + 200) ((by omega)) ((by omega)) ?_
    exact kk _ _ _ _ _ _ X (T.E ra_E0 ⟨rfl, rfl, fun _ _ => ⟨rfl, rfl⟩⟩) (lv_sub hl [2, 3, 4, 5, 6] rfl)
set_option maxHeartbeats 4000000 in
set_option maxRecDepth 100000 in
theorem law_g14 {p : Program} {l : Launch} {e : Env} {s : State} {m : MethodId} {below : List Frame} {meth : Method} {c : Code} {Q : State → Prop} {D : va_G} {t : Nat → Nat} {A : Nat → Prop} {cI cL : ClassId} {o o2 q b L kC nC i : Nat} {ad : Nat → Nat} {xs : Nat → Int32} {u : S0} {v : S1} {f : Nat → Int64} {H : Heap} {locs : List Loc} {ls : Array Slot} (C : gC p s m #[.ref b] meth c code 9 RL D (lT cI cL) t A) (hl0 : l.stackTraces = false) (hX : va_X b L xs s s.heap) (hbl : b < s.heap.size) (hbA : ¬ A b) (hi : i + 4 ≤ L) (hL : L ≤ 2048) (X : lS D A s cI cL o ad u o2 v q f H locs) (T : lTie u v) (hl : lv_has ls 9 [(0, .ref b), (1, .ref o), (2, .ref o2), (3, .ref q), (4, .int (nI i))]) (hk9 : kC + 20 ≤ 601024) (hn9 : nC + 200 ≤ 7293034) (kk : ∀ (u : S0) (v : S1) (f : Nat → Int64) (H : Heap) (locs : List Loc) (ls : Array Slot), lS D A s cI cL o ad u o2 v q f H locs → lTie u v → lv_has ls 9 [(0, .ref b), (1, .ref o), (2, .ref o2), (3, .ref q), (4, .int (nI i))] → W p l e room_1 s m #[.ref b] below meth c H locs (kC + 20) (nC + 200) Q (F0 m 751 ls [])) : W p l e room_1 s m #[.ref b] below meth c H locs kC nC Q (F0 m 669 ls []) := by
  have hx := C.1
  have hb := C.2.1
  have hown := C.2.2.2.1
  have hts := C.2.2.2.2.1
  obtain ⟨ehv, hv8, e7, er, hp4⟩ := id T
  have hu8 : u.2.1 ≤ 8 := by omega
  obtain ⟨x1, ex1⟩ : ∃ z, z = xs (i + 1) := ⟨_, rfl⟩
  rcases ld_cut u.2.1 (by omega) x1 with ⟨r, hr, rfl⟩ | a1
  · refine lv_aload_n hx hb dL_law_669 rfl (lv_at hl 1 rfl) ?_
    refine lv_aload_n hx hb dL_law_670 rfl (lv_at hl 0 rfl) ?_
    refine lv_iload hx hb dL_law_671 (lv_at hl 4 rfl) ?_
    refine lv_iconst (v := 1) hx hb dL_law_673 (by decide) ?_
    refine lv_iadd hx hb dL_law_674 ?_
    refine g_top (nI_add i 1) ?_
    refine va_sld hx hb hX hbl hbA X.2.2.2.2 (i := nI (i + 1)) (vp_in_nI (by omega) (by omega)) dL_law_675 ?_
    refine g_top (y := nI r) ((congrArg xs (nI_clamp (by omega))).trans ex1.symm) ?_
    refine lv_aload_n hx hb dL_law_676 rfl (lv_at hl 3 rfl) ?_
    refine g_lawH (n := 3) (As := [.ref o, .int (nI r), .ref q]) C X (fun sz => mL_until l D t cI cL o ad q sz f u (fun sz => mX0_until l D t cI o ad sz u hu8 r hr)) (rwW_S q370 q371 q36 q372) kd_L_until ⟨Nat.le_of_ble_eq_true rfl, Nat.le_of_ble_eq_true rfl⟩ hl.1 rfl rfl (Nat.le_of_ble_eq_true rfl) dL_law_677 ⟨(show kC + 0 ≤ 601024 by omega), (show nC + 0 ≤ 7293034 by omega)⟩ (fun r9 f9 u9 H locs hp X => ?_)
    obtain ⟨rfl, eu9, hf⟩ := hp
    rw [eu9] at X
    refine lv_istore (lv' := [(5, .int 0), (0, .ref b), (1, .ref o), (2, .ref o2), (3, .ref q), (4, .int (nI i))]) hx hb dL_law_680 hl (by decide) rfl (fun ls hl => ?_)
    refine lv_aload_n hx hb dL_law_682 rfl (lv_at hl 3 rfl) ?_
    refine lv_aload_n hx hb dL_law_683 rfl (lv_at hl 1 rfl) ?_
    refine lv_iload hx hb dL_law_684 (lv_at hl 5 rfl) ?_
    refine lv_iconst (v := 1) hx hb dL_law_686 (by decide) ?_
    refine lv_iadd hx hb dL_law_687 ?_
    refine g_top (nI_add i 1) ?_
    refine va_sld hx hb hX hbl hbA X.2.2.2.2 (i := nI (i + 1)) (vp_in_nI (by omega) (by omega)) dL_law_688 ?_
    refine g_top (y := nI r) ((congrArg xs (nI_clamp (by omega))).trans ex1.symm) ?_
    refine g_lawRi (P := (fun _ v' => rb_E v v')) (n := 1) (As := [.int (nI r)]) C X (wX1_until l D t cI o2 H.size v hv8 hp4 r (show r < v.2.1 by omega)) (fun r w' h => h) (rw_V q377 q378 q379 q5 q380) kd_X1_until rfl ⟨Nat.le_of_ble_eq_true rfl, Nat.le_of_ble_eq_true rfl⟩ hl.1 rfl rfl (Nat.le_of_ble_eq_true rfl) dL_law_689 ⟨(show kC + 0 + 0 ≤ 601024 by omega), (show nC + 0 + 0 ≤ 7293034 by omega)⟩ (fun b1 v9 H locs hp X => ?_)
    skip
    refine lv_istore (lv' := [(6, .int b1), (5, .int 0), (0, .ref b), (1, .ref o), (2, .ref o2), (3, .ref q), (4, .int (nI i))]) hx hb dL_law_692 hl (by decide) rfl (fun ls hl => ?_)
    refine lv_goto (tgt := 751) hx hb dL_law_694 (by decide) ?_
    refine W.widen (k := kC + 20) (n := nC + 200) ((by omega)) ((by omega)) ?_
    exact kk _ _ _ _ _ _ X (T.E ra_E0 hp) (lv_sub hl [2, 3, 4, 5, 6] rfl)
  · refine lv_aload_n hx hb dL_law_669 rfl (lv_at hl 1 rfl) ?_
    refine lv_aload_n hx hb dL_law_670 rfl (lv_at hl 0 rfl) ?_
    refine lv_iload hx hb dL_law_671 (lv_at hl 4 rfl) ?_
    refine lv_iconst (v := 1) hx hb dL_law_673 (by decide) ?_
    refine lv_iadd hx hb dL_law_674 ?_
    refine g_top (nI_add i 1) ?_
    refine va_sld hx hb hX hbl hbA X.2.2.2.2 (i := nI (i + 1)) (vp_in_nI (by omega) (by omega)) dL_law_675 ?_
    refine g_top (y := x1) ((congrArg xs (nI_clamp (by omega))).trans ex1.symm) ?_
    refine lv_aload_n hx hb dL_law_676 rfl (lv_at hl 3 rfl) ?_
    refine g_lawH (n := 3) (As := [.ref o, .int x1, .ref q]) C X (fun sz => xL_until1 l D t cI cL o ad q sz f u (fun sz => xX0_until1 l D t cI o ad sz u hl0 x1 a1)) (rwW_S q370 q371 q36 q372) kd_L_until ⟨Nat.le_of_ble_eq_true rfl, Nat.le_of_ble_eq_true rfl⟩ hl.1 rfl rfl (Nat.le_of_ble_eq_true rfl) dL_law_677 ⟨(show kC + 1 ≤ 601024 by omega), (show nC + 6 ≤ 7293034 by omega)⟩ (fun r9 f9 u9 H locs hp X => ?_)
    obtain ⟨rfl, eu9⟩ := hp
    rw [eu9] at X
    refine lv_istore (lv' := [(5, .int 1), (0, .ref b), (1, .ref o), (2, .ref o2), (3, .ref q), (4, .int (nI i))]) hx hb dL_law_680 hl (by decide) rfl (fun ls hl => ?_)
    refine lv_aload_n hx hb dL_law_682 rfl (lv_at hl 3 rfl) ?_
    refine lv_aload_n hx hb dL_law_683 rfl (lv_at hl 1 rfl) ?_
    refine lv_iload hx hb dL_law_684 (lv_at hl 5 rfl) ?_
    refine lv_iconst (v := 1) hx hb dL_law_686 (by decide) ?_
    refine lv_iadd hx hb dL_law_687 ?_
    refine g_top (nI_add i 1) ?_
    refine va_sld hx hb hX hbl hbA X.2.2.2.2 (i := nI (i + 1)) (vp_in_nI (by omega) (by omega)) dL_law_688 ?_
    refine g_top (y := x1) ((congrArg xs (nI_clamp (by omega))).trans ex1.symm) ?_
    refine g_lawRi (P := (fun _ v' => rb_E v v')) (n := 1) (As := [.int x1]) C X (wbX1_until1 l D t cI o2 H.size v hv8 x1 (by rw [← ehv]; exact a1)) (fun r w' h => h) (rw_V q377 q378 q379 q5 q380) kd_X1_until rfl ⟨Nat.le_of_ble_eq_true rfl, Nat.le_of_ble_eq_true rfl⟩ hl.1 rfl rfl (Nat.le_of_ble_eq_true rfl) dL_law_689 ⟨(show kC + 1 + 0 ≤ 601024 by omega), (show nC + 6 + 0 ≤ 7293034 by omega)⟩ (fun b1 v9 H locs hp X => ?_)
    skip
    refine lv_istore (lv' := [(6, .int b1), (5, .int 1), (0, .ref b), (1, .ref o), (2, .ref o2), (3, .ref q), (4, .int (nI i))]) hx hb dL_law_692 hl (by decide) rfl (fun ls hl => ?_)
    refine lv_goto (tgt := 751) hx hb dL_law_694 (by decide) ?_
    refine W.widen (k := kC + 20) (n := nC + 200) ((by omega)) ((by omega)) ?_
    exact kk _ _ _ _ _ _ X (T.E ra_E0 hp) (lv_sub hl [2, 3, 4, 5, 6] rfl)
set_option maxHeartbeats 4000000 in
set_option maxRecDepth 100000 in
theorem law_g15 {p : Program} {l : Launch} {e : Env} {s : State} {m : MethodId} {below : List Frame} {meth : Method} {c : Code} {Q : State → Prop} {D : va_G} {t : Nat → Nat} {A : Nat → Prop} {cI cL : ClassId} {o o2 q b L kC nC i : Nat} {ad : Nat → Nat} {xs : Nat → Int32} {u : S0} {v : S1} {f : Nat → Int64} {H : Heap} {locs : List Loc} {ls : Array Slot} (C : gC p s m #[.ref b] meth c code 9 RL D (lT cI cL) t A) (hl0 : l.stackTraces = false) (hX : va_X b L xs s s.heap) (hbl : b < s.heap.size) (hbA : ¬ A b) (hi : i + 4 ≤ L) (hL : L ≤ 2048) (X : lS D A s cI cL o ad u o2 v q f H locs) (T : lTie u v) (hl : lv_has ls 9 [(0, .ref b), (1, .ref o), (2, .ref o2), (3, .ref q), (4, .int (nI i))]) (hk9 : kC + 20 ≤ 601024) (hn9 : nC + 200 ≤ 7293034) (kk : ∀ (u : S0) (v : S1) (f : Nat → Int64) (H : Heap) (locs : List Loc) (ls : Array Slot), lS D A s cI cL o ad u o2 v q f H locs → lTie u v → lv_has ls 9 [(0, .ref b), (1, .ref o), (2, .ref o2), (3, .ref q), (4, .int (nI i))] → W p l e room_1 s m #[.ref b] below meth c H locs (kC + 20) (nC + 200) Q (F0 m 751 ls [])) : W p l e room_1 s m #[.ref b] below meth c H locs kC nC Q (F0 m 697 ls []) := by
  have hx := C.1
  have hb := C.2.1
  have hown := C.2.2.2.1
  have hts := C.2.2.2.2.1
  obtain ⟨ehv, hv8, e7, er, hp4⟩ := id T
  have hu8 : u.2.1 ≤ 8 := by omega
  refine lv_aload_n hx hb dL_law_697 rfl (lv_at hl 1 rfl) ?_
  refine g_lawXie (n := 0) (As := []) C X (mX0_lacks l D t cI o ad H.size u hu8) (rw_V q381 q382 q383 q2 q384) kd_X0_lacks rfl ⟨Nat.le_of_ble_eq_true rfl, Nat.le_of_ble_eq_true rfl⟩ hl.1 rfl rfl (Nat.le_of_ble_eq_true rfl) dL_law_698 ⟨(show kC + 0 ≤ 601024 by omega), (show nC + 0 ≤ 7293034 by omega)⟩ (fun H locs X => ?_)
  refine lv_topi (fun b1 eb1 => ?_)
  refine lv_pop hx hb dL_law_701 rfl ?_
  refine lv_aload_n hx hb dL_law_702 rfl (lv_at hl 2 rfl) ?_
  refine g_lawRi (P := (fun _ v' => rb_E v v')) (n := 0) (As := []) C X (wX1_lacks l D t cI o2 H.size v hv8 hp4) (fun r w' h => h) (rw_V q385 q386 q387 q5 q388) kd_X1_lacks rfl ⟨Nat.le_of_ble_eq_true rfl, Nat.le_of_ble_eq_true rfl⟩ hl.1 rfl rfl (Nat.le_of_ble_eq_true rfl) dL_law_703 ⟨(show kC + 0 + 10 ≤ 601024 by omega), (show nC + 0 + 115 ≤ 7293034 by omega)⟩ (fun b2 v9 H locs hp X => ?_)
  skip
  refine lv_pop hx hb dL_law_706 rfl ?_
  refine lv_goto (tgt := 751) hx hb dL_law_707 (by decide) ?_
  refine W.widen (k := kC + 20) (n := nC + 200) ((by omega)) ((by omega)) ?_
  exact kk _ _ _ _ _ _ X (T.E ((rf_cpE (by decide) 3).tr (rf_lkE _)) hp) (lv_sub hl [0, 1, 2, 3, 4] rfl)
set_option maxHeartbeats 4000000 in
set_option maxRecDepth 100000 in
theorem law_g16 {p : Program} {l : Launch} {e : Env} {s : State} {m : MethodId} {below : List Frame} {meth : Method} {c : Code} {Q : State → Prop} {D : va_G} {t : Nat → Nat} {A : Nat → Prop} {cI cL : ClassId} {o o2 q b L kC nC i : Nat} {ad : Nat → Nat} {xs : Nat → Int32} {u : S0} {v : S1} {f : Nat → Int64} {H : Heap} {locs : List Loc} {ls : Array Slot} (C : gC p s m #[.ref b] meth c code 9 RL D (lT cI cL) t A) (hl0 : l.stackTraces = false) (hX : va_X b L xs s s.heap) (hbl : b < s.heap.size) (hbA : ¬ A b) (hi : i + 4 ≤ L) (hL : L ≤ 2048) (X : lS D A s cI cL o ad u o2 v q f H locs) (T : lTie u v) (hl : lv_has ls 9 [(0, .ref b), (1, .ref o), (2, .ref o2), (3, .ref q), (4, .int (nI i))]) (hk9 : kC + 20 ≤ 601024) (hn9 : nC + 200 ≤ 7293034) (kk : ∀ (u : S0) (v : S1) (f : Nat → Int64) (H : Heap) (locs : List Loc) (ls : Array Slot), lS D A s cI cL o ad u o2 v q f H locs → lTie u v → lv_has ls 9 [(0, .ref b), (1, .ref o), (2, .ref o2), (3, .ref q), (4, .int (nI i))] → W p l e room_1 s m #[.ref b] below meth c H locs (kC + 20) (nC + 200) Q (F0 m 751 ls [])) : W p l e room_1 s m #[.ref b] below meth c H locs kC nC Q (F0 m 710 ls []) := by
  have hx := C.1
  have hb := C.2.1
  have hown := C.2.2.2.1
  have hts := C.2.2.2.2.1
  obtain ⟨ehv, hv8, e7, er, hp4⟩ := id T
  have hu8 : u.2.1 ≤ 8 := by omega
  refine lv_aload_n hx hb dL_law_710 rfl (lv_at hl 1 rfl) ?_
  refine g_lawXie (n := 0) (As := []) C X (mX0_advise l D t cI o ad H.size u hu8) (rw_V q389 q390 q391 q2 q392) kd_X0_advise rfl ⟨Nat.le_of_ble_eq_true rfl, Nat.le_of_ble_eq_true rfl⟩ hl.1 rfl rfl (Nat.le_of_ble_eq_true rfl) dL_law_711 ⟨(show kC + 0 ≤ 601024 by omega), (show nC + 0 ≤ 7293034 by omega)⟩ (fun H locs X => ?_)
  refine lv_topi (fun b1 eb1 => ?_)
  refine lv_pop hx hb dL_law_714 rfl ?_
  refine lv_aload_n hx hb dL_law_715 rfl (lv_at hl 2 rfl) ?_
  refine g_lawRi (P := (fun _ v' => rb_E v v')) (n := 0) (As := []) C X (wX1_advise l D t cI o2 H.size v hv8) (fun r w' h => h) (rw_V q396 q397 q398 q5 q399) kd_X1_advise rfl ⟨Nat.le_of_ble_eq_true rfl, Nat.le_of_ble_eq_true rfl⟩ hl.1 rfl rfl (Nat.le_of_ble_eq_true rfl) dL_law_716 ⟨(show kC + 0 + 0 ≤ 601024 by omega), (show nC + 0 + 0 ≤ 7293034 by omega)⟩ (fun b2 v9 H locs hp X => ?_)
  skip
  refine lv_pop hx hb dL_law_719 rfl ?_
  refine lv_goto (tgt := 751) hx hb dL_law_720 (by decide) ?_
  refine W.widen (k := kC + 20) (n := nC + 200) ((by omega)) ((by omega)) ?_
  exact kk _ _ _ _ _ _ X (T.E ra_E0 hp) (lv_sub hl [0, 1, 2, 3, 4] rfl)
set_option maxHeartbeats 4000000 in
set_option maxRecDepth 100000 in
theorem law_g18 {p : Program} {l : Launch} {e : Env} {s : State} {m : MethodId} {below : List Frame} {meth : Method} {c : Code} {Q : State → Prop} {D : va_G} {t : Nat → Nat} {A : Nat → Prop} {cI cL : ClassId} {o o2 q b L kC nC i : Nat} {ad : Nat → Nat} {xs : Nat → Int32} {u : S0} {v : S1} {f : Nat → Int64} {H : Heap} {locs : List Loc} {ls : Array Slot} (C : gC p s m #[.ref b] meth c code 9 RL D (lT cI cL) t A) (hl0 : l.stackTraces = false) (hX : va_X b L xs s s.heap) (hbl : b < s.heap.size) (hbA : ¬ A b) (hi : i + 4 ≤ L) (hL : L ≤ 2048) (X : lS D A s cI cL o ad u o2 v q f H locs) (T : lTie u v) (hl : lv_has ls 9 [(0, .ref b), (1, .ref o), (2, .ref o2), (3, .ref q), (4, .int (nI i))]) (hk9 : kC + 20 ≤ 601024) (hn9 : nC + 200 ≤ 7293034) (kk : ∀ (u : S0) (v : S1) (f : Nat → Int64) (H : Heap) (locs : List Loc) (ls : Array Slot), lS D A s cI cL o ad u o2 v q f H locs → lTie u v → lv_has ls 9 [(0, .ref b), (1, .ref o), (2, .ref o2), (3, .ref q), (4, .int (nI i))] → W p l e room_1 s m #[.ref b] below meth c H locs (kC + 20) (nC + 200) Q (F0 m 751 ls [])) : W p l e room_1 s m #[.ref b] below meth c H locs kC nC Q (F0 m 738 ls []) := by
  have hx := C.1
  have hb := C.2.1
  have hown := C.2.2.2.1
  have hts := C.2.2.2.2.1
  obtain ⟨ehv, hv8, e7, er, hp4⟩ := id T
  have hu8 : u.2.1 ≤ 8 := by omega
  refine lv_aload_n hx hb dL_law_738 rfl (lv_at hl 1 rfl) ?_
  refine g_lawXle (n := 0) (As := []) C X (mX0_digest l D t cI o ad H.size u hu8) (rw_V q411 q412 q413 q2 q414) kd_X0_digest rfl ⟨Nat.le_of_ble_eq_true rfl, Nat.le_of_ble_eq_true rfl⟩ hl.1 rfl rfl (Nat.le_of_ble_eq_true rfl) dL_law_739 ⟨(show kC + 0 ≤ 601024 by omega), (show nC + 0 ≤ 7293034 by omega)⟩ (fun H locs X => ?_)
  refine lv_topl (fun b1 eb1 => ?_)
  refine lv_pop2_2 hx hb dL_law_742 rfl ?_
  refine lv_aload_n hx hb dL_law_743 rfl (lv_at hl 2 rfl) ?_
  refine g_lawRl (P := (fun _ v' => rb_E v v')) (n := 0) (As := []) C X (wX1_digest l D t cI o2 H.size v hv8 hp4) (fun r w' h => h) (rw_V q421 q422 q423 q5 q424) kd_X1_digest rfl ⟨Nat.le_of_ble_eq_true rfl, Nat.le_of_ble_eq_true rfl⟩ hl.1 rfl rfl (Nat.le_of_ble_eq_true rfl) dL_law_744 ⟨(show kC + 0 + 10 ≤ 601024 by omega), (show nC + 0 + 115 ≤ 7293034 by omega)⟩ (fun b2 v9 H locs hp X => ?_)
  skip
  refine lv_pop2_2 hx hb dL_law_747 rfl ?_
  refine lv_goto (tgt := 751) hx hb dL_law_748 (by decide) ?_
  refine W.widen (k := kC + 20) (n := nC + 200) ((by omega)) ((by omega)) ?_
  exact kk _ _ _ _ _ _ X (T.E (rf_drE _) hp) (lv_sub hl [0, 1, 2, 3, 4] rfl)
