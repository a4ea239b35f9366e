/-- what the reference counts where there are no reapers -/
def rb_cnt (v : S1) (k : Nat) : Int32 := match k with
  | 0 => v.2.2.1
  | 1 => nI v.2.1
  | 2 => 0
  | 3 => 0
  | 4 => 120 * v.1 1 0 + 48 * v.1 1 1 + 4 * v.1 1 2
  | 5 => 0
  | _ => 0
theorem rb_ab (x : Int32) : rf_abs (1 * 0 - 0) ≤ rf_abs (x * 0 - 0) := by
  rw [show x * 0 = 0 from Int32.mul_zero]
  decide
theorem rb_no {x : Int32} {n : Nat} (h : n = 0) : x < 0 ∨ nI n ≤ x := by
  subst h
  by_cases q : x < 0
  · exact Or.inl q
  · exact Or.inr (Int32.not_lt.mp q)
def gMd (l : Launch) (y : MethodName) (ws : List Cond) (rm : Room) (av : List Value) (D : va_G) (ty : List (ClassId × FieldType)) (t : Nat → Nat) (w : va_W) (sz : Nat) (post : UInt64 → va_W → Prop) : Prop := Met l y ws rm (va_Pc av (gP D ty t w sz)) (va_Qd post (fun w' U => gQ D (va_A w sz) w' U) (va_A w sz)) rm.cells rm.slots (va_A w sz)
theorem g_dret {p : Program} {l : Launch} {e : Env} {R : Room} {s : State} {m : MethodId} {args : Array Value} {below : List Frame} {meth : Method} {c : Code} {H : Heap} {locs : List Loc} {cells slots : Nat} {cc : ByteArray} {nL pc : Nat} {ls : Array Slot} {own : String} {D : va_G} {ty : List (ClassId × FieldType)} {t : Nat → Nat} {A : Nat → Prop} {w' : va_W} {post : UInt64 → va_W → Prop} {v : UInt64} (C : gC p s m args meth c cc nL own D ty t A) (hr : meth.sig.returnType = some .double) (hP : va_P D vwCl w' H) (hD : va_D A w') (hS : va_S A s.heap H locs) (hdg : decode cc pc = .ok (.dreturn, 1)) (hpost : post v w') :
    W p l e R s m args below meth c H locs cells slots (MQ below (va_Qd post (fun w' U => gQ D A w' U) A) args s cells slots A) (F0 m pc ls [.double v]) :=
  W.dret C.1 C.2.1 hr (fun t ht hW => ⟨⟨v, w', rfl, hpost, by rw [ht]; exact hP, hD⟩, hS.F ht⟩) hS.2.2 hdg C.2.2.2.2.2.2.2.2
theorem g_cd {p : Program} {l : Launch} {e : Env} {R : Room} {s : State} {m : MethodId} {args : Array Value} {below : List Frame} {meth : Method} {c : Code} {H : Heap} {locs : List Loc} {cells slots : Nat} {Q : State → Prop} {cc : ByteArray} {nL pc : Nat} {ls : Array Slot} {own : String} {D : va_G} {ty : List (ClassId × FieldType)} {t : Nat → Nat} {A : Nat → Prop} {wr wc : va_W} {rest st0 : List Value} {mc ms : Nat} {a : Array Value} {post : UInt64 → va_W → Prop} {cells' slots' : Nat} (hc : cells + mc = cells') (hs : slots + ms = slots') (C : gC p s m args meth c cc nL own D ty t A) (hPr : va_P D vwCl wr H) (hD : va_D A (wr ++ wc)) (hS : va_S A s.heap H locs) (hr : va_Run p l e R s m args below meth c H locs cells slots mc ms (F0 m pc ls st0) rest (va_Qd post (fun w' U => gQ D (va_A wc H.size) w' U) (va_A wc H.size) a) (va_A wc H.size))
    (kk : ∀ (r : UInt64) (w' : va_W) (H1 : Heap) (locs1 : List Loc), post r w' → H.size ≤ H1.size → va_P D vwCl wr H1 → va_P D vwCl w' H1 → va_D A (wr ++ w') → va_S A s.heap H1 locs1 → W p l e R s m args below meth c H1 locs1 cells' slots' Q (F0 m (pc + 3) ls (.double r :: rest))) : W p l e R s m args below meth c H locs cells slots Q (F0 m pc ls st0) := by
  subst hc
  subst hs
  have hF := rd_AA (rd_right hD) C.2.2.2.2.2.2.1 hS.1
  refine va_calld hr hS (fun q _ h => hF q h) hF (fun r w' t H1 locs1 ht _ hp hB hz hk hS1 => ?_)
  obtain ⟨b1, b2⟩ := hB
  rw [ht] at b1
  obtain ⟨c1, c2⟩ := rd_frame hPr hD hF hk b2
  exact kk r w' H1 locs1 hp hz c1 b1 c2 hS1
set_option maxHeartbeats 4000000 in
set_option maxRecDepth 100000 in
theorem zX1_all (l : Launch) (D : va_G) (t : Nat → Nat) (cI : ClassId) (o : Nat) (sz : Nat) (v : S1) (hn : v.2.1 = 0) : gMi l yX1_all (rw_ yX1_all cX1_all 3 (some .int)) (rm_ 0 0 0 0) [.ref o] D [(cI, .int)] t (rb_w cI o v) sz (fun r9 w' => r9 = 0 ∧ w' = rb_w cI o v) := by
  refine g_of (cc := cX1_all) (nL := 3) (rt := (some .int)) (Q := fun A => va_Qi _ (fun w' U => gQ D A w' U) A) (by decide) (Nat.le_of_ble_eq_true rfl) (fun p e s m args below meth c A ls H C hrt hnm hS hP hD hl => ?_)
  have hx := C.1
  have hb := C.2.1
  have hown := C.2.2.2.1
  have hts := C.2.2.2.2.1
  have hl : lv_has ls 3 [(0, .ref o)] := hl
  refine lv_iconst (v := 0) hx hb dX1_all_0 (by decide) ?_
  refine lv_istore_n (lv' := [(1, .int 0), (0, .ref o)]) hx hb dX1_all_1 rfl hl (by decide) rfl (fun ls hl => ?_)
  refine lv_iconst (v := 0) hx hb dX1_all_2 (by decide) ?_
  refine lv_istore_n (lv' := [(2, .int 0), (1, .int 0), (0, .ref o)]) hx hb dX1_all_3 rfl hl (by decide) rfl (fun ls hl => ?_)
  refine lv_iload_n hx hb dX1_all_4 rfl (lv_at hl 0 rfl) ?_
  refine lv_aload_n hx hb dX1_all_5 rfl (lv_at hl 2 rfl) ?_
  refine x1_gf C hP 1 (by decide) (x := .int (nI v.2.1)) rfl rfl q60 dX1_all_6 ?_
  refine lv_icmp_ge (tgt := 26) hx hb dX1_all_9 (by decide) (fun c1 => ?_) (fun c1 => absurd ((nI_leI (a := v.2.1) (b := 0) (by omega) (by omega)).mpr (by omega)) c1)
  refine lv_iload_n hx hb dX1_all_26 rfl (lv_at hl 1 rfl) ?_
  exact g_iret C hrt hP hD hS dX1_all_27 ⟨by skip; rfl, by skip; rfl⟩
set_option maxHeartbeats 4000000 in
set_option maxRecDepth 100000 in
theorem zX1_sum (l : Launch) (D : va_G) (t : Nat → Nat) (cI : ClassId) (o : Nat) (sz : Nat) (v : S1) (hn : v.2.1 = 0) (k : Nat) (hk7 : k < 7) : gMi l yX1_sum (rw_ yX1_sum cX1_sum 4 (some .int)) (rm_ 0 0 0 0) [.ref o, .int (nI k)] D [(cI, .int)] t (rb_w cI o v) sz (fun r9 w' => r9 = 0 ∧ w' = rb_w cI o v) := by
  refine g_of (cc := cX1_sum) (nL := 4) (rt := (some .int)) (Q := fun A => va_Qi _ (fun w' U => gQ D A w' U) A) (by decide) (Nat.le_of_ble_eq_true rfl) (fun p e s m args below meth c A ls H C hrt hnm hS hP hD hl => ?_)
  have hx := C.1
  have hb := C.2.1
  have hown := C.2.2.2.1
  have hts := C.2.2.2.2.1
  have hl : lv_has ls 4 [(0, .ref o), (1, .int (nI k))] := hl
  refine lv_iconst (v := 0) hx hb dX1_sum_0 (by decide) ?_
  refine lv_istore_n (lv' := [(2, .int 0), (0, .ref o), (1, .int (nI k))]) hx hb dX1_sum_1 rfl hl (by decide) rfl (fun ls hl => ?_)
  refine lv_iconst (v := 0) hx hb dX1_sum_2 (by decide) ?_
  refine lv_istore_n (lv' := [(3, .int 0), (2, .int 0), (0, .ref o), (1, .int (nI k))]) hx hb dX1_sum_3 rfl hl (by decide) rfl (fun ls hl => ?_)
  refine lv_iload_n hx hb dX1_sum_4 rfl (lv_at hl 0 rfl) ?_
  refine lv_aload_n hx hb dX1_sum_5 rfl (lv_at hl 2 rfl) ?_
  refine x1_gf C hP 1 (by decide) (x := .int (nI v.2.1)) rfl rfl q60 dX1_sum_6 ?_
  refine lv_icmp_ge (tgt := 27) hx hb dX1_sum_9 (by decide) (fun c1 => ?_) (fun c1 => absurd ((nI_leI (a := v.2.1) (b := 0) (by omega) (by omega)).mpr (by omega)) c1)
  refine lv_iload_n hx hb dX1_sum_27 rfl (lv_at hl 1 rfl) ?_
  exact g_iret C hrt hP hD hS dX1_sum_28 ⟨by skip; rfl, by skip; rfl⟩
set_option maxHeartbeats 4000000 in
set_option maxRecDepth 100000 in
theorem zX1_counted (l : Launch) (D : va_G) (t : Nat → Nat) (cI : ClassId) (o : Nat) (sz : Nat) (v : S1) (hn : v.2.1 = 0) (k : Nat) (hk7 : k < 7) : gMi l yX1_counted (rw_ yX1_counted cX1_counted 2 (some .int)) (rm_ 5 0 0 108) [.ref o, .int (nI k)] D [(cI, .int)] t (rb_w cI o v) sz (fun r9 w' => r9 = rb_cnt v k ∧ w' = rb_w cI o v) := by
  refine g_of (cc := cX1_counted) (nL := 2) (rt := (some .int)) (Q := fun A => va_Qi _ (fun w' U => gQ D A w' U) A) (by decide) (Nat.le_of_ble_eq_true rfl) (fun p e s m args below meth c A ls H C hrt hnm hS hP hD hl => ?_)
  have hx := C.1
  have hb := C.2.1
  have hown := C.2.2.2.1
  have hts := C.2.2.2.2.1
  have hl : lv_has ls 2 [(0, .ref o), (1, .int (nI k))] := hl
  have hk9 : k = 0 ∨ k = 1 ∨ k = 2 ∨ k = 3 ∨ k = 4 ∨ k = 5 ∨ k = 6 := by omega
  rcases hk9 with rfl | rfl | rfl | rfl | rfl | rfl | rfl
  · have hl : lv_has ls 2 [(0, .ref o), (1, .int (nI 0))] := hl
    refine lv_iload_n hx hb dX1_counted_0 rfl (lv_at hl 1 rfl) ?_
    refine lv_tableIn (off := 39) (tgt := 40) hx hb dX1_counted_1 (by decide) (by decide) rfl (by decide) ?_
    refine lv_aload_n hx hb dX1_counted_40 rfl (lv_at hl 0 rfl) ?_
    refine x1_gf C hP 2 (by decide) (x := .int v.2.2.1) rfl rfl q217 dX1_counted_41 ?_
    exact g_iret C hrt hP hD hS dX1_counted_44 ⟨rfl, rfl⟩
  · have hl : lv_has ls 2 [(0, .ref o), (1, .int (nI 1))] := hl
    refine lv_iload_n hx hb dX1_counted_0 rfl (lv_at hl 1 rfl) ?_
    refine lv_tableIn (off := 44) (tgt := 45) hx hb dX1_counted_1 (by decide) (by decide) rfl (by decide) ?_
    refine lv_aload_n hx hb dX1_counted_45 rfl (lv_at hl 0 rfl) ?_
    refine x1_gf C hP 1 (by decide) (x := .int (nI v.2.1)) rfl rfl q60 dX1_counted_46 ?_
    exact g_iret C hrt hP hD hS dX1_counted_49 ⟨rfl, rfl⟩
  · have hl : lv_has ls 2 [(0, .ref o), (1, .int (nI 2))] := hl
    refine lv_iload_n hx hb dX1_counted_0 rfl (lv_at hl 1 rfl) ?_
    refine lv_tableIn (off := 49) (tgt := 50) hx hb dX1_counted_1 (by decide) (by decide) rfl (by decide) ?_
    refine lv_aload_n hx hb dX1_counted_50 rfl (lv_at hl 0 rfl) ?_
    refine lv_iconst (v := 4) hx hb dX1_counted_51 (by decide) ?_
    refine g_ci (wr := []) (cells' := 0) (slots' := 0) rfl rfl C rd_nil hD hS (g_runV (wr := []) (n := 1) C (zX1_sum l D t cI o H.size v hn 4 (by omega)) (rw_V q336 q337 q338 q5 q339) kd_X1_sum ⟨Nat.le_of_ble_eq_true rfl, Nat.le_of_ble_eq_true rfl⟩ (ci := 1) rfl rfl rfl C.2.2.2.2.2.1 hP hD hS hl.1 rfl rfl (Nat.le_of_ble_eq_true rfl) dX1_counted_52 ⟨Nat.le_of_ble_eq_true rfl, Nat.le_of_ble_eq_true rfl⟩) (fun r1 w' H locs hv _ _ hP hD hS => ?_)
    obtain ⟨rfl, rfl⟩ := hv
    have hD : va_D A (rb_w cI o v) := hD
    exact g_iret C hrt hP hD hS dX1_counted_55 ⟨rfl, rfl⟩
  · have hl : lv_has ls 2 [(0, .ref o), (1, .int (nI 3))] := hl
    refine lv_iload_n hx hb dX1_counted_0 rfl (lv_at hl 1 rfl) ?_
    refine lv_tableIn (off := 55) (tgt := 56) hx hb dX1_counted_1 (by decide) (by decide) rfl (by decide) ?_
    refine lv_aload_n hx hb dX1_counted_56 rfl (lv_at hl 0 rfl) ?_
    refine lv_iconst (v := 5) hx hb dX1_counted_57 (by decide) ?_
    refine g_ci (wr := []) (cells' := 0) (slots' := 0) rfl rfl C rd_nil hD hS (g_runV (wr := []) (n := 1) C (zX1_sum l D t cI o H.size v hn 5 (by omega)) (rw_V q336 q337 q338 q5 q339) kd_X1_sum ⟨Nat.le_of_ble_eq_true rfl, Nat.le_of_ble_eq_true rfl⟩ (ci := 1) rfl rfl rfl C.2.2.2.2.2.1 hP hD hS hl.1 rfl rfl (Nat.le_of_ble_eq_true rfl) dX1_counted_58 ⟨Nat.le_of_ble_eq_true rfl, Nat.le_of_ble_eq_true rfl⟩) (fun r1 w' H locs hv _ _ hP hD hS => ?_)
    obtain ⟨rfl, rfl⟩ := hv
    have hD : va_D A (rb_w cI o v) := hD
    exact g_iret C hrt hP hD hS dX1_counted_61 ⟨rfl, rfl⟩
  · have hl : lv_has ls 2 [(0, .ref o), (1, .int (nI 4))] := hl
    refine lv_iload_n hx hb dX1_counted_0 rfl (lv_at hl 1 rfl) ?_
    refine lv_tableIn (off := 61) (tgt := 62) hx hb dX1_counted_1 (by decide) (by decide) rfl (by decide) ?_
    refine lv_bipush (v := 120) hx hb dX1_counted_62 (by decide) ?_
    refine lv_aload_n hx hb dX1_counted_64 rfl (lv_at hl 0 rfl) ?_
    refine x1_gf C hP 4 (by decide) (x := .ref (v.2.2.2.2 1)) rfl rfl q31 dX1_counted_65 ?_
    refine lv_iconst (v := 0) hx hb dX1_counted_68 (by decide) ?_
    refine x1_ld C hP (k := 1) (i := 0) (by decide) (by decide) rfl dX1_counted_69 ?_
    refine lv_imul hx hb dX1_counted_70 ?_
    refine lv_bipush (v := 48) hx hb dX1_counted_71 (by decide) ?_
    refine lv_aload_n hx hb dX1_counted_73 rfl (lv_at hl 0 rfl) ?_
    refine x1_gf C hP 4 (by decide) (x := .ref (v.2.2.2.2 1)) rfl rfl q31 dX1_counted_74 ?_
    refine lv_iconst (v := 1) hx hb dX1_counted_77 (by decide) ?_
    refine x1_ld C hP (k := 1) (i := 1) (by decide) (by decide) rfl dX1_counted_78 ?_
    refine lv_imul hx hb dX1_counted_79 ?_
    refine lv_iadd hx hb dX1_counted_80 ?_
    refine lv_iconst (v := 4) hx hb dX1_counted_81 (by decide) ?_
    refine lv_aload_n hx hb dX1_counted_82 rfl (lv_at hl 0 rfl) ?_
    refine x1_gf C hP 4 (by decide) (x := .ref (v.2.2.2.2 1)) rfl rfl q31 dX1_counted_83 ?_
    refine lv_iconst (v := 2) hx hb dX1_counted_86 (by decide) ?_
    refine x1_ld C hP (k := 1) (i := 2) (by decide) (by decide) rfl dX1_counted_87 ?_
    refine lv_imul hx hb dX1_counted_88 ?_
    refine lv_iadd hx hb dX1_counted_89 ?_
    exact g_iret C hrt hP hD hS dX1_counted_90 ⟨rfl, rfl⟩
  · have hl : lv_has ls 2 [(0, .ref o), (1, .int (nI 5))] := hl
    refine lv_iload_n hx hb dX1_counted_0 rfl (lv_at hl 1 rfl) ?_
    refine lv_tableIn (off := 90) (tgt := 91) hx hb dX1_counted_1 (by decide) (by decide) rfl (by decide) ?_
    refine lv_aload_n hx hb dX1_counted_91 rfl (lv_at hl 0 rfl) ?_
    refine g_ci (wr := []) (cells' := 0) (slots' := 0) rfl rfl C rd_nil hD hS (g_runV (wr := []) (n := 0) C (zX1_all l D t cI o H.size v hn) (rw_V q340 q341 q342 q5 q343) kd_X1_all ⟨Nat.le_of_ble_eq_true rfl, Nat.le_of_ble_eq_true rfl⟩ (ci := 1) rfl rfl rfl C.2.2.2.2.2.1 hP hD hS hl.1 rfl rfl (Nat.le_of_ble_eq_true rfl) dX1_counted_92 ⟨Nat.le_of_ble_eq_true rfl, Nat.le_of_ble_eq_true rfl⟩) (fun r1 w' H locs hv _ _ hP hD hS => ?_)
    obtain ⟨rfl, rfl⟩ := hv
    have hD : va_D A (rb_w cI o v) := hD
    exact g_iret C hrt hP hD hS dX1_counted_95 ⟨rfl, rfl⟩
  · have hl : lv_has ls 2 [(0, .ref o), (1, .int (nI 6))] := hl
    refine lv_iload_n hx hb dX1_counted_0 rfl (lv_at hl 1 rfl) ?_
    refine lv_tableOut (tgt := 96) hx hb dX1_counted_1 (by decide) (by decide) ?_
    refine lv_aload_n hx hb dX1_counted_96 rfl (lv_at hl 0 rfl) ?_
    refine lv_bipush (v := 6) hx hb dX1_counted_97 (by decide) ?_
    refine g_ci (wr := []) (cells' := 0) (slots' := 0) rfl rfl C rd_nil hD hS (g_runV (wr := []) (n := 1) C (zX1_sum l D t cI o H.size v hn 6 (by omega)) (rw_V q336 q337 q338 q5 q339) kd_X1_sum ⟨Nat.le_of_ble_eq_true rfl, Nat.le_of_ble_eq_true rfl⟩ (ci := 1) rfl rfl rfl C.2.2.2.2.2.1 hP hD hS hl.1 rfl rfl (Nat.le_of_ble_eq_true rfl) dX1_counted_99 ⟨Nat.le_of_ble_eq_true rfl, Nat.le_of_ble_eq_true rfl⟩) (fun r1 w' H locs hv _ _ hP hD hS => ?_)
    obtain ⟨rfl, rfl⟩ := hv
    have hD : va_D A (rb_w cI o v) := hD
    exact g_iret C hrt hP hD hS dX1_counted_102 ⟨rfl, rfl⟩
theorem kd_X1_count : yX1_count.cls = yX1_count.cls ∧ yX1_count.cls ≠ "java/lang/invoke/MethodHandle" ∧ yX1_count.cls ≠ "java/lang/invoke/VarHandle" ∧ (parseMethodDescriptor yX1_count.desc).map (fun d => d.parameters.length) = some 1 := by decide +kernel
set_option maxHeartbeats 4000000 in
set_option maxRecDepth 100000 in
theorem zX1_count (l : Launch) (D : va_G) (t : Nat → Nat) (cI : ClassId) (o : Nat) (sz : Nat) (v : S1) (hn : v.2.1 = 0) (k : Nat) (hk7 : k < 7) : gMi l yX1_count (rw_ yX1_count cX1_count 2 (some .int)) (rm_ 6 0 0 129) [.ref o, .int (nI k)] D [(cI, .int)] t (rb_w cI o v) sz (fun r9 w' => r9 = rb_cnt v k ∧ w' = rb_w cI o (rb_t v 0)) := by
  refine g_of (cc := cX1_count) (nL := 2) (rt := (some .int)) (Q := fun A => va_Qi _ (fun w' U => gQ D A w' U) A) (by decide) (Nat.le_of_ble_eq_true rfl) (fun p e s m args below meth c A ls H C hrt hnm hS hP hD hl => ?_)
  have hx := C.1
  have hb := C.2.1
  have hown := C.2.2.2.1
  have hts := C.2.2.2.2.1
  have hl : lv_has ls 2 [(0, .ref o), (1, .int (nI k))] := hl
  refine lv_aload_n hx hb dX1_count_0 rfl (lv_at hl 0 rfl) ?_
  refine lv_iconst (v := 0) hx hb dX1_count_1 (by decide) ?_
  refine x1_pt C hP hD hS q59 dX1_count_2 (fun H locs hP hD hS => ?_)
  have hP : va_P D vwCl (rb_w cI o (rb_t v 0)) H := hP
  have hD : va_D A (rb_w cI o (rb_t v 0)) := hD
  refine lv_iload_n hx hb dX1_count_5 rfl (lv_at hl 1 rfl) ?_
  refine lv_iconst (v := 0) hx hb dX1_count_6 (by decide) ?_
  refine lv_bipush (v := 6) hx hb dX1_count_7 (by decide) ?_
  refine g_ci (wr := []) (cells' := 0) (slots' := 0) rfl rfl C rd_nil hD hS (g_runS (wr := []) (n := 3) (As := [.int (nI k), .int 0, .int 6]) C (mX1_isIn l D t [(cI, .int)] (rb_w cI o (rb_t v 0)) H.size (nI k) 0 6) (rw_S q61 q62 q5 q63) kd_X1_isIn ⟨Nat.le_of_ble_eq_true rfl, Nat.le_of_ble_eq_true rfl⟩ C.2.2.2.2.2.1 hP hD hS hl.1 rfl rfl (Nat.le_of_ble_eq_true rfl) dX1_count_9 ⟨Nat.le_of_ble_eq_true rfl, Nat.le_of_ble_eq_true rfl⟩) (fun r1 w' H locs hv _ _ hP hD hS => ?_)
  obtain ⟨rfl, rfl⟩ := hv
  have hD : va_D A (rb_w cI o (rb_t v 0)) := hD
  refine g_top (y := 1) (rb_kY (n := 6) (by decide) hk7) ?_
  refine lv_if_eq (tgt := 23) hx hb dX1_count_12 (by decide) (fun c2 => absurd c2 (by decide)) (fun c2 => ?_)
  refine lv_aload_n hx hb dX1_count_15 rfl (lv_at hl 0 rfl) ?_
  refine lv_iload_n hx hb dX1_count_16 rfl (lv_at hl 1 rfl) ?_
  refine g_ci (wr := []) (cells' := 0) (slots' := 0) rfl rfl C rd_nil hD hS (g_runV (wr := []) (n := 1) C (zX1_counted l D t cI o H.size (rb_t v 0) hn k (by omega)) (rw_V q332 q333 q334 q5 q335) kd_X1_counted ⟨Nat.le_of_ble_eq_true rfl, Nat.le_of_ble_eq_true rfl⟩ (ci := 1) rfl rfl rfl C.2.2.2.2.2.1 hP hD hS hl.1 rfl rfl (Nat.le_of_ble_eq_true rfl) dX1_count_17 ⟨Nat.le_of_ble_eq_true rfl, Nat.le_of_ble_eq_true rfl⟩) (fun r3 w' H locs hv _ _ hP hD hS => ?_)
  obtain ⟨rfl, rfl⟩ := hv
  have hD : va_D A (rb_w cI o (rb_t v 0)) := hD
  refine lv_goto (tgt := 28) hx hb dX1_count_20 (by decide) ?_
  exact g_iret C hrt hP hD hS dX1_count_28 ⟨by skip; rfl, by skip; rfl⟩
set_option maxHeartbeats 4000000 in
set_option maxRecDepth 100000 in
theorem bX1_count1 (l : Launch) (D : va_G) (t : Nat → Nat) (cI : ClassId) (o : Nat) (sz : Nat) (v : S1) (x0 : Int32) (h : x0 < 0 ∨ 7 ≤ x0) : gMi l yX1_count (rw_ yX1_count cX1_count 2 (some .int)) (rm_ 1 0 0 22) [.ref o, .int x0] D [(cI, .int)] t (rb_w cI o v) sz (fun r9 w' => r9 = 0 ∧ w' = rb_w cI o (rb_t (rb_t v 0) 1)) := by
  refine g_of (cc := cX1_count) (nL := 2) (rt := (some .int)) (Q := fun A => va_Qi _ (fun w' U => gQ D A w' U) A) (by decide) (Nat.le_of_ble_eq_true rfl) (fun p e s m args below meth c A ls H C hrt hnm hS hP hD hl => ?_)
  have hx := C.1
  have hb := C.2.1
  have hown := C.2.2.2.1
  have hts := C.2.2.2.2.1
  have hl : lv_has ls 2 [(0, .ref o), (1, .int x0)] := hl
  refine lv_aload_n hx hb dX1_count_0 rfl (lv_at hl 0 rfl) ?_
  refine lv_iconst (v := 0) hx hb dX1_count_1 (by decide) ?_
  refine x1_pt C hP hD hS q59 dX1_count_2 (fun H locs hP hD hS => ?_)
  have hP : va_P D vwCl (rb_w cI o (rb_t v 0)) H := hP
  have hD : va_D A (rb_w cI o (rb_t v 0)) := hD
  refine lv_iload_n hx hb dX1_count_5 rfl (lv_at hl 1 rfl) ?_
  refine lv_iconst (v := 0) hx hb dX1_count_6 (by decide) ?_
  refine lv_bipush (v := 6) hx hb dX1_count_7 (by decide) ?_
  refine g_ci (wr := []) (cells' := 0) (slots' := 0) rfl rfl C rd_nil hD hS (g_runS (wr := []) (n := 3) (As := [.int x0, .int 0, .int 6]) C (mX1_isIn l D t [(cI, .int)] (rb_w cI o (rb_t v 0)) H.size x0 0 6) (rw_S q61 q62 q5 q63) kd_X1_isIn ⟨Nat.le_of_ble_eq_true rfl, Nat.le_of_ble_eq_true rfl⟩ C.2.2.2.2.2.1 hP hD hS hl.1 rfl rfl (Nat.le_of_ble_eq_true rfl) dX1_count_9 ⟨Nat.le_of_ble_eq_true rfl, Nat.le_of_ble_eq_true rfl⟩) (fun r1 w' H locs hv _ _ hP hD hS => ?_)
  obtain ⟨rfl, rfl⟩ := hv
  have hD : va_D A (rb_w cI o (rb_t v 0)) := hD
  refine g_top (y := 0) (rb_kN (n := 6) (by decide) h) ?_
  refine lv_if_eq (tgt := 23) hx hb dX1_count_12 (by decide) (fun c2 => ?_) (fun c2 => absurd (by decide) c2)
  refine lv_aload_n hx hb dX1_count_23 rfl (lv_at hl 0 rfl) ?_
  refine lv_iconst (v := 1) hx hb dX1_count_24 (by decide) ?_
  refine g_ci (wr := []) (cells' := 0) (slots' := 0) rfl rfl C rd_nil hD hS (g_runV (wr := []) (n := 1) C (mX1_fail l D t cI o H.size (rb_t v 0) 1) (rw_V q64 q65 q66 q5 q67) kd_X1_fail ⟨Nat.le_of_ble_eq_true rfl, Nat.le_of_ble_eq_true rfl⟩ (ci := 1) rfl rfl rfl C.2.2.2.2.2.1 hP hD hS hl.1 rfl rfl (Nat.le_of_ble_eq_true rfl) dX1_count_25 ⟨Nat.le_of_ble_eq_true rfl, Nat.le_of_ble_eq_true rfl⟩) (fun r3 w' H locs hv _ _ hP hD hS => ?_)
  obtain ⟨rfl, rfl⟩ := hv
  have hD : va_D A (rb_w cI o (rb_t (rb_t v 0) 1)) := hD
  have hP : va_P D vwCl (rb_w cI o (rb_t (rb_t v 0) 1)) H := hP
  have hD : va_D A (rb_w cI o (rb_t (rb_t v 0) 1)) := hD
  exact g_iret C hrt hP hD hS dX1_count_28 ⟨by skip; rfl, by skip; rfl⟩
theorem kd_X1_told : yX1_told.cls = yX1_told.cls ∧ yX1_told.cls ≠ "java/lang/invoke/MethodHandle" ∧ yX1_told.cls ≠ "java/lang/invoke/VarHandle" ∧ (parseMethodDescriptor yX1_told.desc).map (fun d => d.parameters.length) = some 2 := by decide +kernel
set_option maxHeartbeats 4000000 in
set_option maxRecDepth 100000 in
theorem zX1_told (l : Launch) (D : va_G) (t : Nat → Nat) (cI : ClassId) (o : Nat) (sz : Nat) (v : S1) (hn : v.2.1 = 0) (x0 x1 : Int32) : gMi l yX1_told (rw_ yX1_told cX1_told 3 (some .int)) (rm_ 2 0 0 43) [.ref o, .int x0, .int x1] D [(cI, .int)] t (rb_w cI o v) sz (fun r9 w' => r9 = 0 ∧ w' = rb_w cI o (rb_t (rb_t v 0) 1)) := by
  refine g_of (cc := cX1_told) (nL := 3) (rt := (some .int)) (Q := fun A => va_Qi _ (fun w' U => gQ D A w' U) A) (by decide) (Nat.le_of_ble_eq_true rfl) (fun p e s m args below meth c A ls H C hrt hnm hS hP hD hl => ?_)
  have hx := C.1
  have hb := C.2.1
  have hown := C.2.2.2.1
  have hts := C.2.2.2.2.1
  have hl : lv_has ls 3 [(0, .ref o), (1, .int x0), (2, .int x1)] := hl
  refine lv_aload_n hx hb dX1_told_0 rfl (lv_at hl 0 rfl) ?_
  refine lv_iconst (v := 0) hx hb dX1_told_1 (by decide) ?_
  refine x1_pt C hP hD hS q59 dX1_told_2 (fun H locs hP hD hS => ?_)
  have hP : va_P D vwCl (rb_w cI o (rb_t v 0)) H := hP
  have hD : va_D A (rb_w cI o (rb_t v 0)) := hD
  refine lv_aload_n hx hb dX1_told_5 rfl (lv_at hl 0 rfl) ?_
  refine lv_iload_n hx hb dX1_told_6 rfl (lv_at hl 1 rfl) ?_
  refine g_ci (wr := []) (cells' := 0) (slots' := 0) rfl rfl C rd_nil hD hS (g_runV (wr := []) (n := 1) C (mX1_isReaper l D t cI o H.size (rb_t v 0) x0) (rw_V q124 q125 q126 q5 q127) kd_X1_isReaper ⟨Nat.le_of_ble_eq_true rfl, Nat.le_of_ble_eq_true rfl⟩ (ci := 1) rfl rfl rfl C.2.2.2.2.2.1 hP hD hS hl.1 rfl rfl (Nat.le_of_ble_eq_true rfl) dX1_told_7 ⟨Nat.le_of_ble_eq_true rfl, Nat.le_of_ble_eq_true rfl⟩) (fun r1 w' H locs hv _ _ hP hD hS => ?_)
  obtain ⟨rfl, rfl⟩ := hv
  have hD : va_D A (rb_w cI o (rb_t v 0)) := hD
  refine g_top (y := 0) (rb_reN (n := v.2.1) (show v.2.1 ≤ 8 by omega) (rb_no hn)) ?_
  refine lv_if_eq (tgt := 32) hx hb dX1_told_10 (by decide) (fun c2 => ?_) (fun c2 => absurd (by decide) c2)
  refine lv_aload_n hx hb dX1_told_32 rfl (lv_at hl 0 rfl) ?_
  refine lv_iconst (v := 1) hx hb dX1_told_33 (by decide) ?_
  refine g_ci (wr := []) (cells' := 0) (slots' := 0) rfl rfl C rd_nil hD hS (g_runV (wr := []) (n := 1) C (mX1_fail l D t cI o H.size (rb_t v 0) 1) (rw_V q64 q65 q66 q5 q67) kd_X1_fail ⟨Nat.le_of_ble_eq_true rfl, Nat.le_of_ble_eq_true rfl⟩ (ci := 1) rfl rfl rfl C.2.2.2.2.2.1 hP hD hS hl.1 rfl rfl (Nat.le_of_ble_eq_true rfl) dX1_told_34 ⟨Nat.le_of_ble_eq_true rfl, Nat.le_of_ble_eq_true rfl⟩) (fun r3 w' H locs hv _ _ hP hD hS => ?_)
  obtain ⟨rfl, rfl⟩ := hv
  have hD : va_D A (rb_w cI o (rb_t (rb_t v 0) 1)) := hD
  have hP : va_P D vwCl (rb_w cI o (rb_t (rb_t v 0) 1)) H := hP
  have hD : va_D A (rb_w cI o (rb_t (rb_t v 0) 1)) := hD
  exact g_iret C hrt hP hD hS dX1_told_37 ⟨by skip; rfl, by skip; rfl⟩
theorem kd_X1_wage : yX1_wage.cls = yX1_wage.cls ∧ yX1_wage.cls ≠ "java/lang/invoke/MethodHandle" ∧ yX1_wage.cls ≠ "java/lang/invoke/VarHandle" ∧ (parseMethodDescriptor yX1_wage.desc).map (fun d => d.parameters.length) = some 2 := by decide +kernel
set_option maxHeartbeats 4000000 in
set_option maxRecDepth 100000 in
theorem zX1_wage (l : Launch) (D : va_G) (t : Nat → Nat) (cI : ClassId) (o : Nat) (sz : Nat) (v : S1) (hn : v.2.1 = 0) (x0 x1 : Int32) : gMi l yX1_wage (rw_ yX1_wage cX1_wage 3 (some .int)) (rm_ 2 0 0 43) [.ref o, .int x0, .int x1] D [(cI, .int)] t (rb_w cI o v) sz (fun r9 w' => r9 = 0 ∧ w' = rb_w cI o (rb_t (rb_t v 0) 1)) := by
  refine g_of (cc := cX1_wage) (nL := 3) (rt := (some .int)) (Q := fun A => va_Qi _ (fun w' U => gQ D A w' U) A) (by decide) (Nat.le_of_ble_eq_true rfl) (fun p e s m args below meth c A ls H C hrt hnm hS hP hD hl => ?_)
  have hx := C.1
  have hb := C.2.1
  have hown := C.2.2.2.1
  have hts := C.2.2.2.2.1
  have hl : lv_has ls 3 [(0, .ref o), (1, .int x0), (2, .int x1)] := hl
  refine lv_aload_n hx hb dX1_wage_0 rfl (lv_at hl 0 rfl) ?_
  refine lv_iconst (v := 0) hx hb dX1_wage_1 (by decide) ?_
  refine x1_pt C hP hD hS q59 dX1_wage_2 (fun H locs hP hD hS => ?_)
  have hP : va_P D vwCl (rb_w cI o (rb_t v 0)) H := hP
  have hD : va_D A (rb_w cI o (rb_t v 0)) := hD
  refine lv_aload_n hx hb dX1_wage_5 rfl (lv_at hl 0 rfl) ?_
  refine lv_iload_n hx hb dX1_wage_6 rfl (lv_at hl 1 rfl) ?_
  refine g_ci (wr := []) (cells' := 0) (slots' := 0) rfl rfl C rd_nil hD hS (g_runV (wr := []) (n := 1) C (mX1_isReaper l D t cI o H.size (rb_t v 0) x0) (rw_V q124 q125 q126 q5 q127) kd_X1_isReaper ⟨Nat.le_of_ble_eq_true rfl, Nat.le_of_ble_eq_true rfl⟩ (ci := 1) rfl rfl rfl C.2.2.2.2.2.1 hP hD hS hl.1 rfl rfl (Nat.le_of_ble_eq_true rfl) dX1_wage_7 ⟨Nat.le_of_ble_eq_true rfl, Nat.le_of_ble_eq_true rfl⟩) (fun r1 w' H locs hv _ _ hP hD hS => ?_)
  obtain ⟨rfl, rfl⟩ := hv
  have hD : va_D A (rb_w cI o (rb_t v 0)) := hD
  refine g_top (y := 0) (rb_reN (n := v.2.1) (show v.2.1 ≤ 8 by omega) (rb_no hn)) ?_
  refine lv_if_eq (tgt := 31) hx hb dX1_wage_10 (by decide) (fun c2 => ?_) (fun c2 => absurd (by decide) c2)
  refine lv_aload_n hx hb dX1_wage_31 rfl (lv_at hl 0 rfl) ?_
  refine lv_iconst (v := 1) hx hb dX1_wage_32 (by decide) ?_
  refine g_ci (wr := []) (cells' := 0) (slots' := 0) rfl rfl C rd_nil hD hS (g_runV (wr := []) (n := 1) C (mX1_fail l D t cI o H.size (rb_t v 0) 1) (rw_V q64 q65 q66 q5 q67) kd_X1_fail ⟨Nat.le_of_ble_eq_true rfl, Nat.le_of_ble_eq_true rfl⟩ (ci := 1) rfl rfl rfl C.2.2.2.2.2.1 hP hD hS hl.1 rfl rfl (Nat.le_of_ble_eq_true rfl) dX1_wage_33 ⟨Nat.le_of_ble_eq_true rfl, Nat.le_of_ble_eq_true rfl⟩) (fun r3 w' H locs hv _ _ hP hD hS => ?_)
  obtain ⟨rfl, rfl⟩ := hv
  have hD : va_D A (rb_w cI o (rb_t (rb_t v 0) 1)) := hD
  have hP : va_P D vwCl (rb_w cI o (rb_t (rb_t v 0) 1)) H := hP
  have hD : va_D A (rb_w cI o (rb_t (rb_t v 0) 1)) := hD
  exact g_iret C hrt hP hD hS dX1_wage_36 ⟨by skip; rfl, by skip; rfl⟩
theorem kd_X1_coins : yX1_coins.cls = yX1_coins.cls ∧ yX1_coins.cls ≠ "java/lang/invoke/MethodHandle" ∧ yX1_coins.cls ≠ "java/lang/invoke/VarHandle" ∧ (parseMethodDescriptor yX1_coins.desc).map (fun d => d.parameters.length) = some 2 := by decide +kernel
set_option maxHeartbeats 4000000 in
set_option maxRecDepth 100000 in
theorem zX1_coins (l : Launch) (D : va_G) (t : Nat → Nat) (cI : ClassId) (o : Nat) (sz : Nat) (v : S1) (hn : v.2.1 = 0) (x0 x1 : Int32) : gMi l yX1_coins (rw_ yX1_coins cX1_coins 3 (some .int)) (rm_ 2 0 0 43) [.ref o, .int x0, .int x1] D [(cI, .int)] t (rb_w cI o v) sz (fun r9 w' => r9 = 0 ∧ w' = rb_w cI o (rb_t (rb_t v 0) 1)) := by
  refine g_of (cc := cX1_coins) (nL := 3) (rt := (some .int)) (Q := fun A => va_Qi _ (fun w' U => gQ D A w' U) A) (by decide) (Nat.le_of_ble_eq_true rfl) (fun p e s m args below meth c A ls H C hrt hnm hS hP hD hl => ?_)
  have hx := C.1
  have hb := C.2.1
  have hown := C.2.2.2.1
  have hts := C.2.2.2.2.1
  have hl : lv_has ls 3 [(0, .ref o), (1, .int x0), (2, .int x1)] := hl
  refine lv_aload_n hx hb dX1_coins_0 rfl (lv_at hl 0 rfl) ?_
  refine lv_iconst (v := 0) hx hb dX1_coins_1 (by decide) ?_
  refine x1_pt C hP hD hS q59 dX1_coins_2 (fun H locs hP hD hS => ?_)
  have hP : va_P D vwCl (rb_w cI o (rb_t v 0)) H := hP
  have hD : va_D A (rb_w cI o (rb_t v 0)) := hD
  refine lv_aload_n hx hb dX1_coins_5 rfl (lv_at hl 0 rfl) ?_
  refine lv_iload_n hx hb dX1_coins_6 rfl (lv_at hl 1 rfl) ?_
  refine g_ci (wr := []) (cells' := 0) (slots' := 0) rfl rfl C rd_nil hD hS (g_runV (wr := []) (n := 1) C (mX1_isReaper l D t cI o H.size (rb_t v 0) x0) (rw_V q124 q125 q126 q5 q127) kd_X1_isReaper ⟨Nat.le_of_ble_eq_true rfl, Nat.le_of_ble_eq_true rfl⟩ (ci := 1) rfl rfl rfl C.2.2.2.2.2.1 hP hD hS hl.1 rfl rfl (Nat.le_of_ble_eq_true rfl) dX1_coins_7 ⟨Nat.le_of_ble_eq_true rfl, Nat.le_of_ble_eq_true rfl⟩) (fun r1 w' H locs hv _ _ hP hD hS => ?_)
  obtain ⟨rfl, rfl⟩ := hv
  have hD : va_D A (rb_w cI o (rb_t v 0)) := hD
  refine g_top (y := 0) (rb_reN (n := v.2.1) (show v.2.1 ≤ 8 by omega) (rb_no hn)) ?_
  refine lv_if_eq (tgt := 20) hx hb dX1_coins_10 (by decide) (fun c2 => ?_) (fun c2 => absurd (by decide) c2)
  refine lv_aload_n hx hb dX1_coins_20 rfl (lv_at hl 0 rfl) ?_
  refine lv_iconst (v := 1) hx hb dX1_coins_21 (by decide) ?_
  refine g_ci (wr := []) (cells' := 0) (slots' := 0) rfl rfl C rd_nil hD hS (g_runV (wr := []) (n := 1) C (mX1_fail l D t cI o H.size (rb_t v 0) 1) (rw_V q64 q65 q66 q5 q67) kd_X1_fail ⟨Nat.le_of_ble_eq_true rfl, Nat.le_of_ble_eq_true rfl⟩ (ci := 1) rfl rfl rfl C.2.2.2.2.2.1 hP hD hS hl.1 rfl rfl (Nat.le_of_ble_eq_true rfl) dX1_coins_22 ⟨Nat.le_of_ble_eq_true rfl, Nat.le_of_ble_eq_true rfl⟩) (fun r3 w' H locs hv _ _ hP hD hS => ?_)
  obtain ⟨rfl, rfl⟩ := hv
  have hD : va_D A (rb_w cI o (rb_t (rb_t v 0) 1)) := hD
  have hP : va_P D vwCl (rb_w cI o (rb_t (rb_t v 0) 1)) H := hP
  have hD : va_D A (rb_w cI o (rb_t (rb_t v 0) 1)) := hD
  exact g_iret C hrt hP hD hS dX1_coins_25 ⟨by skip; rfl, by skip; rfl⟩
theorem kd_X1_until : yX1_until.cls = yX1_until.cls ∧ yX1_until.cls ≠ "java/lang/invoke/MethodHandle" ∧ yX1_until.cls ≠ "java/lang/invoke/VarHandle" ∧ (parseMethodDescriptor yX1_until.desc).map (fun d => d.parameters.length) = some 1 := by decide +kernel
set_option maxHeartbeats 4000000 in
set_option maxRecDepth 100000 in
theorem zX1_until (l : Launch) (D : va_G) (t : Nat → Nat) (cI : ClassId) (o : Nat) (sz : Nat) (v : S1) (hn : v.2.1 = 0) (x0 : Int32) : gMi l yX1_until (rw_ yX1_until cX1_until 5 (some .int)) (rm_ 2 0 0 43) [.ref o, .int x0] D [(cI, .int)] t (rb_w cI o v) sz (fun r9 w' => r9 = 0 ∧ w' = rb_w cI o (rb_t (rb_t v 0) 1)) := by
  refine g_of (cc := cX1_until) (nL := 5) (rt := (some .int)) (Q := fun A => va_Qi _ (fun w' U => gQ D A w' U) A) (by decide) (Nat.le_of_ble_eq_true rfl) (fun p e s m args below meth c A ls H C hrt hnm hS hP hD hl => ?_)
  have hx := C.1
  have hb := C.2.1
  have hown := C.2.2.2.1
  have hts := C.2.2.2.2.1
  have hl : lv_has ls 5 [(0, .ref o), (1, .int x0)] := hl
  refine lv_aload_n hx hb dX1_until_0 rfl (lv_at hl 0 rfl) ?_
  refine lv_iconst (v := 0) hx hb dX1_until_1 (by decide) ?_
  refine x1_pt C hP hD hS q59 dX1_until_2 (fun H locs hP hD hS => ?_)
  have hP : va_P D vwCl (rb_w cI o (rb_t v 0)) H := hP
  have hD : va_D A (rb_w cI o (rb_t v 0)) := hD
  refine lv_aload_n hx hb dX1_until_5 rfl (lv_at hl 0 rfl) ?_
  refine lv_iload_n hx hb dX1_until_6 rfl (lv_at hl 1 rfl) ?_
  refine g_ci (wr := []) (cells' := 0) (slots' := 0) rfl rfl C rd_nil hD hS (g_runV (wr := []) (n := 1) C (mX1_isReaper l D t cI o H.size (rb_t v 0) x0) (rw_V q124 q125 q126 q5 q127) kd_X1_isReaper ⟨Nat.le_of_ble_eq_true rfl, Nat.le_of_ble_eq_true rfl⟩ (ci := 1) rfl rfl rfl C.2.2.2.2.2.1 hP hD hS hl.1 rfl rfl (Nat.le_of_ble_eq_true rfl) dX1_until_7 ⟨Nat.le_of_ble_eq_true rfl, Nat.le_of_ble_eq_true rfl⟩) (fun r1 w' H locs hv _ _ hP hD hS => ?_)
  obtain ⟨rfl, rfl⟩ := hv
  have hD : va_D A (rb_w cI o (rb_t v 0)) := hD
  refine g_top (y := 0) (rb_reN (n := v.2.1) (show v.2.1 ≤ 8 by omega) (rb_no hn)) ?_
  refine lv_if_ne (tgt := 19) hx hb dX1_until_10 (by decide) (fun c2 => absurd c2 (by decide)) (fun c2 => ?_)
  refine lv_aload_n hx hb dX1_until_13 rfl (lv_at hl 0 rfl) ?_
  refine lv_iconst (v := 1) hx hb dX1_until_14 (by decide) ?_
  refine g_ci (wr := []) (cells' := 0) (slots' := 0) rfl rfl C rd_nil hD hS (g_runV (wr := []) (n := 1) C (mX1_fail l D t cI o H.size (rb_t v 0) 1) (rw_V q64 q65 q66 q5 q67) kd_X1_fail ⟨Nat.le_of_ble_eq_true rfl, Nat.le_of_ble_eq_true rfl⟩ (ci := 1) rfl rfl rfl C.2.2.2.2.2.1 hP hD hS hl.1 rfl rfl (Nat.le_of_ble_eq_true rfl) dX1_until_15 ⟨Nat.le_of_ble_eq_true rfl, Nat.le_of_ble_eq_true rfl⟩) (fun r3 w' H locs hv _ _ hP hD hS => ?_)
  obtain ⟨rfl, rfl⟩ := hv
  have hD : va_D A (rb_w cI o (rb_t (rb_t v 0) 1)) := hD
  have hP : va_P D vwCl (rb_w cI o (rb_t (rb_t v 0) 1)) H := hP
  have hD : va_D A (rb_w cI o (rb_t (rb_t v 0) 1)) := hD
  exact g_iret C hrt hP hD hS dX1_until_18 ⟨by skip; rfl, by skip; rfl⟩
theorem kd_X1_lend : yX1_lend.cls = yX1_lend.cls ∧ yX1_lend.cls ≠ "java/lang/invoke/MethodHandle" ∧ yX1_lend.cls ≠ "java/lang/invoke/VarHandle" ∧ (parseMethodDescriptor yX1_lend.desc).map (fun d => d.parameters.length) = some 2 := by decide +kernel
set_option maxHeartbeats 4000000 in
set_option maxRecDepth 100000 in
theorem zX1_lend (l : Launch) (D : va_G) (t : Nat → Nat) (cI : ClassId) (o : Nat) (sz : Nat) (v : S1) (hn : v.2.1 = 0) (x0 x1 : Int32) : gMi l yX1_lend (rw_ yX1_lend cX1_lend 3 (some .int)) (rm_ 2 0 0 43) [.ref o, .int x0, .int x1] D [(cI, .int)] t (rb_w cI o v) sz (fun r9 w' => r9 = 0 ∧ w' = rb_w cI o (rb_t (rb_t v 0) 1)) := by
  refine g_of (cc := cX1_lend) (nL := 3) (rt := (some .int)) (Q := fun A => va_Qi _ (fun w' U => gQ D A w' U) A) (by decide) (Nat.le_of_ble_eq_true rfl) (fun p e s m args below meth c A ls H C hrt hnm hS hP hD hl => ?_)
  have hx := C.1
  have hb := C.2.1
  have hown := C.2.2.2.1
  have hts := C.2.2.2.2.1
  have hl : lv_has ls 3 [(0, .ref o), (1, .int x0), (2, .int x1)] := hl
  refine lv_aload_n hx hb dX1_lend_0 rfl (lv_at hl 0 rfl) ?_
  refine lv_iconst (v := 0) hx hb dX1_lend_1 (by decide) ?_
  refine x1_pt C hP hD hS q59 dX1_lend_2 (fun H locs hP hD hS => ?_)
  have hP : va_P D vwCl (rb_w cI o (rb_t v 0)) H := hP
  have hD : va_D A (rb_w cI o (rb_t v 0)) := hD
  refine lv_aload_n hx hb dX1_lend_5 rfl (lv_at hl 0 rfl) ?_
  refine lv_iload_n hx hb dX1_lend_6 rfl (lv_at hl 1 rfl) ?_
  refine g_ci (wr := []) (cells' := 0) (slots' := 0) rfl rfl C rd_nil hD hS (g_runV (wr := []) (n := 1) C (mX1_isReaper l D t cI o H.size (rb_t v 0) x0) (rw_V q124 q125 q126 q5 q127) kd_X1_isReaper ⟨Nat.le_of_ble_eq_true rfl, Nat.le_of_ble_eq_true rfl⟩ (ci := 1) rfl rfl rfl C.2.2.2.2.2.1 hP hD hS hl.1 rfl rfl (Nat.le_of_ble_eq_true rfl) dX1_lend_7 ⟨Nat.le_of_ble_eq_true rfl, Nat.le_of_ble_eq_true rfl⟩) (fun r1 w' H locs hv _ _ hP hD hS => ?_)
  obtain ⟨rfl, rfl⟩ := hv
  have hD : va_D A (rb_w cI o (rb_t v 0)) := hD
  refine g_top (y := 0) (rb_reN (n := v.2.1) (show v.2.1 ≤ 8 by omega) (rb_no hn)) ?_
  refine lv_if_ne (tgt := 19) hx hb dX1_lend_10 (by decide) (fun c2 => absurd c2 (by decide)) (fun c2 => ?_)
  refine lv_aload_n hx hb dX1_lend_13 rfl (lv_at hl 0 rfl) ?_
  refine lv_iconst (v := 1) hx hb dX1_lend_14 (by decide) ?_
  refine g_ci (wr := []) (cells' := 0) (slots' := 0) rfl rfl C rd_nil hD hS (g_runV (wr := []) (n := 1) C (mX1_fail l D t cI o H.size (rb_t v 0) 1) (rw_V q64 q65 q66 q5 q67) kd_X1_fail ⟨Nat.le_of_ble_eq_true rfl, Nat.le_of_ble_eq_true rfl⟩ (ci := 1) rfl rfl rfl C.2.2.2.2.2.1 hP hD hS hl.1 rfl rfl (Nat.le_of_ble_eq_true rfl) dX1_lend_15 ⟨Nat.le_of_ble_eq_true rfl, Nat.le_of_ble_eq_true rfl⟩) (fun r3 w' H locs hv _ _ hP hD hS => ?_)
  obtain ⟨rfl, rfl⟩ := hv
  have hD : va_D A (rb_w cI o (rb_t (rb_t v 0) 1)) := hD
  have hP : va_P D vwCl (rb_w cI o (rb_t (rb_t v 0) 1)) H := hP
  have hD : va_D A (rb_w cI o (rb_t (rb_t v 0) 1)) := hD
  exact g_iret C hrt hP hD hS dX1_lend_18 ⟨by skip; rfl, by skip; rfl⟩
theorem kd_X1_chest : yX1_chest.cls = yX1_chest.cls ∧ yX1_chest.cls ≠ "java/lang/invoke/MethodHandle" ∧ yX1_chest.cls ≠ "java/lang/invoke/VarHandle" ∧ (parseMethodDescriptor yX1_chest.desc).map (fun d => d.parameters.length) = some 1 := by decide +kernel
set_option maxHeartbeats 4000000 in
set_option maxRecDepth 100000 in
theorem oX1_chest (l : Launch) (D : va_G) (t : Nat → Nat) (cI : ClassId) (o : Nat) (sz : Nat) (v : S1) (k : Nat) (hk3 : k < 3) : gMi l yX1_chest (rw_ yX1_chest cX1_chest 2 (some .int)) (rm_ 2 0 0 42) [.ref o, .int (nI k)] D [(cI, .int)] t (rb_w cI o v) sz (fun r9 w' => r9 = v.1 1 k ∧ w' = rb_w cI o (rb_t v 0)) := by
  refine g_of (cc := cX1_chest) (nL := 2) (rt := (some .int)) (Q := fun A => va_Qi _ (fun w' U => gQ D A w' U) A) (by decide) (Nat.le_of_ble_eq_true rfl) (fun p e s m args below meth c A ls H C hrt hnm hS hP hD hl => ?_)
  have hx := C.1
  have hb := C.2.1
  have hown := C.2.2.2.1
  have hts := C.2.2.2.2.1
  have hl : lv_has ls 2 [(0, .ref o), (1, .int (nI k))] := hl
  refine lv_aload_n hx hb dX1_chest_0 rfl (lv_at hl 0 rfl) ?_
  refine lv_iconst (v := 0) hx hb dX1_chest_1 (by decide) ?_
  refine x1_pt C hP hD hS q59 dX1_chest_2 (fun H locs hP hD hS => ?_)
  have hP : va_P D vwCl (rb_w cI o (rb_t v 0)) H := hP
  have hD : va_D A (rb_w cI o (rb_t v 0)) := hD
  refine lv_iload_n hx hb dX1_chest_5 rfl (lv_at hl 1 rfl) ?_
  refine g_ci (wr := []) (cells' := 0) (slots' := 0) rfl rfl C rd_nil hD hS (g_runS (wr := []) (n := 1) (As := [.int (nI k)]) C (mX1_isCoin l D t cI o H.size (rb_t v 0) (nI k)) (rw_S q110 q111 q5 q112) kd_X1_isCoin ⟨Nat.le_of_ble_eq_true rfl, Nat.le_of_ble_eq_true rfl⟩ C.2.2.2.2.2.1 hP hD hS hl.1 rfl rfl (Nat.le_of_ble_eq_true rfl) dX1_chest_6 ⟨Nat.le_of_ble_eq_true rfl, Nat.le_of_ble_eq_true rfl⟩) (fun r1 w' H locs hv _ _ hP hD hS => ?_)
  obtain ⟨rfl, rfl⟩ := hv
  have hD : va_D A (rb_w cI o (rb_t v 0)) := hD
  refine g_top (y := 1) (rb_kY (n := 2) (by decide) hk3) ?_
  refine lv_if_eq (tgt := 21) hx hb dX1_chest_9 (by decide) (fun c2 => absurd c2 (by decide)) (fun c2 => ?_)
  refine lv_aload_n hx hb dX1_chest_12 rfl (lv_at hl 0 rfl) ?_
  refine x1_gf C hP 4 (by decide) (x := .ref ((rb_t v 0).2.2.2.2 1)) rfl rfl q31 dX1_chest_13 ?_
  refine lv_iload_n hx hb dX1_chest_16 rfl (lv_at hl 1 rfl) ?_
  refine x1_ld C hP (k := 1) (i := k) (by decide) (show k < 3 by omega) rfl dX1_chest_17 ?_
  refine lv_goto (tgt := 26) hx hb dX1_chest_18 (by decide) ?_
  exact g_iret C hrt hP hD hS dX1_chest_26 ⟨by skip; rfl, by skip; rfl⟩
set_option maxHeartbeats 4000000 in
set_option maxRecDepth 100000 in
theorem bX1_chest1 (l : Launch) (D : va_G) (t : Nat → Nat) (cI : ClassId) (o : Nat) (sz : Nat) (v : S1) (x0 : Int32) (h : x0 < 0 ∨ 3 ≤ x0) : gMi l yX1_chest (rw_ yX1_chest cX1_chest 2 (some .int)) (rm_ 2 0 0 42) [.ref o, .int x0] D [(cI, .int)] t (rb_w cI o v) sz (fun r9 w' => r9 = 0 ∧ w' = rb_w cI o (rb_t (rb_t v 0) 1)) := by
  refine g_of (cc := cX1_chest) (nL := 2) (rt := (some .int)) (Q := fun A => va_Qi _ (fun w' U => gQ D A w' U) A) (by decide) (Nat.le_of_ble_eq_true rfl) (fun p e s m args below meth c A ls H C hrt hnm hS hP hD hl => ?_)
  have hx := C.1
  have hb := C.2.1
  have hown := C.2.2.2.1
  have hts := C.2.2.2.2.1
  have hl : lv_has ls 2 [(0, .ref o), (1, .int x0)] := hl
  refine lv_aload_n hx hb dX1_chest_0 rfl (lv_at hl 0 rfl) ?_
  refine lv_iconst (v := 0) hx hb dX1_chest_1 (by decide) ?_
  refine x1_pt C hP hD hS q59 dX1_chest_2 (fun H locs hP hD hS => ?_)
  have hP : va_P D vwCl (rb_w cI o (rb_t v 0)) H := hP
  have hD : va_D A (rb_w cI o (rb_t v 0)) := hD
  refine lv_iload_n hx hb dX1_chest_5 rfl (lv_at hl 1 rfl) ?_
  refine g_ci (wr := []) (cells' := 0) (slots' := 0) rfl rfl C rd_nil hD hS (g_runS (wr := []) (n := 1) (As := [.int x0]) C (mX1_isCoin l D t cI o H.size (rb_t v 0) x0) (rw_S q110 q111 q5 q112) kd_X1_isCoin ⟨Nat.le_of_ble_eq_true rfl, Nat.le_of_ble_eq_true rfl⟩ C.2.2.2.2.2.1 hP hD hS hl.1 rfl rfl (Nat.le_of_ble_eq_true rfl) dX1_chest_6 ⟨Nat.le_of_ble_eq_true rfl, Nat.le_of_ble_eq_true rfl⟩) (fun r1 w' H locs hv _ _ hP hD hS => ?_)
  obtain ⟨rfl, rfl⟩ := hv
  have hD : va_D A (rb_w cI o (rb_t v 0)) := hD
  refine g_top (y := 0) (rb_kN (n := 2) (by decide) h) ?_
  refine lv_if_eq (tgt := 21) hx hb dX1_chest_9 (by decide) (fun c2 => ?_) (fun c2 => absurd (by decide) c2)
  refine lv_aload_n hx hb dX1_chest_21 rfl (lv_at hl 0 rfl) ?_
  refine lv_iconst (v := 1) hx hb dX1_chest_22 (by decide) ?_
  refine g_ci (wr := []) (cells' := 0) (slots' := 0) rfl rfl C rd_nil hD hS (g_runV (wr := []) (n := 1) C (mX1_fail l D t cI o H.size (rb_t v 0) 1) (rw_V q64 q65 q66 q5 q67) kd_X1_fail ⟨Nat.le_of_ble_eq_true rfl, Nat.le_of_ble_eq_true rfl⟩ (ci := 1) rfl rfl rfl C.2.2.2.2.2.1 hP hD hS hl.1 rfl rfl (Nat.le_of_ble_eq_true rfl) dX1_chest_23 ⟨Nat.le_of_ble_eq_true rfl, Nat.le_of_ble_eq_true rfl⟩) (fun r3 w' H locs hv _ _ hP hD hS => ?_)
  obtain ⟨rfl, rfl⟩ := hv
  have hD : va_D A (rb_w cI o (rb_t (rb_t v 0) 1)) := hD
  have hP : va_P D vwCl (rb_w cI o (rb_t (rb_t v 0) 1)) H := hP
  have hD : va_D A (rb_w cI o (rb_t (rb_t v 0) 1)) := hD
  exact g_iret C hrt hP hD hS dX1_chest_26 ⟨by skip; rfl, by skip; rfl⟩
theorem kd_X1_fill : yX1_fill.cls = yX1_fill.cls ∧ yX1_fill.cls ≠ "java/lang/invoke/MethodHandle" ∧ yX1_fill.cls ≠ "java/lang/invoke/VarHandle" ∧ (parseMethodDescriptor yX1_fill.desc).map (fun d => d.parameters.length) = some 2 := by decide +kernel
set_option maxHeartbeats 4000000 in
set_option maxRecDepth 100000 in
theorem oX1_fill (l : Launch) (D : va_G) (t : Nat → Nat) (cI : ClassId) (o : Nat) (sz : Nat) (v : S1) (k : Nat) (hk3 : k < 3) (x : Int32) (h1 : ¬ x < 1) (h2 : ¬ 500 < x) : gMi l yX1_fill (rw_ yX1_fill cX1_fill 3 (some .int)) (rm_ 2 0 0 42) [.ref o, .int (nI k), .int x] D [(cI, .int)] t (rb_w cI o v) sz (fun r9 w' => r9 = v.1 1 k + x ∧ w' = rb_w cI o (rb_s (rb_t v 0) 1 k (v.1 1 k + x))) := by
  refine g_of (cc := cX1_fill) (nL := 3) (rt := (some .int)) (Q := fun A => va_Qi _ (fun w' U => gQ D A w' U) A) (by decide) (Nat.le_of_ble_eq_true rfl) (fun p e s m args below meth c A ls H C hrt hnm hS hP hD hl => ?_)
  have hx := C.1
  have hb := C.2.1
  have hown := C.2.2.2.1
  have hts := C.2.2.2.2.1
  have hl : lv_has ls 3 [(0, .ref o), (1, .int (nI k)), (2, .int x)] := hl
  refine lv_aload_n hx hb dX1_fill_0 rfl (lv_at hl 0 rfl) ?_
  refine lv_iconst (v := 0) hx hb dX1_fill_1 (by decide) ?_
  refine x1_pt C hP hD hS q59 dX1_fill_2 (fun H locs hP hD hS => ?_)
  have hP : va_P D vwCl (rb_w cI o (rb_t v 0)) H := hP
  have hD : va_D A (rb_w cI o (rb_t v 0)) := hD
  refine lv_iload_n hx hb dX1_fill_5 rfl (lv_at hl 1 rfl) ?_
  refine g_ci (wr := []) (cells' := 0) (slots' := 0) rfl rfl C rd_nil hD hS (g_runS (wr := []) (n := 1) (As := [.int (nI k)]) C (mX1_isCoin l D t cI o H.size (rb_t v 0) (nI k)) (rw_S q110 q111 q5 q112) kd_X1_isCoin ⟨Nat.le_of_ble_eq_true rfl, Nat.le_of_ble_eq_true rfl⟩ C.2.2.2.2.2.1 hP hD hS hl.1 rfl rfl (Nat.le_of_ble_eq_true rfl) dX1_fill_6 ⟨Nat.le_of_ble_eq_true rfl, Nat.le_of_ble_eq_true rfl⟩) (fun r1 w' H locs hv _ _ hP hD hS => ?_)
  obtain ⟨rfl, rfl⟩ := hv
  have hD : va_D A (rb_w cI o (rb_t v 0)) := hD
  refine g_top (y := 1) (rb_kY (n := 2) (by decide) hk3) ?_
  refine lv_if_ne (tgt := 18) hx hb dX1_fill_9 (by decide) (fun c2 => ?_) (fun c2 => absurd c2 (by decide))
  refine lv_iload_n hx hb dX1_fill_18 rfl (lv_at hl 2 rfl) ?_
  refine lv_iconst (v := 1) hx hb dX1_fill_19 (by decide) ?_
  refine lv_sipush (v := 500) hx hb dX1_fill_20 (by decide) ?_
  refine g_ci (wr := []) (cells' := 0) (slots' := 0) rfl rfl C rd_nil hD hS (g_runS (wr := []) (n := 3) (As := [.int x, .int 1, .int 500]) C (mX1_isIn l D t [(cI, .int)] (rb_w cI o (rb_t v 0)) H.size x 1 500) (rw_S q61 q62 q5 q63) kd_X1_isIn ⟨Nat.le_of_ble_eq_true rfl, Nat.le_of_ble_eq_true rfl⟩ C.2.2.2.2.2.1 hP hD hS hl.1 rfl rfl (Nat.le_of_ble_eq_true rfl) dX1_fill_23 ⟨Nat.le_of_ble_eq_true rfl, Nat.le_of_ble_eq_true rfl⟩) (fun r3 w' H locs hv _ _ hP hD hS => ?_)
  obtain ⟨rfl, rfl⟩ := hv
  have hD : va_D A (rb_w cI o (rb_t v 0)) := hD
  refine g_top (y := 1) (rb_in_1 h1 h2) ?_
  refine lv_if_ne (tgt := 35) hx hb dX1_fill_26 (by decide) (fun c4 => ?_) (fun c4 => absurd c4 (by decide))
  refine lv_aload_n hx hb dX1_fill_35 rfl (lv_at hl 0 rfl) ?_
  refine x1_gf C hP 4 (by decide) (x := .ref ((rb_t v 0).2.2.2.2 1)) rfl rfl q31 dX1_fill_36 ?_
  refine lv_iload_n hx hb dX1_fill_39 rfl (lv_at hl 1 rfl) ?_
  refine lv_dup2_11 hx hb dX1_fill_40 rfl rfl ?_
  refine x1_ld C hP (k := 1) (i := k) (by decide) (show k < 3 by omega) rfl dX1_fill_41 ?_
  refine lv_iload_n hx hb dX1_fill_42 rfl (lv_at hl 2 rfl) ?_
  refine lv_iadd hx hb dX1_fill_43 ?_
  refine x1_st C hP hD hS (k := 1) (i := k) (by decide) (show k < 3 by omega) rfl dX1_fill_44 (fun H locs hP hD hS => ?_)
  have hP : va_P D vwCl (rb_w cI o (rb_s (rb_t v 0) 1 k (((rb_t v 0).1 1 k) + x))) H := hP
  have hD : va_D A (rb_w cI o (rb_s (rb_t v 0) 1 k (((rb_t v 0).1 1 k) + x))) := hD
  refine lv_aload_n hx hb dX1_fill_45 rfl (lv_at hl 0 rfl) ?_
  refine x1_gf C hP 4 (by decide) (x := .ref ((rb_s (rb_t v 0) 1 k (((rb_t v 0).1 1 k) + x)).2.2.2.2 1)) rfl rfl q31 dX1_fill_46 ?_
  refine lv_iload_n hx hb dX1_fill_49 rfl (lv_at hl 1 rfl) ?_
  refine x1_ld C hP (k := 1) (i := k) (by decide) (show k < 3 by omega) rfl dX1_fill_50 ?_
  exact g_iret C hrt hP hD hS dX1_fill_51 ⟨by skip; exact rb_sS, by skip; rfl⟩
set_option maxHeartbeats 4000000 in
set_option maxRecDepth 100000 in
theorem bX1_fill1 (l : Launch) (D : va_G) (t : Nat → Nat) (cI : ClassId) (o : Nat) (sz : Nat) (v : S1) (x0 x : Int32) (h : x0 < 0 ∨ 3 ≤ x0) : gMi l yX1_fill (rw_ yX1_fill cX1_fill 3 (some .int)) (rm_ 2 0 0 42) [.ref o, .int x0, .int x] D [(cI, .int)] t (rb_w cI o v) sz (fun r9 w' => r9 = 0 ∧ w' = rb_w cI o (rb_t (rb_t v 0) 1)) := by
  refine g_of (cc := cX1_fill) (nL := 3) (rt := (some .int)) (Q := fun A => va_Qi _ (fun w' U => gQ D A w' U) A) (by decide) (Nat.le_of_ble_eq_true rfl) (fun p e s m args below meth c A ls H C hrt hnm hS hP hD hl => ?_)
  have hx := C.1
  have hb := C.2.1
  have hown := C.2.2.2.1
  have hts := C.2.2.2.2.1
  have hl : lv_has ls 3 [(0, .ref o), (1, .int x0), (2, .int x)] := hl
  refine lv_aload_n hx hb dX1_fill_0 rfl (lv_at hl 0 rfl) ?_
  refine lv_iconst (v := 0) hx hb dX1_fill_1 (by decide) ?_
  refine x1_pt C hP hD hS q59 dX1_fill_2 (fun H locs hP hD hS => ?_)
  have hP : va_P D vwCl (rb_w cI o (rb_t v 0)) H := hP
  have hD : va_D A (rb_w cI o (rb_t v 0)) := hD
  refine lv_iload_n hx hb dX1_fill_5 rfl (lv_at hl 1 rfl) ?_
  refine g_ci (wr := []) (cells' := 0) (slots' := 0) rfl rfl C rd_nil hD hS (g_runS (wr := []) (n := 1) (As := [.int x0]) C (mX1_isCoin l D t cI o H.size (rb_t v 0) x0) (rw_S q110 q111 q5 q112) kd_X1_isCoin ⟨Nat.le_of_ble_eq_true rfl, Nat.le_of_ble_eq_true rfl⟩ C.2.2.2.2.2.1 hP hD hS hl.1 rfl rfl (Nat.le_of_ble_eq_true rfl) dX1_fill_6 ⟨Nat.le_of_ble_eq_true rfl, Nat.le_of_ble_eq_true rfl⟩) (fun r1 w' H locs hv _ _ hP hD hS => ?_)
  obtain ⟨rfl, rfl⟩ := hv
  have hD : va_D A (rb_w cI o (rb_t v 0)) := hD
  refine g_top (y := 0) (rb_kN (n := 2) (by decide) h) ?_
  refine lv_if_ne (tgt := 18) hx hb dX1_fill_9 (by decide) (fun c2 => absurd c2 (by decide)) (fun c2 => ?_)
  refine lv_aload_n hx hb dX1_fill_12 rfl (lv_at hl 0 rfl) ?_
  refine lv_iconst (v := 1) hx hb dX1_fill_13 (by decide) ?_
  refine g_ci (wr := []) (cells' := 0) (slots' := 0) rfl rfl C rd_nil hD hS (g_runV (wr := []) (n := 1) C (mX1_fail l D t cI o H.size (rb_t v 0) 1) (rw_V q64 q65 q66 q5 q67) kd_X1_fail ⟨Nat.le_of_ble_eq_true rfl, Nat.le_of_ble_eq_true rfl⟩ (ci := 1) rfl rfl rfl C.2.2.2.2.2.1 hP hD hS hl.1 rfl rfl (Nat.le_of_ble_eq_true rfl) dX1_fill_14 ⟨Nat.le_of_ble_eq_true rfl, Nat.le_of_ble_eq_true rfl⟩) (fun r3 w' H locs hv _ _ hP hD hS => ?_)
  obtain ⟨rfl, rfl⟩ := hv
  have hD : va_D A (rb_w cI o (rb_t (rb_t v 0) 1)) := hD
  have hP : va_P D vwCl (rb_w cI o (rb_t (rb_t v 0) 1)) H := hP
  have hD : va_D A (rb_w cI o (rb_t (rb_t v 0) 1)) := hD
  exact g_iret C hrt hP hD hS dX1_fill_17 ⟨by skip; rfl, by skip; rfl⟩
set_option maxHeartbeats 4000000 in
set_option maxRecDepth 100000 in
theorem bX1_fill2 (l : Launch) (D : va_G) (t : Nat → Nat) (cI : ClassId) (o : Nat) (sz : Nat) (v : S1) (k : Nat) (hk3 : k < 3) (x : Int32) (h : x < 1 ∨ 500 < x) : gMi l yX1_fill (rw_ yX1_fill cX1_fill 3 (some .int)) (rm_ 2 0 0 42) [.ref o, .int (nI k), .int x] D [(cI, .int)] t (rb_w cI o v) sz (fun r9 w' => r9 = 0 ∧ w' = rb_w cI o (rb_t (rb_t v 0) 2)) := by
  refine g_of (cc := cX1_fill) (nL := 3) (rt := (some .int)) (Q := fun A => va_Qi _ (fun w' U => gQ D A w' U) A) (by decide) (Nat.le_of_ble_eq_true rfl) (fun p e s m args below meth c A ls H C hrt hnm hS hP hD hl => ?_)
  have hx := C.1
  have hb := C.2.1
  have hown := C.2.2.2.1
  have hts := C.2.2.2.2.1
  have hl : lv_has ls 3 [(0, .ref o), (1, .int (nI k)), (2, .int x)] := hl
  refine lv_aload_n hx hb dX1_fill_0 rfl (lv_at hl 0 rfl) ?_
  refine lv_iconst (v := 0) hx hb dX1_fill_1 (by decide) ?_
  refine x1_pt C hP hD hS q59 dX1_fill_2 (fun H locs hP hD hS => ?_)
  have hP : va_P D vwCl (rb_w cI o (rb_t v 0)) H := hP
  have hD : va_D A (rb_w cI o (rb_t v 0)) := hD
  refine lv_iload_n hx hb dX1_fill_5 rfl (lv_at hl 1 rfl) ?_
  refine g_ci (wr := []) (cells' := 0) (slots' := 0) rfl rfl C rd_nil hD hS (g_runS (wr := []) (n := 1) (As := [.int (nI k)]) C (mX1_isCoin l D t cI o H.size (rb_t v 0) (nI k)) (rw_S q110 q111 q5 q112) kd_X1_isCoin ⟨Nat.le_of_ble_eq_true rfl, Nat.le_of_ble_eq_true rfl⟩ C.2.2.2.2.2.1 hP hD hS hl.1 rfl rfl (Nat.le_of_ble_eq_true rfl) dX1_fill_6 ⟨Nat.le_of_ble_eq_true rfl, Nat.le_of_ble_eq_true rfl⟩) (fun r1 w' H locs hv _ _ hP hD hS => ?_)
  obtain ⟨rfl, rfl⟩ := hv
  have hD : va_D A (rb_w cI o (rb_t v 0)) := hD
  refine g_top (y := 1) (rb_kY (n := 2) (by decide) hk3) ?_
  refine lv_if_ne (tgt := 18) hx hb dX1_fill_9 (by decide) (fun c2 => ?_) (fun c2 => absurd c2 (by decide))
  refine lv_iload_n hx hb dX1_fill_18 rfl (lv_at hl 2 rfl) ?_
  refine lv_iconst (v := 1) hx hb dX1_fill_19 (by decide) ?_
  refine lv_sipush (v := 500) hx hb dX1_fill_20 (by decide) ?_
  refine g_ci (wr := []) (cells' := 0) (slots' := 0) rfl rfl C rd_nil hD hS (g_runS (wr := []) (n := 3) (As := [.int x, .int 1, .int 500]) C (mX1_isIn l D t [(cI, .int)] (rb_w cI o (rb_t v 0)) H.size x 1 500) (rw_S q61 q62 q5 q63) kd_X1_isIn ⟨Nat.le_of_ble_eq_true rfl, Nat.le_of_ble_eq_true rfl⟩ C.2.2.2.2.2.1 hP hD hS hl.1 rfl rfl (Nat.le_of_ble_eq_true rfl) dX1_fill_23 ⟨Nat.le_of_ble_eq_true rfl, Nat.le_of_ble_eq_true rfl⟩) (fun r3 w' H locs hv _ _ hP hD hS => ?_)
  obtain ⟨rfl, rfl⟩ := hv
  have hD : va_D A (rb_w cI o (rb_t v 0)) := hD
  refine g_top (y := 0) (rb_in_0 h) ?_
  refine lv_if_ne (tgt := 35) hx hb dX1_fill_26 (by decide) (fun c4 => absurd c4 (by decide)) (fun c4 => ?_)
  refine lv_aload_n hx hb dX1_fill_29 rfl (lv_at hl 0 rfl) ?_
  refine lv_iconst (v := 2) hx hb dX1_fill_30 (by decide) ?_
  refine g_ci (wr := []) (cells' := 0) (slots' := 0) rfl rfl C rd_nil hD hS (g_runV (wr := []) (n := 1) C (mX1_fail l D t cI o H.size (rb_t v 0) 2) (rw_V q64 q65 q66 q5 q67) kd_X1_fail ⟨Nat.le_of_ble_eq_true rfl, Nat.le_of_ble_eq_true rfl⟩ (ci := 1) rfl rfl rfl C.2.2.2.2.2.1 hP hD hS hl.1 rfl rfl (Nat.le_of_ble_eq_true rfl) dX1_fill_31 ⟨Nat.le_of_ble_eq_true rfl, Nat.le_of_ble_eq_true rfl⟩) (fun r5 w' H locs hv _ _ hP hD hS => ?_)
  obtain ⟨rfl, rfl⟩ := hv
  have hD : va_D A (rb_w cI o (rb_t (rb_t v 0) 2)) := hD
  have hP : va_P D vwCl (rb_w cI o (rb_t (rb_t v 0) 2)) H := hP
  have hD : va_D A (rb_w cI o (rb_t (rb_t v 0) 2)) := hD
  exact g_iret C hrt hP hD hS dX1_fill_34 ⟨by skip; rfl, by skip; rfl⟩
theorem kd_X1_would : yX1_would.cls = yX1_would.cls ∧ yX1_would.cls ≠ "java/lang/invoke/MethodHandle" ∧ yX1_would.cls ≠ "java/lang/invoke/VarHandle" ∧ (parseMethodDescriptor yX1_would.desc).map (fun d => d.parameters.length) = some 2 := by decide +kernel
set_option maxHeartbeats 4000000 in
set_option maxRecDepth 100000 in
theorem zX1_would (l : Launch) (D : va_G) (t : Nat → Nat) (cI : ClassId) (o : Nat) (sz : Nat) (v : S1) (hn : v.2.1 = 0) (k : Nat) (hk5 : k < 5) (x : Int32) (h1 : ¬ x < rt_RX1_LOW k) (h2 : ¬ rt_RX1_HIGH k < x) : gMi l yX1_would (rw_ yX1_would cX1_would 5 (some .int)) (rm_ 5 0 0 108) [.ref o, .int (nI k), .int x] D [(cI, .int)] t (rb_w cI o v) sz (fun r9 w' => r9 = 0 ∧ ∃ v', w' = rb_w cI o v' ∧ v'.2 = (rb_t v 0).2 ∧ v'.1 1 = v.1 1) := by
  refine g_of (cc := cX1_would) (nL := 5) (rt := (some .int)) (Q := fun A => va_Qi _ (fun w' U => gQ D A w' U) A) (by decide) (Nat.le_of_ble_eq_true rfl) (fun p e s m args below meth c A ls H C hrt hnm hS hP hD hl => ?_)
  have hx := C.1
  have hb := C.2.1
  have hown := C.2.2.2.1
  have hts := C.2.2.2.2.1
  have hl : lv_has ls 5 [(0, .ref o), (1, .int (nI k)), (2, .int x)] := hl
  refine lv_aload_n hx hb dX1_would_0 rfl (lv_at hl 0 rfl) ?_
  refine lv_iconst (v := 0) hx hb dX1_would_1 (by decide) ?_
  refine x1_pt C hP hD hS q59 dX1_would_2 (fun H locs hP hD hS => ?_)
  have hP : va_P D vwCl (rb_w cI o (rb_t v 0)) H := hP
  have hD : va_D A (rb_w cI o (rb_t v 0)) := hD
  refine lv_iload_n hx hb dX1_would_5 rfl (lv_at hl 1 rfl) ?_
  refine g_ci (wr := []) (cells' := 0) (slots' := 0) rfl rfl C rd_nil hD hS (g_runS (wr := []) (n := 1) (As := [.int (nI k)]) C (mX1_isRate l D t cI o H.size (rb_t v 0) (nI k)) (rw_S q96 q97 q5 q98) kd_X1_isRate ⟨Nat.le_of_ble_eq_true rfl, Nat.le_of_ble_eq_true rfl⟩ C.2.2.2.2.2.1 hP hD hS hl.1 rfl rfl (Nat.le_of_ble_eq_true rfl) dX1_would_6 ⟨Nat.le_of_ble_eq_true rfl, Nat.le_of_ble_eq_true rfl⟩) (fun r1 w' H locs hv _ _ hP hD hS => ?_)
  obtain ⟨rfl, rfl⟩ := hv
  have hD : va_D A (rb_w cI o (rb_t v 0)) := hD
  refine g_top (y := 1) (rb_kY (n := 4) (by decide) hk5) ?_
  refine lv_if_ne (tgt := 18) hx hb dX1_would_9 (by decide) (fun c2 => ?_) (fun c2 => absurd c2 (by decide))
  refine lv_iload_n hx hb dX1_would_18 rfl (lv_at hl 2 rfl) ?_
  refine g_gs C hS (C.2.2.2.2.2.2.2.1.2.2.2.2.2.2.1) q94 dX1_would_19 ?_
  refine lv_iload_n hx hb dX1_would_22 rfl (lv_at hl 1 rfl) ?_
  refine g_ti C hS (N := 5) (i := k) (f := rt_RX1_LOW) C.2.2.2.2.2.2.2.1.2.2.2.2.2.2.2.1 (by decide) hk5 rfl dX1_would_23 ?_
  refine g_gs C hS (C.2.2.2.2.2.2.2.1.2.2.2.2.2.2.2.2.1) q95 dX1_would_24 ?_
  refine lv_iload_n hx hb dX1_would_27 rfl (lv_at hl 1 rfl) ?_
  refine g_ti C hS (N := 5) (i := k) (f := rt_RX1_HIGH) C.2.2.2.2.2.2.2.1.2.2.2.2.2.2.2.2.2.1 (by decide) hk5 rfl dX1_would_28 ?_
  refine g_ci (wr := []) (cells' := 0) (slots' := 0) rfl rfl C rd_nil hD hS (g_runS (wr := []) (n := 3) (As := [.int x, .int (rt_RX1_LOW k), .int (rt_RX1_HIGH k)]) C (mX1_isIn l D t [(cI, .int)] (rb_w cI o (rb_t v 0)) H.size x (rt_RX1_LOW k) (rt_RX1_HIGH k)) (rw_S q61 q62 q5 q63) kd_X1_isIn ⟨Nat.le_of_ble_eq_true rfl, Nat.le_of_ble_eq_true rfl⟩ C.2.2.2.2.2.1 hP hD hS hl.1 rfl rfl (Nat.le_of_ble_eq_true rfl) dX1_would_29 ⟨Nat.le_of_ble_eq_true rfl, Nat.le_of_ble_eq_true rfl⟩) (fun r3 w' H locs hv _ _ hP hD hS => ?_)
  obtain ⟨rfl, rfl⟩ := hv
  have hD : va_D A (rb_w cI o (rb_t v 0)) := hD
  refine g_top (y := 1) (rb_in_1 h1 h2) ?_
  refine lv_if_ne (tgt := 41) hx hb dX1_would_32 (by decide) (fun c4 => ?_) (fun c4 => absurd c4 (by decide))
  refine lv_aload_n hx hb dX1_would_41 rfl (lv_at hl 0 rfl) ?_
  refine x1_gf C hP 3 (by decide) (x := .ref ((rb_t v 0).2.2.2.2 0)) rfl rfl q30 dX1_would_42 ?_
  refine lv_iload_n hx hb dX1_would_45 rfl (lv_at hl 1 rfl) ?_
  refine x1_ld C hP (k := 0) (i := k) (by decide) (show k < 5 by omega) rfl dX1_would_46 ?_
  refine lv_topi (fun v5 ev5 => ?_)
  refine lv_istore_n (lv' := [(3, .int v5), (0, .ref o), (1, .int (nI k)), (2, .int x)]) hx hb dX1_would_47 rfl hl (by decide) rfl (fun ls hl => ?_)
  refine lv_aload_n hx hb dX1_would_48 rfl (lv_at hl 1 rfl) ?_
  refine x1_gf C hP 3 (by decide) (x := .ref ((rb_t v 0).2.2.2.2 0)) rfl rfl q30 dX1_would_49 ?_
  refine lv_iload_n hx hb dX1_would_52 rfl (lv_at hl 2 rfl) ?_
  refine lv_iload_n hx hb dX1_would_53 rfl (lv_at hl 3 rfl) ?_
  refine x1_st C hP hD hS (k := 0) (i := k) (by decide) (show k < 5 by omega) rfl dX1_would_54 (fun H locs hP hD hS => ?_)
  have hP : va_P D vwCl (rb_w cI o (rb_s (rb_t v 0) 0 k x)) H := hP
  have hD : va_D A (rb_w cI o (rb_s (rb_t v 0) 0 k x)) := hD
  refine lv_aload_n hx hb dX1_would_55 rfl (lv_at hl 1 rfl) ?_
  refine g_ci (wr := []) (cells' := 0) (slots' := 0) rfl rfl C rd_nil hD hS (g_runV (wr := []) (n := 0) C (zX1_all l D t cI o H.size (rb_s (rb_t v 0) 0 k x) hn) (rw_V q340 q341 q342 q5 q343) kd_X1_all ⟨Nat.le_of_ble_eq_true rfl, Nat.le_of_ble_eq_true rfl⟩ (ci := 1) rfl rfl rfl C.2.2.2.2.2.1 hP hD hS hl.1 rfl rfl (Nat.le_of_ble_eq_true rfl) dX1_would_56 ⟨Nat.le_of_ble_eq_true rfl, Nat.le_of_ble_eq_true rfl⟩) (fun r6 w' H locs hv _ _ hP hD hS => ?_)
  obtain ⟨rfl, rfl⟩ := hv
  have hD : va_D A (rb_w cI o (rb_s (rb_t v 0) 0 k x)) := hD
  refine lv_istore (lv' := [(4, .int 0), (3, .int v5), (0, .ref o), (1, .int (nI k)), (2, .int x)]) hx hb dX1_would_59 hl (by decide) rfl (fun ls hl => ?_)
  refine lv_aload_n hx hb dX1_would_61 rfl (lv_at hl 2 rfl) ?_
  refine x1_gf C hP 3 (by decide) (x := .ref ((rb_s (rb_t v 0) 0 k x).2.2.2.2 0)) rfl rfl q30 dX1_would_62 ?_
  refine lv_iload_n hx hb dX1_would_65 rfl (lv_at hl 3 rfl) ?_
  refine lv_iload_n hx hb dX1_would_66 rfl (lv_at hl 1 rfl) ?_
  refine x1_st C hP hD hS (k := 0) (i := k) (by decide) (show k < 5 by omega) rfl dX1_would_67 (fun H locs hP hD hS => ?_)
  have hP : va_P D vwCl (rb_w cI o (rb_s (rb_s (rb_t v 0) 0 k x) 0 k v5)) H := hP
  have hD : va_D A (rb_w cI o (rb_s (rb_s (rb_t v 0) 0 k x) 0 k v5)) := hD
  refine lv_iload hx hb dX1_would_68 (lv_at hl 0 rfl) ?_
  exact g_iret C hrt hP hD hS dX1_would_70 (by subst ev5; exact ⟨rfl, _, rfl, rfl, rfl⟩)
set_option maxHeartbeats 4000000 in
set_option maxRecDepth 100000 in
theorem bX1_would1 (l : Launch) (D : va_G) (t : Nat → Nat) (cI : ClassId) (o : Nat) (sz : Nat) (v : S1) (x0 x : Int32) (h : x0 < 0 ∨ 5 ≤ x0) : gMi l yX1_would (rw_ yX1_would cX1_would 5 (some .int)) (rm_ 2 0 0 42) [.ref o, .int x0, .int x] D [(cI, .int)] t (rb_w cI o v) sz (fun r9 w' => r9 = 0 ∧ w' = rb_w cI o (rb_t (rb_t v 0) 1)) := by
  refine g_of (cc := cX1_would) (nL := 5) (rt := (some .int)) (Q := fun A => va_Qi _ (fun w' U => gQ D A w' U) A) (by decide) (Nat.le_of_ble_eq_true rfl) (fun p e s m args below meth c A ls H C hrt hnm hS hP hD hl => ?_)
  have hx := C.1
  have hb := C.2.1
  have hown := C.2.2.2.1
  have hts := C.2.2.2.2.1
  have hl : lv_has ls 5 [(0, .ref o), (1, .int x0), (2, .int x)] := hl
  refine lv_aload_n hx hb dX1_would_0 rfl (lv_at hl 0 rfl) ?_
  refine lv_iconst (v := 0) hx hb dX1_would_1 (by decide) ?_
  refine x1_pt C hP hD hS q59 dX1_would_2 (fun H locs hP hD hS => ?_)
  have hP : va_P D vwCl (rb_w cI o (rb_t v 0)) H := hP
  have hD : va_D A (rb_w cI o (rb_t v 0)) := hD
  refine lv_iload_n hx hb dX1_would_5 rfl (lv_at hl 1 rfl) ?_
  refine g_ci (wr := []) (cells' := 0) (slots' := 0) rfl rfl C rd_nil hD hS (g_runS (wr := []) (n := 1) (As := [.int x0]) C (mX1_isRate l D t cI o H.size (rb_t v 0) x0) (rw_S q96 q97 q5 q98) kd_X1_isRate ⟨Nat.le_of_ble_eq_true rfl, Nat.le_of_ble_eq_true rfl⟩ C.2.2.2.2.2.1 hP hD hS hl.1 rfl rfl (Nat.le_of_ble_eq_true rfl) dX1_would_6 ⟨Nat.le_of_ble_eq_true rfl, Nat.le_of_ble_eq_true rfl⟩) (fun r1 w' H locs hv _ _ hP hD hS => ?_)
  obtain ⟨rfl, rfl⟩ := hv
  have hD : va_D A (rb_w cI o (rb_t v 0)) := hD
  refine g_top (y := 0) (rb_kN (n := 4) (by decide) h) ?_
  refine lv_if_ne (tgt := 18) hx hb dX1_would_9 (by decide) (fun c2 => absurd c2 (by decide)) (fun c2 => ?_)
  refine lv_aload_n hx hb dX1_would_12 rfl (lv_at hl 0 rfl) ?_
  refine lv_iconst (v := 1) hx hb dX1_would_13 (by decide) ?_
  refine g_ci (wr := []) (cells' := 0) (slots' := 0) rfl rfl C rd_nil hD hS (g_runV (wr := []) (n := 1) C (mX1_fail l D t cI o H.size (rb_t v 0) 1) (rw_V q64 q65 q66 q5 q67) kd_X1_fail ⟨Nat.le_of_ble_eq_true rfl, Nat.le_of_ble_eq_true rfl⟩ (ci := 1) rfl rfl rfl C.2.2.2.2.2.1 hP hD hS hl.1 rfl rfl (Nat.le_of_ble_eq_true rfl) dX1_would_14 ⟨Nat.le_of_ble_eq_true rfl, Nat.le_of_ble_eq_true rfl⟩) (fun r3 w' H locs hv _ _ hP hD hS => ?_)
  obtain ⟨rfl, rfl⟩ := hv
  have hD : va_D A (rb_w cI o (rb_t (rb_t v 0) 1)) := hD
  have hP : va_P D vwCl (rb_w cI o (rb_t (rb_t v 0) 1)) H := hP
  have hD : va_D A (rb_w cI o (rb_t (rb_t v 0) 1)) := hD
  exact g_iret C hrt hP hD hS dX1_would_17 ⟨by skip; rfl, by skip; rfl⟩
set_option maxHeartbeats 4000000 in
set_option maxRecDepth 100000 in
theorem bX1_would2 (l : Launch) (D : va_G) (t : Nat → Nat) (cI : ClassId) (o : Nat) (sz : Nat) (v : S1) (k : Nat) (hk5 : k < 5) (x : Int32) (h : x < rt_RX1_LOW k ∨ rt_RX1_HIGH k < x) : gMi l yX1_would (rw_ yX1_would cX1_would 5 (some .int)) (rm_ 2 0 0 42) [.ref o, .int (nI k), .int x] D [(cI, .int)] t (rb_w cI o v) sz (fun r9 w' => r9 = 0 ∧ w' = rb_w cI o (rb_t (rb_t v 0) 2)) := by
  refine g_of (cc := cX1_would) (nL := 5) (rt := (some .int)) (Q := fun A => va_Qi _ (fun w' U => gQ D A w' U) A) (by decide) (Nat.le_of_ble_eq_true rfl) (fun p e s m args below meth c A ls H C hrt hnm hS hP hD hl => ?_)
  have hx := C.1
  have hb := C.2.1
  have hown := C.2.2.2.1
  have hts := C.2.2.2.2.1
  have hl : lv_has ls 5 [(0, .ref o), (1, .int (nI k)), (2, .int x)] := hl
  refine lv_aload_n hx hb dX1_would_0 rfl (lv_at hl 0 rfl) ?_
  refine lv_iconst (v := 0) hx hb dX1_would_1 (by decide) ?_
  refine x1_pt C hP hD hS q59 dX1_would_2 (fun H locs hP hD hS => ?_)
  have hP : va_P D vwCl (rb_w cI o (rb_t v 0)) H := hP
  have hD : va_D A (rb_w cI o (rb_t v 0)) := hD
  refine lv_iload_n hx hb dX1_would_5 rfl (lv_at hl 1 rfl) ?_
  refine g_ci (wr := []) (cells' := 0) (slots' := 0) rfl rfl C rd_nil hD hS (g_runS (wr := []) (n := 1) (As := [.int (nI k)]) C (mX1_isRate l D t cI o H.size (rb_t v 0) (nI k)) (rw_S q96 q97 q5 q98) kd_X1_isRate ⟨Nat.le_of_ble_eq_true rfl, Nat.le_of_ble_eq_true rfl⟩ C.2.2.2.2.2.1 hP hD hS hl.1 rfl rfl (Nat.le_of_ble_eq_true rfl) dX1_would_6 ⟨Nat.le_of_ble_eq_true rfl, Nat.le_of_ble_eq_true rfl⟩) (fun r1 w' H locs hv _ _ hP hD hS => ?_)
  obtain ⟨rfl, rfl⟩ := hv
  have hD : va_D A (rb_w cI o (rb_t v 0)) := hD
  refine g_top (y := 1) (rb_kY (n := 4) (by decide) hk5) ?_
  refine lv_if_ne (tgt := 18) hx hb dX1_would_9 (by decide) (fun c2 => ?_) (fun c2 => absurd c2 (by decide))
  refine lv_iload_n hx hb dX1_would_18 rfl (lv_at hl 2 rfl) ?_
  refine g_gs C hS (C.2.2.2.2.2.2.2.1.2.2.2.2.2.2.1) q94 dX1_would_19 ?_
  refine lv_iload_n hx hb dX1_would_22 rfl (lv_at hl 1 rfl) ?_
  refine g_ti C hS (N := 5) (i := k) (f := rt_RX1_LOW) C.2.2.2.2.2.2.2.1.2.2.2.2.2.2.2.1 (by decide) hk5 rfl dX1_would_23 ?_
  refine g_gs C hS (C.2.2.2.2.2.2.2.1.2.2.2.2.2.2.2.2.1) q95 dX1_would_24 ?_
  refine lv_iload_n hx hb dX1_would_27 rfl (lv_at hl 1 rfl) ?_
  refine g_ti C hS (N := 5) (i := k) (f := rt_RX1_HIGH) C.2.2.2.2.2.2.2.1.2.2.2.2.2.2.2.2.2.1 (by decide) hk5 rfl dX1_would_28 ?_
  refine g_ci (wr := []) (cells' := 0) (slots' := 0) rfl rfl C rd_nil hD hS (g_runS (wr := []) (n := 3) (As := [.int x, .int (rt_RX1_LOW k), .int (rt_RX1_HIGH k)]) C (mX1_isIn l D t [(cI, .int)] (rb_w cI o (rb_t v 0)) H.size x (rt_RX1_LOW k) (rt_RX1_HIGH k)) (rw_S q61 q62 q5 q63) kd_X1_isIn ⟨Nat.le_of_ble_eq_true rfl, Nat.le_of_ble_eq_true rfl⟩ C.2.2.2.2.2.1 hP hD hS hl.1 rfl rfl (Nat.le_of_ble_eq_true rfl) dX1_would_29 ⟨Nat.le_of_ble_eq_true rfl, Nat.le_of_ble_eq_true rfl⟩) (fun r3 w' H locs hv _ _ hP hD hS => ?_)
  obtain ⟨rfl, rfl⟩ := hv
  have hD : va_D A (rb_w cI o (rb_t v 0)) := hD
  refine g_top (y := 0) (rb_in_0 h) ?_
  refine lv_if_ne (tgt := 41) hx hb dX1_would_32 (by decide) (fun c4 => absurd c4 (by decide)) (fun c4 => ?_)
  refine lv_aload_n hx hb dX1_would_35 rfl (lv_at hl 0 rfl) ?_
  refine lv_iconst (v := 2) hx hb dX1_would_36 (by decide) ?_
  refine g_ci (wr := []) (cells' := 0) (slots' := 0) rfl rfl C rd_nil hD hS (g_runV (wr := []) (n := 1) C (mX1_fail l D t cI o H.size (rb_t v 0) 2) (rw_V q64 q65 q66 q5 q67) kd_X1_fail ⟨Nat.le_of_ble_eq_true rfl, Nat.le_of_ble_eq_true rfl⟩ (ci := 1) rfl rfl rfl C.2.2.2.2.2.1 hP hD hS hl.1 rfl rfl (Nat.le_of_ble_eq_true rfl) dX1_would_37 ⟨Nat.le_of_ble_eq_true rfl, Nat.le_of_ble_eq_true rfl⟩) (fun r5 w' H locs hv _ _ hP hD hS => ?_)
  obtain ⟨rfl, rfl⟩ := hv
  have hD : va_D A (rb_w cI o (rb_t (rb_t v 0) 2)) := hD
  have hP : va_P D vwCl (rb_w cI o (rb_t (rb_t v 0) 2)) H := hP
  have hD : va_D A (rb_w cI o (rb_t (rb_t v 0) 2)) := hD
  exact g_iret C hrt hP hD hS dX1_would_40 ⟨by skip; rfl, by skip; rfl⟩
set_option maxHeartbeats 4000000 in
set_option maxRecDepth 100000 in
theorem zX1_paid (l : Launch) (D : va_G) (t : Nat → Nat) (cI : ClassId) (o : Nat) (sz : Nat) (v : S1) (hn : v.2.1 = 0) : gMi l yX1_paid (rw_ yX1_paid cX1_paid 8 (some .int)) (rm_ 0 0 0 0) [.ref o] D [(cI, .int)] t (rb_w cI o v) sz (fun r9 w' => r9 = 0 ∧ w' = rb_w cI o (v.1, v.2.1, v.2.2.1 + 1, v.2.2.2)) := by
  refine g_of (cc := cX1_paid) (nL := 8) (rt := (some .int)) (Q := fun A => va_Qi _ (fun w' U => gQ D A w' U) A) (by decide) (Nat.le_of_ble_eq_true rfl) (fun p e s m args below meth c A ls H C hrt hnm hS hP hD hl => ?_)
  have hx := C.1
  have hb := C.2.1
  have hown := C.2.2.2.1
  have hts := C.2.2.2.2.1
  have hl : lv_has ls 8 [(0, .ref o)] := hl
  refine lv_iconst (v := 0) hx hb dX1_paid_0 (by decide) ?_
  refine lv_istore_n (lv' := [(1, .int 0), (0, .ref o)]) hx hb dX1_paid_1 rfl hl (by decide) rfl (fun ls hl => ?_)
  refine lv_iconst (v := 0) hx hb dX1_paid_2 (by decide) ?_
  refine lv_istore_n (lv' := [(2, .int 0), (1, .int 0), (0, .ref o)]) hx hb dX1_paid_3 rfl hl (by decide) rfl (fun ls hl => ?_)
  refine lv_iload_n hx hb dX1_paid_4 rfl (lv_at hl 0 rfl) ?_
  refine lv_aload_n hx hb dX1_paid_5 rfl (lv_at hl 2 rfl) ?_
  refine x1_gf C hP 1 (by decide) (x := .int (nI v.2.1)) rfl rfl q60 dX1_paid_6 ?_
  refine lv_icmp_ge (tgt := 203) hx hb dX1_paid_9 (by decide) (fun c1 => ?_) (fun c1 => absurd ((nI_leI (a := v.2.1) (b := 0) (by omega) (by omega)).mpr (by omega)) c1)
  refine lv_aload_n hx hb dX1_paid_203 rfl (lv_at hl 2 rfl) ?_
  refine lv_dup hx hb dX1_paid_204 rfl ?_
  refine x1_gf C hP 2 (by decide) (x := .int v.2.2.1) rfl rfl q217 dX1_paid_205 ?_
  refine lv_iconst (v := 1) hx hb dX1_paid_208 (by decide) ?_
  refine lv_iadd hx hb dX1_paid_209 ?_
  refine x1_pw C hP hD hS q217 dX1_paid_210 (fun H locs hP hD hS => ?_)
  obtain ⟨s2, es2⟩ : ∃ z : S1, z = (v.1, v.2.1, v.2.2.1 + 1, v.2.2.2) := ⟨_, rfl⟩
  have hP : va_P D vwCl (rb_w cI o s2) H := by rw [es2]; exact hP
  have hD : va_D A (rb_w cI o s2) := by rw [es2]; exact hD
  refine lv_iload_n hx hb dX1_paid_213 rfl (lv_at hl 1 rfl) ?_
  exact g_iret C hrt hP hD hS dX1_paid_214 ⟨by subst es2; rfl, by subst es2; rfl⟩
theorem kd_X1_pay : yX1_pay.cls = yX1_pay.cls ∧ yX1_pay.cls ≠ "java/lang/invoke/MethodHandle" ∧ yX1_pay.cls ≠ "java/lang/invoke/VarHandle" ∧ (parseMethodDescriptor yX1_pay.desc).map (fun d => d.parameters.length) = some 0 := by decide +kernel
set_option maxHeartbeats 4000000 in
set_option maxRecDepth 100000 in
theorem zX1_pay (l : Launch) (D : va_G) (t : Nat → Nat) (cI : ClassId) (o : Nat) (sz : Nat) (v : S1) (hn : v.2.1 = 0) : gMi l yX1_pay (rw_ yX1_pay cX1_pay 1 (some .int)) (rm_ 1 0 0 27) [.ref o] D [(cI, .int)] t (rb_w cI o v) sz (fun r9 w' => r9 = 0 ∧ ∃ v', w' = rb_w cI o v') := by
  refine g_of (cc := cX1_pay) (nL := 1) (rt := (some .int)) (Q := fun A => va_Qi _ (fun w' U => gQ D A w' U) A) (by decide) (Nat.le_of_ble_eq_true rfl) (fun p e s m args below meth c A ls H C hrt hnm hS hP hD hl => ?_)
  have hx := C.1
  have hb := C.2.1
  have hown := C.2.2.2.1
  have hts := C.2.2.2.2.1
  have hl : lv_has ls 1 [(0, .ref o)] := hl
  refine lv_aload_n hx hb dX1_pay_0 rfl (lv_at hl 0 rfl) ?_
  refine lv_iconst (v := 0) hx hb dX1_pay_1 (by decide) ?_
  refine x1_pt C hP hD hS q59 dX1_pay_2 (fun H locs hP hD hS => ?_)
  have hP : va_P D vwCl (rb_w cI o (rb_t v 0)) H := hP
  have hD : va_D A (rb_w cI o (rb_t v 0)) := hD
  refine lv_aload_n hx hb dX1_pay_5 rfl (lv_at hl 0 rfl) ?_
  refine g_ci (wr := []) (cells' := 0) (slots' := 0) rfl rfl C rd_nil hD hS (g_runV (wr := []) (n := 0) C (zX1_paid l D t cI o H.size (rb_t v 0) hn) (rw_V q207 q208 q209 q5 q210) kd_X1_paid ⟨Nat.le_of_ble_eq_true rfl, Nat.le_of_ble_eq_true rfl⟩ (ci := 1) rfl rfl rfl C.2.2.2.2.2.1 hP hD hS hl.1 rfl rfl (Nat.le_of_ble_eq_true rfl) dX1_pay_6 ⟨Nat.le_of_ble_eq_true rfl, Nat.le_of_ble_eq_true rfl⟩) (fun r1 w' H locs hv _ _ hP hD hS => ?_)
  obtain ⟨rfl, rfl⟩ := hv
  have hD : va_D A (rb_w cI o ((rb_t v 0).1, v.2.1, (rb_t v 0).2.2.1 + 1, (rb_t v 0).2.2.2)) := hD
  obtain ⟨s2, es2⟩ : ∃ z : S1, z = ((rb_t v 0).1, v.2.1, (rb_t v 0).2.2.1 + 1, (rb_t v 0).2.2.2) := ⟨_, rfl⟩
  have hP : va_P D vwCl (rb_w cI o s2) H := by rw [es2]; exact hP
  have hD : va_D A (rb_w cI o s2) := by rw [es2]; exact hD
  exact g_iret C hrt hP hD hS dX1_pay_9 (by subst es2; exact ⟨rfl, _, rfl⟩)
theorem kd_X1_mean : yX1_mean.cls = yX1_mean.cls ∧ yX1_mean.cls ≠ "java/lang/invoke/MethodHandle" ∧ yX1_mean.cls ≠ "java/lang/invoke/VarHandle" ∧ (parseMethodDescriptor yX1_mean.desc).map (fun d => d.parameters.length) = some 0 := by decide +kernel
set_option maxHeartbeats 4000000 in
set_option maxRecDepth 100000 in
theorem zX1_mean (l : Launch) (D : va_G) (t : Nat → Nat) (cI : ClassId) (o : Nat) (sz : Nat) (v : S1) (hn : v.2.1 = 0) : gMd l yX1_mean (rw_ yX1_mean cX1_mean 1 (some .double)) (rm_ 0 0 0 0) [.ref o] D [(cI, .int)] t (rb_w cI o v) sz (fun r9 w' => r9 = 0 ∧ w' = rb_w cI o (rb_t v 0)) := by
  refine g_of (cc := cX1_mean) (nL := 1) (rt := (some .double)) (Q := fun A => va_Qd _ (fun w' U => gQ D A w' U) A) (by decide) (Nat.le_of_ble_eq_true rfl) (fun p e s m args below meth c A ls H C hrt hnm hS hP hD hl => ?_)
  have hx := C.1
  have hb := C.2.1
  have hown := C.2.2.2.1
  have hts := C.2.2.2.2.1
  have hl : lv_has ls 1 [(0, .ref o)] := hl
  refine lv_aload_n hx hb dX1_mean_0 rfl (lv_at hl 0 rfl) ?_
  refine lv_iconst (v := 0) hx hb dX1_mean_1 (by decide) ?_
  refine x1_pt C hP hD hS q59 dX1_mean_2 (fun H locs hP hD hS => ?_)
  have hP : va_P D vwCl (rb_w cI o (rb_t v 0)) H := hP
  have hD : va_D A (rb_w cI o (rb_t v 0)) := hD
  refine lv_aload_n hx hb dX1_mean_5 rfl (lv_at hl 0 rfl) ?_
  refine x1_gf C hP 1 (by decide) (x := .int (nI v.2.1)) rfl rfl q60 dX1_mean_6 ?_
  refine lv_if_ne (tgt := 16) hx hb dX1_mean_9 (by decide) (fun c1 => absurd ((nI_eq (a := v.2.1) (b := 0) (by omega) (by omega)).mpr (by omega)) c1) (fun c1 => ?_)
  refine lv_dconst0 hx hb dX1_mean_12 ?_
  refine lv_goto (tgt := 27) hx hb dX1_mean_13 (by decide) ?_
  exact g_dret C hrt hP hD hS dX1_mean_27 ⟨by skip; rfl, by skip; rfl⟩
theorem kd_X1_advise : yX1_advise.cls = yX1_advise.cls ∧ yX1_advise.cls ≠ "java/lang/invoke/MethodHandle" ∧ yX1_advise.cls ≠ "java/lang/invoke/VarHandle" ∧ (parseMethodDescriptor yX1_advise.desc).map (fun d => d.parameters.length) = some 0 := by decide +kernel
set_option maxHeartbeats 4000000 in
set_option maxRecDepth 100000 in
theorem lpzX1_advise {p : Program} {l : Launch} {e : Env} {s : State} {m : MethodId} {args : Array Value} {below : List Frame} {meth : Method} {c : Code} {Q : State → Prop} {D : va_G} {t : Nat → Nat} {A : Nat → Prop} {cI : ClassId} {o : Nat} {v : S1} (C : gC p s m args meth c cX1_advise 5 RX1 D [(cI, .int)] t A) (kk : ∀ (H : Heap) (locs : List Loc) (ls : Array Slot), va_P D vwCl (rb_w cI o v) H → va_D A (rb_w cI o v) → va_S A s.heap H locs → lv_has ls 5 [(0, .ref o), (1, .int 0), (2, .int 0), (3, .int 1), (4, .int (nI (98 + 2)))] → W p l e (rm_ 1 0 0 21) s m args below meth c H locs 0 0 Q (F0 m 85 ls [])) :
    ∀ (n i : Nat), i + n = 98 → ∀ (H : Heap) (locs : List Loc) (ls : Array Slot), va_P D vwCl (rb_w cI o v) H → va_D A (rb_w cI o v) → va_S A s.heap H locs → lv_has ls 5 [(0, .ref o), (1, .int 0), (2, .int 0), (3, .int 1), (4, .int (nI (i + 2)))] → W p l e (rm_ 1 0 0 21) s m args below meth c H locs 0 0 Q (F0 m 46 ls []) := by
  have hx := C.1
  have hb := C.2.1
  have hown := C.2.2.2.1
  have hts := C.2.2.2.2.1
  intro n
  induction n with
  | zero =>
    intro i  hi H locs ls hP hD hS hl
    have hiN : i = 98 := by omega
    refine lv_iload hx hb dX1_advise_46 (lv_at hl 4 rfl) ?_
    refine g_gs C hS (C.2.2.2.2.2.2.2.1.2.2.2.2.2.2.2.2.1) q95 dX1_advise_48 ?_
    refine lv_iconst (v := 1) hx hb dX1_advise_51 (by decide) ?_
    refine g_ti C hS (N := 5) (i := 1) (f := rt_RX1_HIGH) C.2.2.2.2.2.2.2.1.2.2.2.2.2.2.2.2.2.1 (by decide) (by decide) rfl dX1_advise_52 ?_
    refine lv_icmp_gt (tgt := 85) hx hb dX1_advise_53 (by decide) (fun c1 => ?_) (fun c1 => absurd ((nI_ltI (a := 99) (b := i + 2) (by omega) (by omega)).mpr (by omega)) c1)
    subst hiN
    exact kk  _ _ _ hP hD hS (lv_sub hl [0, 1, 2, 3, 4] rfl)
  | succ n ih =>
    intro i  hi H locs ls hP hD hS hl
    have hin : i < 98 := by omega
    refine lv_iload hx hb dX1_advise_46 (lv_at hl 4 rfl) ?_
    refine g_gs C hS (C.2.2.2.2.2.2.2.1.2.2.2.2.2.2.2.2.1) q95 dX1_advise_48 ?_
    refine lv_iconst (v := 1) hx hb dX1_advise_51 (by decide) ?_
    refine g_ti C hS (N := 5) (i := 1) (f := rt_RX1_HIGH) C.2.2.2.2.2.2.2.1.2.2.2.2.2.2.2.2.2.1 (by decide) (by decide) rfl dX1_advise_52 ?_
    refine lv_icmp_gt (tgt := 85) hx hb dX1_advise_53 (by decide) (fun c1 => absurd c1 (fun h9 => absurd ((nI_ltI (a := 99) (b := i + 2) (by omega) (by omega)).mp h9) (by omega))) (fun c1 => ?_)
    refine lv_iload hx hb dX1_advise_56 (lv_at hl 4 rfl) ?_
    refine lv_iload_n hx hb dX1_advise_58 rfl (lv_at hl 2 rfl) ?_
    refine lv_imul hx hb dX1_advise_59 ?_
    refine lv_iload_n hx hb dX1_advise_60 rfl (lv_at hl 1 rfl) ?_
    refine lv_isub hx hb dX1_advise_61 ?_
    refine g_abs C q400 q401 q173 q402 hl.1 (Nat.le_of_ble_eq_true rfl) (Nat.le_of_ble_eq_true rfl) (Nat.le_of_ble_eq_true rfl) (Nat.le_of_ble_eq_true rfl) dX1_advise_62 ?_
    refine lv_iload_n hx hb dX1_advise_65 rfl (lv_at hl 3 rfl) ?_
    refine lv_iload_n hx hb dX1_advise_66 rfl (lv_at hl 2 rfl) ?_
    refine lv_imul hx hb dX1_advise_67 ?_
    refine lv_iload_n hx hb dX1_advise_68 rfl (lv_at hl 1 rfl) ?_
    refine lv_isub hx hb dX1_advise_69 ?_
    refine g_abs C q400 q401 q173 q402 hl.1 (Nat.le_of_ble_eq_true rfl) (Nat.le_of_ble_eq_true rfl) (Nat.le_of_ble_eq_true rfl) (Nat.le_of_ble_eq_true rfl) dX1_advise_70 ?_
    refine lv_icmp_ge (tgt := 79) hx hb dX1_advise_73 (by decide) (fun c2 => ?_) (fun c2 => absurd (rb_ab _) c2)
    refine lv_iinc (v := nI (i + 2 + 1)) (lv' := [(4, .int (nI (i + 2 + 1))), (0, .ref o), (1, .int 0), (2, .int 0), (3, .int 1)]) hx hb dX1_advise_79 hl (k := 4) rfl (nI_1 _) (by decide) rfl (fun ls hl => ?_)
    refine lv_goto (tgt := 46) hx hb dX1_advise_82 (by decide) ?_
    exact ih (i + 1)  (by omega) _ _ _ hP hD hS (lv_sub hl [1, 2, 3, 4, 0] rfl)
set_option maxHeartbeats 4000000 in
set_option maxRecDepth 100000 in
theorem zX1_advise (l : Launch) (D : va_G) (t : Nat → Nat) (cI : ClassId) (o : Nat) (sz : Nat) (v : S1) (hn : v.2.1 = 0) : gMi l yX1_advise (rw_ yX1_advise cX1_advise 5 (some .int)) (rm_ 1 0 0 21) [.ref o] D [(cI, .int)] t (rb_w cI o v) sz (fun r9 w' => r9 = 1 ∧ w' = rb_w cI o (rb_t v 0)) := by
  refine g_of (cc := cX1_advise) (nL := 5) (rt := (some .int)) (Q := fun A => va_Qi _ (fun w' U => gQ D A w' U) A) (by decide) (Nat.le_of_ble_eq_true rfl) (fun p e s m args below meth c A ls H C hrt hnm hS hP hD hl => ?_)
  have hx := C.1
  have hb := C.2.1
  have hown := C.2.2.2.1
  have hts := C.2.2.2.2.1
  have hl : lv_has ls 5 [(0, .ref o)] := hl
  refine lv_aload_n hx hb dX1_advise_0 rfl (lv_at hl 0 rfl) ?_
  refine lv_iconst (v := 0) hx hb dX1_advise_1 (by decide) ?_
  refine x1_pt C hP hD hS q59 dX1_advise_2 (fun H locs hP hD hS => ?_)
  have hP : va_P D vwCl (rb_w cI o (rb_t v 0)) H := hP
  have hD : va_D A (rb_w cI o (rb_t v 0)) := hD
  refine lv_iconst (v := 0) hx hb dX1_advise_5 (by decide) ?_
  refine lv_istore_n (lv' := [(1, .int 0), (0, .ref o)]) hx hb dX1_advise_6 rfl hl (by decide) rfl (fun ls hl => ?_)
  refine lv_iconst (v := 0) hx hb dX1_advise_7 (by decide) ?_
  refine lv_istore_n (lv' := [(2, .int 0), (1, .int 0), (0, .ref o)]) hx hb dX1_advise_8 rfl hl (by decide) rfl (fun ls hl => ?_)
  refine lv_iconst (v := 0) hx hb dX1_advise_9 (by decide) ?_
  refine lv_istore_n (lv' := [(3, .int 0), (2, .int 0), (1, .int 0), (0, .ref o)]) hx hb dX1_advise_10 rfl hl (by decide) rfl (fun ls hl => ?_)
  refine lv_iload_n hx hb dX1_advise_11 rfl (lv_at hl 0 rfl) ?_
  refine lv_aload_n hx hb dX1_advise_12 rfl (lv_at hl 3 rfl) ?_
  refine x1_gf C hP 1 (by decide) (x := .int (nI v.2.1)) rfl rfl q60 dX1_advise_13 ?_
  refine lv_icmp_ge (tgt := 41) hx hb dX1_advise_16 (by decide) (fun c1 => ?_) (fun c1 => absurd ((nI_leI (a := v.2.1) (b := 0) (by omega) (by omega)).mpr (by omega)) c1)
  refine lv_iconst (v := 1) hx hb dX1_advise_41 (by decide) ?_
  refine lv_istore_n (lv' := [(3, .int 1), (2, .int 0), (1, .int 0), (0, .ref o)]) hx hb dX1_advise_42 rfl hl (by decide) rfl (fun ls hl => ?_)
  refine lv_iconst (v := 2) hx hb dX1_advise_43 (by decide) ?_
  refine lv_istore (lv' := [(4, .int 2), (3, .int 1), (2, .int 0), (1, .int 0), (0, .ref o)]) hx hb dX1_advise_44 hl (by decide) rfl (fun ls hl => ?_)
  refine lpzX1_advise (v := (rb_t v 0)) C (fun H locs ls hP hD hS hl => ?_) 98 0 (by omega) _ _ _ hP hD hS (lv_sub hl [4, 3, 2, 1, 0] rfl)
  refine lv_iload_n hx hb dX1_advise_85 rfl (lv_at hl 3 rfl) ?_
  exact g_iret C hrt hP hD hS dX1_advise_86 ⟨rfl, rfl⟩
theorem kd_X1_lacks : yX1_lacks.cls = yX1_lacks.cls ∧ yX1_lacks.cls ≠ "java/lang/invoke/MethodHandle" ∧ yX1_lacks.cls ≠ "java/lang/invoke/VarHandle" ∧ (parseMethodDescriptor yX1_lacks.desc).map (fun d => d.parameters.length) = some 0 := by decide +kernel
set_option maxHeartbeats 4000000 in
set_option maxRecDepth 100000 in
theorem zX1_lacks (l : Launch) (D : va_G) (t : Nat → Nat) (cI : ClassId) (o : Nat) (sz : Nat) (v : S1) (hn : v.2.1 = 0) (hp : ¬ v.1 0 4 = 0) : gMi l yX1_lacks (rw_ yX1_lacks cX1_lacks 5 (some .int)) (rm_ 8 10 115 177) [.ref o] D [(cI, .int)] t (rb_w cI o v) sz (fun r9 w' => r9 = rf_max 0 (0 - v.1 1 2) ∧ ∃ v', w' = rb_w cI o v') := by
  refine g_of (cc := cX1_lacks) (nL := 5) (rt := (some .int)) (Q := fun A => va_Qi _ (fun w' U => gQ D A w' U) A) (by decide) (Nat.le_of_ble_eq_true rfl) (fun p e s m args below meth c A ls H C hrt hnm hS hP hD hl => ?_)
  have hx := C.1
  have hb := C.2.1
  have hown := C.2.2.2.1
  have hts := C.2.2.2.2.1
  have hl : lv_has ls 5 [(0, .ref o)] := hl
  refine lv_aload_n hx hb dX1_lacks_0 rfl (lv_at hl 0 rfl) ?_
  refine lv_iconst (v := 0) hx hb dX1_lacks_1 (by decide) ?_
  refine x1_pt C hP hD hS q59 dX1_lacks_2 (fun H locs hP hD hS => ?_)
  have hP : va_P D vwCl (rb_w cI o (rb_t v 0)) H := hP
  have hD : va_D A (rb_w cI o (rb_t v 0)) := hD
  refine lv_aload_n hx hb dX1_lacks_5 rfl (lv_at hl 0 rfl) ?_
  refine x1_gf C hP 4 (by decide) (x := .ref ((rb_t v 0).2.2.2.2 1)) rfl rfl q31 dX1_lacks_6 ?_
  refine lv_iconst (v := 2) hx hb dX1_lacks_9 (by decide) ?_
  refine x1_ld C hP (k := 1) (i := 2) (by decide) (by decide) rfl dX1_lacks_10 ?_
  refine lv_topi (fun v1 ev1 => ?_)
  refine lv_istore_n (lv' := [(1, .int v1), (0, .ref o)]) hx hb dX1_lacks_11 rfl hl (by decide) rfl (fun ls hl => ?_)
  refine lv_iconst (v := 0) hx hb dX1_lacks_12 (by decide) ?_
  refine lv_istore_n (lv' := [(2, .int 0), (1, .int v1), (0, .ref o)]) hx hb dX1_lacks_13 rfl hl (by decide) rfl (fun ls hl => ?_)
  refine lv_iconst (v := 0) hx hb dX1_lacks_14 (by decide) ?_
  refine lv_istore_n (lv' := [(3, .int 0), (2, .int 0), (1, .int v1), (0, .ref o)]) hx hb dX1_lacks_15 rfl hl (by decide) rfl (fun ls hl => ?_)
  refine lv_iload_n hx hb dX1_lacks_16 rfl (lv_at hl 0 rfl) ?_
  refine lv_aload_n hx hb dX1_lacks_17 rfl (lv_at hl 3 rfl) ?_
  refine x1_gf C hP 1 (by decide) (x := .int (nI v.2.1)) rfl rfl q60 dX1_lacks_18 ?_
  refine lv_icmp_ge (tgt := 44) hx hb dX1_lacks_21 (by decide) (fun c2 => ?_) (fun c2 => absurd ((nI_leI (a := v.2.1) (b := 0) (by omega) (by omega)).mpr (by omega)) c2)
  refine lv_aload_n hx hb dX1_lacks_44 rfl (lv_at hl 3 rfl) ?_
  refine x1_gf C hP 4 (by decide) (x := .ref ((rb_t v 0).2.2.2.2 1)) rfl rfl q31 dX1_lacks_45 ?_
  refine lv_iconst (v := 2) hx hb dX1_lacks_48 (by decide) ?_
  refine lv_iload_n hx hb dX1_lacks_49 rfl (lv_at hl 2 rfl) ?_
  refine lv_iload_n hx hb dX1_lacks_50 rfl (lv_at hl 1 rfl) ?_
  refine lv_iadd hx hb dX1_lacks_51 ?_
  refine x1_st C hP hD hS (k := 1) (i := 2) (by decide) (by decide) rfl dX1_lacks_52 (fun H locs hP hD hS => ?_)
  have hP : va_P D vwCl (rb_w cI o (rb_s (rb_t v 0) 1 2 (v1 + 0))) H := hP
  have hD : va_D A (rb_w cI o (rb_s (rb_t v 0) 1 2 (v1 + 0))) := hD
  refine lv_aload_n hx hb dX1_lacks_53 rfl (lv_at hl 3 rfl) ?_
  refine g_cv (wr := []) (cells' := 10) (slots' := 115) rfl rfl C rd_nil hD hS (g_runV (wr := []) (n := 0) C (mX1_look l D t cI o H.size (rb_s (rb_t v 0) 1 2 (v1 + 0)) (show v.2.1 ≤ 8 by omega) hp) (rw_V q302 q303 q304 q5 q305) kd_X1_look ⟨Nat.le_of_ble_eq_true rfl, Nat.le_of_ble_eq_true rfl⟩ (ci := 1) rfl rfl rfl C.2.2.2.2.2.1 hP hD hS hl.1 rfl rfl (Nat.le_of_ble_eq_true rfl) dX1_lacks_54 ⟨Nat.le_of_ble_eq_true rfl, Nat.le_of_ble_eq_true rfl⟩) (fun w' H locs hv _ _ hP hD hS => ?_)
  obtain ⟨y4, hLy4, rfl⟩ := hv
  have hD : va_D A (rb_w cI o y4) := hD
  have hn9 : y4.2.1 = 0 := (hLy4.1).trans hn
  refine lv_aload_n hx hb dX1_lacks_57 rfl (lv_at hl 3 rfl) ?_
  refine x1_gf C hP 4 (by decide) (x := .ref (y4.2.2.2.2 1)) rfl rfl q31 dX1_lacks_58 ?_
  refine lv_iconst (v := 2) hx hb dX1_lacks_61 (by decide) ?_
  refine lv_iload_n hx hb dX1_lacks_62 rfl (lv_at hl 2 rfl) ?_
  refine x1_st C hP hD hS (k := 1) (i := 2) (by decide) (by decide) rfl dX1_lacks_63 (fun H locs hP hD hS => ?_)
  have hP : va_P D vwCl (rb_w cI o (rb_s y4 1 2 v1)) H := hP
  have hD : va_D A (rb_w cI o (rb_s y4 1 2 v1)) := hD
  refine lv_iconst (v := 0) hx hb dX1_lacks_64 (by decide) ?_
  refine lv_istore_n (lv' := [(3, .int 0), (2, .int 0), (1, .int v1), (0, .ref o)]) hx hb dX1_lacks_65 rfl hl (by decide) rfl (fun ls hl => ?_)
  refine lv_iconst (v := 0) hx hb dX1_lacks_66 (by decide) ?_
  refine lv_istore (lv' := [(4, .int 0), (3, .int 0), (2, .int 0), (1, .int v1), (0, .ref o)]) hx hb dX1_lacks_67 hl (by decide) rfl (fun ls hl => ?_)
  refine lv_iload hx hb dX1_lacks_69 (lv_at hl 0 rfl) ?_
  refine lv_aload_n hx hb dX1_lacks_71 rfl (lv_at hl 4 rfl) ?_
  refine x1_gf C hP 1 (by decide) (x := .int (nI y4.2.1)) rfl rfl q60 dX1_lacks_72 ?_
  refine lv_icmp_ge (tgt := 98) hx hb dX1_lacks_75 (by decide) (fun c5 => ?_) (fun c5 => absurd ((nI_leI (a := y4.2.1) (b := 0) (by omega) (by omega)).mpr (by omega)) c5)
  refine lv_iconst (v := 0) hx hb dX1_lacks_98 (by decide) ?_
  refine lv_iload_n hx hb dX1_lacks_99 rfl (lv_at hl 1 rfl) ?_
  refine lv_iload_n hx hb dX1_lacks_100 rfl (lv_at hl 3 rfl) ?_
  refine lv_isub hx hb dX1_lacks_101 ?_
  refine g_max C q230 q172 q173 q174 hl.1 (Nat.le_of_ble_eq_true rfl) (Nat.le_of_ble_eq_true rfl) (Nat.le_of_ble_eq_true rfl) (Nat.le_of_ble_eq_true rfl) dX1_lacks_102 ?_
  exact g_iret C hrt hP hD hS dX1_lacks_105 (by subst ev1; exact ⟨rfl, _, rfl⟩)
theorem kd_X1_digest : yX1_digest.cls = yX1_digest.cls ∧ yX1_digest.cls ≠ "java/lang/invoke/MethodHandle" ∧ yX1_digest.cls ≠ "java/lang/invoke/VarHandle" ∧ (parseMethodDescriptor yX1_digest.desc).map (fun d => d.parameters.length) = some 0 := by decide +kernel
set_option maxHeartbeats 4000000 in
set_option maxRecDepth 100000 in
theorem lpzX1_dg1 {p : Program} {l : Launch} {e : Env} {s : State} {m : MethodId} {args : Array Value} {below : List Frame} {meth : Method} {c : Code} {Q : State → Prop} {D : va_G} {t : Nat → Nat} {A : Nat → Prop} {cI : ClassId} {o : Nat} {v : S1} {d : Int64} (C : gC p s m args meth c cX1_digest 7 RX1 D [(cI, .int)] t A) (hn : v.2.1 = 0) (kk : ∀ (H : Heap) (locs : List Loc) (ls : Array Slot), va_P D vwCl (rb_w cI o v) H → va_D A (rb_w cI o v) → va_S A s.heap H locs → lv_has ls 7 [(0, .ref o), (1, .long (rf_dg (rb_cnt v) d 7)), (3, .int (nI 7))] → W p l e (rm_ 8 10 115 177) s m args below meth c H locs 0 0 Q (F0 m 36 ls [])) :
    ∀ (n i : Nat), i + n = 7 → ∀ (H : Heap) (locs : List Loc) (ls : Array Slot), va_P D vwCl (rb_w cI o v) H → va_D A (rb_w cI o v) → va_S A s.heap H locs → lv_has ls 7 [(0, .ref o), (1, .long (rf_dg (rb_cnt v) d i)), (3, .int (nI i))] → W p l e (rm_ 8 10 115 177) s m args below meth c H locs 0 0 Q (F0 m 11 ls []) := by
  have hx := C.1
  have hb := C.2.1
  have hown := C.2.2.2.1
  have hts := C.2.2.2.2.1
  intro n
  induction n with
  | zero =>
    intro i  hi H locs ls hP hD hS hl
    have hiN : i = 7 := by omega
    refine lv_iload_n hx hb dX1_digest_11 rfl (lv_at hl 2 rfl) ?_
    refine lv_bipush (v := 7) hx hb dX1_digest_12 (by decide) ?_
    refine lv_icmp_ge (tgt := 36) hx hb dX1_digest_14 (by decide) (fun c1 => ?_) (fun c1 => absurd ((nI_leI (a := 7) (b := i) (by omega) (by omega)).mpr (by omega)) c1)
    subst hiN
    exact kk  _ _ _ hP hD hS (lv_sub hl [0, 1, 2] rfl)
  | succ n ih =>
    intro i  hi H locs ls hP hD hS hl
    have hin : i < 7 := by omega
    refine lv_iload_n hx hb dX1_digest_11 rfl (lv_at hl 2 rfl) ?_
    refine lv_bipush (v := 7) hx hb dX1_digest_12 (by decide) ?_
    refine lv_icmp_ge (tgt := 36) hx hb dX1_digest_14 (by decide) (fun c1 => absurd c1 (fun h9 => absurd ((nI_leI (a := 7) (b := i) (by omega) (by omega)).mp h9) (by omega))) (fun c1 => ?_)
    refine lv_lload_n hx hb dX1_digest_17 rfl (lv_at hl 1 rfl) ?_
    refine lv_ldc2 (v := 31) hx hb hown (hts _ q426) dX1_digest_18 ?_
    refine lv_lmul hx hb dX1_digest_21 ?_
    refine lv_aload_n hx hb dX1_digest_22 rfl (lv_at hl 0 rfl) ?_
    refine lv_iload_n hx hb dX1_digest_23 rfl (lv_at hl 2 rfl) ?_
    refine g_ci (wr := []) (cells' := 0) (slots' := 0) rfl rfl C rd_nil hD hS (g_runV (wr := []) (n := 1) C (zX1_counted l D t cI o H.size v hn i (by omega)) (rw_V q332 q333 q334 q5 q335) kd_X1_counted ⟨Nat.le_of_ble_eq_true rfl, Nat.le_of_ble_eq_true rfl⟩ (ci := 1) rfl rfl rfl C.2.2.2.2.2.1 hP hD hS hl.1 rfl rfl (Nat.le_of_ble_eq_true rfl) dX1_digest_24 ⟨Nat.le_of_ble_eq_true rfl, Nat.le_of_ble_eq_true rfl⟩) (fun r2 w' H locs hv _ _ hP hD hS => ?_)
    obtain ⟨rfl, rfl⟩ := hv
    have hD : va_D A (rb_w cI o v) := hD
    refine lv_i2l hx hb dX1_digest_27 rfl ?_
    refine lv_ladd hx hb dX1_digest_28 ?_
    refine lv_topl (fun v3 ev3 => ?_)
    refine lv_lstore_n (lv' := [(1, .long v3), (0, .ref o), (3, .int (nI i))]) hx hb dX1_digest_29 rfl hl (by decide) rfl (fun ls hl => ?_)
    refine lv_iinc (v := nI (i + 1)) (lv' := [(3, .int (nI (i + 1))), (1, .long v3), (0, .ref o)]) hx hb dX1_digest_30 hl (k := 2) rfl (nI_1 _) (by decide) rfl (fun ls hl => ?_)
    refine lv_goto (tgt := 11) hx hb dX1_digest_33 (by decide) ?_
    subst ev3
    exact ih (i + 1)  (by omega) _ _ _ hP hD hS (lv_sub hl [2, 1, 0] rfl)
set_option maxHeartbeats 4000000 in
set_option maxRecDepth 100000 in
theorem lpzX1_dg2 {p : Program} {l : Launch} {e : Env} {s : State} {m : MethodId} {args : Array Value} {below : List Frame} {meth : Method} {c : Code} {Q : State → Prop} {D : va_G} {t : Nat → Nat} {A : Nat → Prop} {cI : ClassId} {o : Nat} {v : S1} {d : Int64} (C : gC p s m args meth c cX1_digest 7 RX1 D [(cI, .int)] t A) (kk : ∀ (H : Heap) (locs : List Loc) (ls : Array Slot), va_P D vwCl (rb_w cI o v) H → va_D A (rb_w cI o v) → va_S A s.heap H locs → lv_has ls 7 [(0, .ref o), (1, .long (rf_dg (v.1 0) d 5)), (3, .ref (v.2.2.2.2 0)), (4, .int (nI 5)), (5, .int (nI 5))] → W p l e (rm_ 8 10 115 177) s m args below meth c H locs 0 0 Q (F0 m 77 ls [])) :
    ∀ (n i : Nat), i + n = 5 → ∀ (H : Heap) (locs : List Loc) (ls : Array Slot), va_P D vwCl (rb_w cI o v) H → va_D A (rb_w cI o v) → va_S A s.heap H locs → lv_has ls 7 [(0, .ref o), (1, .long (rf_dg (v.1 0) d i)), (3, .ref (v.2.2.2.2 0)), (4, .int (nI 5)), (5, .int (nI i))] → W p l e (rm_ 8 10 115 177) s m args below meth c H locs 0 0 Q (F0 m 48 ls []) := by
  have hx := C.1
  have hb := C.2.1
  have hown := C.2.2.2.1
  have hts := C.2.2.2.2.1
  intro n
  induction n with
  | zero =>
    intro i  hi H locs ls hP hD hS hl
    have hiN : i = 5 := by omega
    refine lv_iload hx hb dX1_digest_48 (lv_at hl 4 rfl) ?_
    refine lv_iload hx hb dX1_digest_50 (lv_at hl 3 rfl) ?_
    refine lv_icmp_ge (tgt := 77) hx hb dX1_digest_52 (by decide) (fun c1 => ?_) (fun c1 => absurd ((nI_leI (a := 5) (b := i) (by omega) (by omega)).mpr (by omega)) c1)
    subst hiN
    exact kk  _ _ _ hP hD hS (lv_sub hl [0, 1, 2, 3, 4] rfl)
  | succ n ih =>
    intro i  hi H locs ls hP hD hS hl
    have hin : i < 5 := by omega
    refine lv_iload hx hb dX1_digest_48 (lv_at hl 4 rfl) ?_
    refine lv_iload hx hb dX1_digest_50 (lv_at hl 3 rfl) ?_
    refine lv_icmp_ge (tgt := 77) hx hb dX1_digest_52 (by decide) (fun c1 => absurd c1 (fun h9 => absurd ((nI_leI (a := 5) (b := i) (by omega) (by omega)).mp h9) (by omega))) (fun c1 => ?_)
    refine lv_aload_n hx hb dX1_digest_55 rfl (lv_at hl 2 rfl) ?_
    refine lv_iload hx hb dX1_digest_56 (lv_at hl 4 rfl) ?_
    refine x1_ld C hP (k := 0) (i := i) (by decide) hin rfl dX1_digest_58 ?_
    refine lv_topi (fun v2 ev2 => ?_)
    refine lv_istore (lv' := [(6, .int v2), (0, .ref o), (1, .long (rf_dg (v.1 0) d i)), (3, .ref (v.2.2.2.2 0)), (4, .int (nI 5)), (5, .int (nI i))]) hx hb dX1_digest_59 hl (by decide) rfl (fun ls hl => ?_)
    refine lv_lload_n hx hb dX1_digest_61 rfl (lv_at hl 2 rfl) ?_
    refine lv_ldc2 (v := 31) hx hb hown (hts _ q426) dX1_digest_62 ?_
    refine lv_lmul hx hb dX1_digest_65 ?_
    refine lv_iload hx hb dX1_digest_66 (lv_at hl 0 rfl) ?_
    refine lv_i2l hx hb dX1_digest_68 rfl ?_
    refine lv_ladd hx hb dX1_digest_69 ?_
    refine lv_topl (fun v3 ev3 => ?_)
    refine lv_lstore_n (lv' := [(1, .long v3), (6, .int v2), (0, .ref o), (3, .ref (v.2.2.2.2 0)), (4, .int (nI 5)), (5, .int (nI i))]) hx hb dX1_digest_70 rfl hl (by decide) rfl (fun ls hl => ?_)
    refine lv_iinc (v := nI (i + 1)) (lv' := [(5, .int (nI (i + 1))), (1, .long v3), (6, .int v2), (0, .ref o), (3, .ref (v.2.2.2.2 0)), (4, .int (nI 5))]) hx hb dX1_digest_71 hl (k := 5) rfl (nI_1 _) (by decide) rfl (fun ls hl => ?_)
    refine lv_goto (tgt := 48) hx hb dX1_digest_74 (by decide) ?_
    subst ev3; subst ev2
    exact ih (i + 1)  (by omega) _ _ _ hP hD hS (lv_sub hl [3, 1, 4, 5, 0] rfl)
set_option maxHeartbeats 4000000 in
set_option maxRecDepth 100000 in
theorem lpzX1_dg3 {p : Program} {l : Launch} {e : Env} {s : State} {m : MethodId} {args : Array Value} {below : List Frame} {meth : Method} {c : Code} {Q : State → Prop} {D : va_G} {t : Nat → Nat} {A : Nat → Prop} {cI : ClassId} {o : Nat} {v : S1} {d : Int64} (C : gC p s m args meth c cX1_digest 7 RX1 D [(cI, .int)] t A) (kk : ∀ (H : Heap) (locs : List Loc) (ls : Array Slot), va_P D vwCl (rb_w cI o v) H → va_D A (rb_w cI o v) → va_S A s.heap H locs → lv_has ls 7 [(0, .ref o), (1, .long (rf_dg (v.1 1) d 3)), (3, .ref (v.2.2.2.2 1)), (4, .int (nI 3)), (5, .int (nI 3))] → W p l e (rm_ 8 10 115 177) s m args below meth c H locs 0 0 Q (F0 m 118 ls [])) :
    ∀ (n i : Nat), i + n = 3 → ∀ (H : Heap) (locs : List Loc) (ls : Array Slot), va_P D vwCl (rb_w cI o v) H → va_D A (rb_w cI o v) → va_S A s.heap H locs → lv_has ls 7 [(0, .ref o), (1, .long (rf_dg (v.1 1) d i)), (3, .ref (v.2.2.2.2 1)), (4, .int (nI 3)), (5, .int (nI i))] → W p l e (rm_ 8 10 115 177) s m args below meth c H locs 0 0 Q (F0 m 89 ls []) := by
  have hx := C.1
  have hb := C.2.1
  have hown := C.2.2.2.1
  have hts := C.2.2.2.2.1
  intro n
  induction n with
  | zero =>
    intro i  hi H locs ls hP hD hS hl
    have hiN : i = 3 := by omega
    refine lv_iload hx hb dX1_digest_89 (lv_at hl 4 rfl) ?_
    refine lv_iload hx hb dX1_digest_91 (lv_at hl 3 rfl) ?_
    refine lv_icmp_ge (tgt := 118) hx hb dX1_digest_93 (by decide) (fun c1 => ?_) (fun c1 => absurd ((nI_leI (a := 3) (b := i) (by omega) (by omega)).mpr (by omega)) c1)
    subst hiN
    exact kk  _ _ _ hP hD hS (lv_sub hl [0, 1, 2, 3, 4] rfl)
  | succ n ih =>
    intro i  hi H locs ls hP hD hS hl
    have hin : i < 3 := by omega
    refine lv_iload hx hb dX1_digest_89 (lv_at hl 4 rfl) ?_
    refine lv_iload hx hb dX1_digest_91 (lv_at hl 3 rfl) ?_
    refine lv_icmp_ge (tgt := 118) hx hb dX1_digest_93 (by decide) (fun c1 => absurd c1 (fun h9 => absurd ((nI_leI (a := 3) (b := i) (by omega) (by omega)).mp h9) (by omega))) (fun c1 => ?_)
    refine lv_aload_n hx hb dX1_digest_96 rfl (lv_at hl 2 rfl) ?_
    refine lv_iload hx hb dX1_digest_97 (lv_at hl 4 rfl) ?_
    refine x1_ld C hP (k := 1) (i := i) (by decide) hin rfl dX1_digest_99 ?_
    refine lv_topi (fun v2 ev2 => ?_)
    refine lv_istore (lv' := [(6, .int v2), (0, .ref o), (1, .long (rf_dg (v.1 1) d i)), (3, .ref (v.2.2.2.2 1)), (4, .int (nI 3)), (5, .int (nI i))]) hx hb dX1_digest_100 hl (by decide) rfl (fun ls hl => ?_)
    refine lv_lload_n hx hb dX1_digest_102 rfl (lv_at hl 2 rfl) ?_
    refine lv_ldc2 (v := 31) hx hb hown (hts _ q426) dX1_digest_103 ?_
    refine lv_lmul hx hb dX1_digest_106 ?_
    refine lv_iload hx hb dX1_digest_107 (lv_at hl 0 rfl) ?_
    refine lv_i2l hx hb dX1_digest_109 rfl ?_
    refine lv_ladd hx hb dX1_digest_110 ?_
    refine lv_topl (fun v3 ev3 => ?_)
    refine lv_lstore_n (lv' := [(1, .long v3), (6, .int v2), (0, .ref o), (3, .ref (v.2.2.2.2 1)), (4, .int (nI 3)), (5, .int (nI i))]) hx hb dX1_digest_111 rfl hl (by decide) rfl (fun ls hl => ?_)
    refine lv_iinc (v := nI (i + 1)) (lv' := [(5, .int (nI (i + 1))), (1, .long v3), (6, .int v2), (0, .ref o), (3, .ref (v.2.2.2.2 1)), (4, .int (nI 3))]) hx hb dX1_digest_112 hl (k := 5) rfl (nI_1 _) (by decide) rfl (fun ls hl => ?_)
    refine lv_goto (tgt := 89) hx hb dX1_digest_115 (by decide) ?_
    subst ev3; subst ev2
    exact ih (i + 1)  (by omega) _ _ _ hP hD hS (lv_sub hl [3, 1, 4, 5, 0] rfl)
set_option maxHeartbeats 4000000 in
set_option maxRecDepth 100000 in
theorem zX1_digest (l : Launch) (D : va_G) (t : Nat → Nat) (cI : ClassId) (o : Nat) (sz : Nat) (v : S1) (hn : v.2.1 = 0) (hp : ¬ v.1 0 4 = 0) : gMl l yX1_digest (rw_ yX1_digest cX1_digest 7 (some .long)) (rm_ 8 10 115 177) [.ref o] D [(cI, .int)] t (rb_w cI o v) sz (fun r9 w' => r9 = rf_dg (v.1 1) (rf_dg (v.1 0) (rf_dg (rb_cnt v) 1657 7) 5) 3 ∧ ∃ v', w' = rb_w cI o v') := by
  refine g_of (cc := cX1_digest) (nL := 7) (rt := (some .long)) (Q := fun A => va_Ql _ (fun w' U => gQ D A w' U) A) (by decide) (Nat.le_of_ble_eq_true rfl) (fun p e s m args below meth c A ls H C hrt hnm hS hP hD hl => ?_)
  have hx := C.1
  have hb := C.2.1
  have hown := C.2.2.2.1
  have hts := C.2.2.2.2.1
  have hl : lv_has ls 7 [(0, .ref o)] := hl
  refine lv_aload_n hx hb dX1_digest_0 rfl (lv_at hl 0 rfl) ?_
  refine lv_iconst (v := 0) hx hb dX1_digest_1 (by decide) ?_
  refine x1_pt C hP hD hS q59 dX1_digest_2 (fun H locs hP hD hS => ?_)
  have hP : va_P D vwCl (rb_w cI o (rb_t v 0)) H := hP
  have hD : va_D A (rb_w cI o (rb_t v 0)) := hD
  refine lv_ldc2 (v := 1657) hx hb hown (hts _ q425) dX1_digest_5 ?_
  refine lv_lstore_n (lv' := [(1, .long 1657), (0, .ref o)]) hx hb dX1_digest_8 rfl hl (by decide) rfl (fun ls hl => ?_)
  refine lv_iconst (v := 0) hx hb dX1_digest_9 (by decide) ?_
  refine lv_istore_n (lv' := [(3, .int 0), (1, .long 1657), (0, .ref o)]) hx hb dX1_digest_10 rfl hl (by decide) rfl (fun ls hl => ?_)
  refine lpzX1_dg1 (v := rb_t v 0) (d := 1657) C hn (fun H locs ls hP hD hS hl => ?_) 7 0 (by omega) _ _ _ hP hD hS (lv_sub hl [2, 1, 0] rfl)
  have hl : lv_has ls 7 [(0, .ref o), (1, .long (rf_dg (rb_cnt v) 1657 7)), (3, .int (nI 7))] := hl
  refine lv_aload_n hx hb dX1_digest_36 rfl (lv_at hl 0 rfl) ?_
  refine x1_gf C hP 3 (by decide) (x := .ref ((rb_t v 0).2.2.2.2 0)) rfl rfl q30 dX1_digest_37 ?_
  refine lv_astore_n (lv' := [(3, .ref ((rb_t v 0).2.2.2.2 0)), (0, .ref o), (1, .long (rf_dg (rb_cnt v) 1657 7))]) hx hb dX1_digest_40 rfl hl (by decide) rfl (fun ls hl => ?_)
  refine lv_aload_n hx hb dX1_digest_41 rfl (lv_at hl 0 rfl) ?_
  refine va_alen (D := D) hx hb C.2.2.2.2.2.1 hP 1 0 rfl rfl (v := nI 5) rfl dX1_digest_42 ?_
  refine lv_istore (lv' := [(4, .int (nI 5)), (3, .ref ((rb_t v 0).2.2.2.2 0)), (0, .ref o), (1, .long (rf_dg (rb_cnt v) 1657 7))]) hx hb dX1_digest_43 hl (by decide) rfl (fun ls hl => ?_)
  refine lv_iconst (v := 0) hx hb dX1_digest_45 (by decide) ?_
  refine lv_istore (lv' := [(5, .int 0), (4, .int (nI 5)), (3, .ref ((rb_t v 0).2.2.2.2 0)), (0, .ref o), (1, .long (rf_dg (rb_cnt v) 1657 7))]) hx hb dX1_digest_46 hl (by decide) rfl (fun ls hl => ?_)
  refine lpzX1_dg2 (v := rb_t v 0) (d := rf_dg (rb_cnt v) 1657 7) C (fun H locs ls hP hD hS hl => ?_) 5 0 (by omega) _ _ _ hP hD hS (lv_sub hl [3, 4, 2, 1, 0] rfl)
  have hl : lv_has ls 7 [(0, .ref o), (1, .long (rf_dg (v.1 0) (rf_dg (rb_cnt v) 1657 7) 5)), (3, .ref (v.2.2.2.2 0)), (4, .int (nI 5)), (5, .int (nI 5))] := hl
  refine lv_aload_n hx hb dX1_digest_77 rfl (lv_at hl 0 rfl) ?_
  refine x1_gf C hP 4 (by decide) (x := .ref ((rb_t v 0).2.2.2.2 1)) rfl rfl q31 dX1_digest_78 ?_
  refine lv_astore_n (lv' := [(3, .ref ((rb_t v 0).2.2.2.2 1)), (0, .ref o), (1, .long (rf_dg (v.1 0) (rf_dg (rb_cnt v) 1657 7) 5)), (4, .int (nI 5)), (5, .int (nI 5))]) hx hb dX1_digest_81 rfl hl (by decide) rfl (fun ls hl => ?_)
  refine lv_aload_n hx hb dX1_digest_82 rfl (lv_at hl 0 rfl) ?_
  refine va_alen (D := D) hx hb C.2.2.2.2.2.1 hP 2 0 rfl rfl (v := nI 3) rfl dX1_digest_83 ?_
  refine lv_istore (lv' := [(4, .int (nI 3)), (3, .ref ((rb_t v 0).2.2.2.2 1)), (0, .ref o), (1, .long (rf_dg (v.1 0) (rf_dg (rb_cnt v) 1657 7) 5)), (5, .int (nI 5))]) hx hb dX1_digest_84 hl (by decide) rfl (fun ls hl => ?_)
  refine lv_iconst (v := 0) hx hb dX1_digest_86 (by decide) ?_
  refine lv_istore (lv' := [(5, .int 0), (4, .int (nI 3)), (3, .ref ((rb_t v 0).2.2.2.2 1)), (0, .ref o), (1, .long (rf_dg (v.1 0) (rf_dg (rb_cnt v) 1657 7) 5))]) hx hb dX1_digest_87 hl (by decide) rfl (fun ls hl => ?_)
  refine lpzX1_dg3 (v := rb_t v 0) (d := rf_dg (v.1 0) (rf_dg (rb_cnt v) 1657 7) 5) C (fun H locs ls hP hD hS hl => ?_) 3 0 (by omega) _ _ _ hP hD hS (lv_sub hl [3, 4, 2, 1, 0] rfl)
  have hl : lv_has ls 7 [(0, .ref o), (1, .long (rf_dg (v.1 1) (rf_dg (v.1 0) (rf_dg (rb_cnt v) 1657 7) 5) 3)), (3, .ref (v.2.2.2.2 1)), (4, .int (nI 3)), (5, .int (nI 3))] := hl
  refine lv_aload_n hx hb dX1_digest_118 rfl (lv_at hl 0 rfl) ?_
  refine g_cv (wr := []) (cells' := 10) (slots' := 115) rfl rfl C rd_nil hD hS (g_runV (wr := []) (n := 0) C (mX1_look l D t cI o H.size (rb_t v 0) (show v.2.1 ≤ 8 by omega) hp) (rw_V q302 q303 q304 q5 q305) kd_X1_look ⟨Nat.le_of_ble_eq_true rfl, Nat.le_of_ble_eq_true rfl⟩ (ci := 1) rfl rfl rfl C.2.2.2.2.2.1 hP hD hS hl.1 rfl rfl (Nat.le_of_ble_eq_true rfl) dX1_digest_119 ⟨Nat.le_of_ble_eq_true rfl, Nat.le_of_ble_eq_true rfl⟩) (fun w' H locs hv _ _ hP hD hS => ?_)
  obtain ⟨y2, hLy2, rfl⟩ := hv
  have hD : va_D A (rb_w cI o y2) := hD
  have hn9 : y2.2.1 = 0 := (hLy2.1).trans hn
  refine lv_iconst (v := 0) hx hb dX1_digest_122 (by decide) ?_
  refine lv_istore_n (lv' := [(3, .int 0), (0, .ref o), (1, .long (rf_dg (v.1 1) (rf_dg (v.1 0) (rf_dg (rb_cnt v) 1657 7) 5) 3)), (4, .int (nI 3)), (5, .int (nI 3))]) hx hb dX1_digest_123 rfl hl (by decide) rfl (fun ls hl => ?_)
  refine lv_iload_n hx hb dX1_digest_124 rfl (lv_at hl 0 rfl) ?_
  refine lv_aload_n hx hb dX1_digest_125 rfl (lv_at hl 1 rfl) ?_
  refine x1_gf C hP 1 (by decide) (x := .int (nI y2.2.1)) rfl rfl q60 dX1_digest_126 ?_
  refine lv_icmp_ge (tgt := 234) hx hb dX1_digest_129 (by decide) (fun c3 => ?_) (fun c3 => absurd ((nI_leI (a := y2.2.1) (b := 0) (by omega) (by omega)).mpr (by omega)) c3)
  refine lv_lload_n hx hb dX1_digest_234 rfl (lv_at hl 2 rfl) ?_
  exact g_lret C hrt hP hD hS dX1_digest_235 (by skip; exact ⟨rfl, _, rfl⟩)
