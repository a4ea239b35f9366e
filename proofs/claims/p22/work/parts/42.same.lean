theorem is_re1 {cI cR cB : ClassId} {o2 ob h n : Nat} {ad r2 : Nat → Nat} {z2 : SA} {u v : S0} {g2 : Nat → Nat → Int32} : ∀ q ∈ ra_w cI ob ad v ++ ((o2, .inr (2, rs_f z2 u)) :: hw_w cI cB h n r2 g2), q ∈ (rs_w cI cR o2 z2 u ++ hw_w cI cB h n r2 g2) ++ ra_w cI ob ad v := by
  intro q hq
  rcases List.mem_append.mp hq with h1 | h1
  · exact List.mem_append_right _ h1
  · rcases List.mem_cons.mp h1 with h2 | h2
    · refine List.mem_append_left _ (List.mem_append_left _ ?_)
      rw [h2]
      exact List.mem_cons_self
    · exact List.mem_append_left _ (List.mem_append_right _ h2)
theorem is_re2 {cI cR cB : ClassId} {o2 ob h n : Nat} {ad r2 : Nat → Nat} {z2 : SA} {u v : S0} {g2 : Nat → Nat → Int32} : ∀ a : Nat, ((ra_w cI ob ad v ++ ((o2, .inr (2, rs_f z2 u)) :: hw_w cI cB h n r2 g2)).map Prod.fst).count a ≤ (((rs_w cI cR o2 z2 u ++ hw_w cI cB h n r2 g2) ++ ra_w cI ob ad v).map Prod.fst).count a := by
  intro a
  show _ ≤ (List.map Prod.fst ((((o2, _) :: (z2.1 0, _) :: (z2.1 1, _) :: (z2.1 2, _) :: fam u.2.1 (rq_e z2 u)) ++ hw_w cI cB h n r2 g2) ++ ra_w cI ob ad v)).count a
  simp only [List.map_append, List.map_cons, List.count_append, List.count_cons]
  omega
theorem kd_X2_isSame : yX2_isSame.cls = yX2_isSame.cls ∧ yX2_isSame.cls ≠ "java/lang/invoke/MethodHandle" ∧ yX2_isSame.cls ≠ "java/lang/invoke/VarHandle" ∧ (parseMethodDescriptor yX2_isSame.desc).map (fun d => d.parameters.length) = some 1 := by decide +kernel
set_option maxHeartbeats 4000000 in
set_option maxRecDepth 100000 in
theorem lpX2_isSame {p : Program} {l : Launch} {e : Env} {s : State} {m : MethodId} {args : Array Value} {below : List Frame} {meth : Method} {c : Code} {Q : State → Prop} {D : va_G} {t : Nat → Nat} {A : Nat → Prop} {cI cR cB : ClassId} {o : Nat} {o2 ob T h : Nat} {ad r2 : Nat → Nat} {z z2 : SA} {g2 : Nat → Nat → Int32} {u : S0} (C : gC p s m args meth c cX2_isSame 12 RX2 D (ty3 cI cR cB) t A) (hz2 : z2.2.2 = some h) (B : rB T u) (g1 : ∀ k c : Nat, k < u.2.1 → c < 3 → g2 k c = (rf_py u (k + 1)).2.1 13 c) (kk : ∀ (v : S0) (H : Heap) (locs : List Loc) (ls : Array Slot), E9 u v → sS D A s cI cR o z u (ra_w cI ob ad v ++ ((o2, .inr (2, rs_f z2 (rf_pay u))) :: hw_w cI cB h u.2.1 r2 g2)) H locs → lv_has ls 12 [(0, .ref o), (1, .ref ob), (2, .int (rf_sm (u.1 4) u.2.1)), (3, .int (rf_sm (u.1 5) u.2.1)), (4, .int (rf_sm (u.1 6) u.2.1)), (5, .ref o2), (6, .int (nI u.2.1))] → W p l e (rm_ 7 60 300 155) s m args below meth c H locs (33 + 2 * u.2.1) (163 + 14 * u.2.1) Q (F0 m 340 ls [])) :
    ∀ (n i : Nat), i + n = u.2.1 → ∀ (v : S0) (H : Heap) (locs : List Loc) (ls : Array Slot), E9 u v → sS D A s cI cR o z u (ra_w cI ob ad v ++ ((o2, .inr (2, rs_f z2 (rf_pay u))) :: hw_w cI cB h u.2.1 r2 g2)) H locs → lv_has ls 12 [(0, .ref o), (1, .ref ob), (2, .int (rf_sm (u.1 4) i)), (3, .int (rf_sm (u.1 5) i)), (4, .int (rf_sm (u.1 6) i)), (5, .ref o2), (6, .int (nI i))] → W p l e (rm_ 7 60 300 155) s m args below meth c H locs (33 + 2 * i) (163 + 14 * i) Q (F0 m 22 ls []) := by
  have hx := C.1
  have hb := C.2.1
  have hown := C.2.2.2.1
  have hts := C.2.2.2.2.1
  have hu8 : u.2.1 ≤ 8 := B.1
  intro n
  induction n with
  | zero =>
    intro i hi v H locs ls hE S hl
    have hiN : i = u.2.1 := by omega
    refine lv_iload hx hb dX2_isSame_22 (lv_at hl 6 rfl) ?_
    refine lv_aload_n hx hb dX2_isSame_24 rfl (lv_at hl 0 rfl) ?_
    refine s_gf C S 3 (by decide) (v := .ref (z.1 2)) rfl rfl q36 dX2_isSame_25 ?_
    refine s_an C S dX2_isSame_28 ?_
    refine lv_icmp_ge (tgt := 340) hx hb dX2_isSame_29 (by decide) (fun c1 => ?_) (fun c1 => absurd ((nI_leI (a := u.2.1) (b := i) (by omega) (by omega)).mpr (by omega)) c1)
    rw [hiN] at hl ⊢
    exact kk _ _ _ _ hE S (lv_sub hl [0, 1, 2, 3, 4, 5, 6] rfl)
  | succ n ih =>
    intro i hi v H locs ls hE S hl
    have hin : i < u.2.1 := by omega
    refine lv_iload hx hb dX2_isSame_22 (lv_at hl 6 rfl) ?_
    refine lv_aload_n hx hb dX2_isSame_24 rfl (lv_at hl 0 rfl) ?_
    refine s_gf C S 3 (by decide) (v := .ref (z.1 2)) rfl rfl q36 dX2_isSame_25 ?_
    refine s_an C S dX2_isSame_28 ?_
    refine lv_icmp_ge (tgt := 340) hx hb dX2_isSame_29 (by decide) (fun c1 => absurd c1 (fun h9 => absurd ((nI_leI (a := u.2.1) (b := i) (by omega) (by omega)).mp h9) (by omega))) (fun c1 => ?_)
    refine lv_aload_n hx hb dX2_isSame_32 rfl (lv_at hl 0 rfl) ?_
    refine s_gf C S 3 (by decide) (v := .ref (z.1 2)) rfl rfl q36 dX2_isSame_33 ?_
    refine lv_iload hx hb dX2_isSame_36 (lv_at hl 6 rfl) ?_
    refine s_al C S hu8 hin rfl dX2_isSame_38 ?_
    refine lv_astore (lv' := [(7, .ref (z.2.1 i)), (0, .ref o), (1, .ref ob), (2, .int (rf_sm (u.1 4) i)), (3, .int (rf_sm (u.1 5) i)), (4, .int (rf_sm (u.1 6) i)), (5, .ref o2), (6, .int (nI i))]) hx hb dX2_isSame_39 hl (by decide) rfl (fun ls hl => ?_)
    refine lv_bipush (v := 8) hx hb dX2_isSame_41 (by decide) ?_
    refine x_new C S (N := 8) rfl (by omega) q4 (cells' := 33 + 2 * i + 1) (slots' := 163 + 14 * i + 8) rfl rfl (show 33 + 2 * i + 1 ≤ 60 by omega) (show 163 + 14 * i + 8 ≤ 300 by omega) dX2_isSame_43 (fun a2 H S => ?_)
    have S : sS D A s cI cR o z u (ra_w cI ob ad v ++ ((o2, .inr (2, rs_f z2 (rf_pay u))) :: (a2, .inl (cI, 8, .inl (fun _ => 0))) :: hw_w cI cB h u.2.1 r2 g2)) H locs := S.re (fun q hq => by simp only [List.mem_append, List.mem_cons, List.not_mem_nil, or_false, false_or] at hq ⊢; first | exact hq | grind) (fun a => by simp only [List.map_append, List.map_cons, List.map_nil, List.count_append, List.count_cons, List.count_nil]; omega)
    refine lv_dup hx hb dX2_isSame_45 rfl ?_
    refine lv_iconst (v := 0) hx hb dX2_isSame_46 (by decide) ?_
    refine lv_aload hx hb dX2_isSame_47 (lv_at hl 0 rfl) ?_
    refine r_gf C S 0 i (by decide) hin (v := .int (u.1 0 i)) rfl rfl q243 dX2_isSame_49 ?_
    refine x_st C S 14 (n := 8) (f := (fun _ => 0)) (i := 0) rfl (by omega) (by omega) rfl dX2_isSame_52 (fun H locs S => ?_)
    have S : sS D A s cI cR o z u (ra_w cI ob ad v ++ ((o2, .inr (2, rs_f z2 (rf_pay u))) :: (a2, .inl (cI, 8, .inl (upd (fun _ => 0) 0 (u.1 0 i)))) :: hw_w cI cB h u.2.1 r2 g2)) H locs := S
    refine lv_dup hx hb dX2_isSame_53 rfl ?_
    refine lv_iconst (v := 1) hx hb dX2_isSame_54 (by decide) ?_
    refine lv_aload hx hb dX2_isSame_55 (lv_at hl 0 rfl) ?_
    refine r_gf C S 1 i (by decide) hin (v := .int (u.1 1 i)) rfl rfl q164 dX2_isSame_57 ?_
    refine x_st C S 14 (n := 8) (f := (upd (fun _ => 0) 0 (u.1 0 i))) (i := 1) rfl (by omega) (by omega) rfl dX2_isSame_60 (fun H locs S => ?_)
    have S : sS D A s cI cR o z u (ra_w cI ob ad v ++ ((o2, .inr (2, rs_f z2 (rf_pay u))) :: (a2, .inl (cI, 8, .inl (upd (upd (fun _ => 0) 0 (u.1 0 i)) 1 (u.1 1 i)))) :: hw_w cI cB h u.2.1 r2 g2)) H locs := S
    refine lv_dup hx hb dX2_isSame_61 rfl ?_
    refine lv_iconst (v := 2) hx hb dX2_isSame_62 (by decide) ?_
    refine lv_aload hx hb dX2_isSame_63 (lv_at hl 0 rfl) ?_
    refine r_gf C S 2 i (by decide) hin (v := .int (u.1 2 i)) rfl rfl q165 dX2_isSame_65 ?_
    refine x_st C S 14 (n := 8) (f := (upd (upd (fun _ => 0) 0 (u.1 0 i)) 1 (u.1 1 i))) (i := 2) rfl (by omega) (by omega) rfl dX2_isSame_68 (fun H locs S => ?_)
    have S : sS D A s cI cR o z u (ra_w cI ob ad v ++ ((o2, .inr (2, rs_f z2 (rf_pay u))) :: (a2, .inl (cI, 8, .inl (upd (upd (upd (fun _ => 0) 0 (u.1 0 i)) 1 (u.1 1 i)) 2 (u.1 2 i)))) :: hw_w cI cB h u.2.1 r2 g2)) H locs := S
    refine lv_dup hx hb dX2_isSame_69 rfl ?_
    refine lv_iconst (v := 3) hx hb dX2_isSame_70 (by decide) ?_
    refine lv_aload hx hb dX2_isSame_71 (lv_at hl 0 rfl) ?_
    refine r_gf C S 3 i (by decide) hin (v := .int (u.1 3 i)) rfl rfl q166 dX2_isSame_73 ?_
    refine x_st C S 14 (n := 8) (f := (upd (upd (upd (fun _ => 0) 0 (u.1 0 i)) 1 (u.1 1 i)) 2 (u.1 2 i))) (i := 3) rfl (by omega) (by omega) rfl dX2_isSame_76 (fun H locs S => ?_)
    have S : sS D A s cI cR o z u (ra_w cI ob ad v ++ ((o2, .inr (2, rs_f z2 (rf_pay u))) :: (a2, .inl (cI, 8, .inl (upd (upd (upd (upd (fun _ => 0) 0 (u.1 0 i)) 1 (u.1 1 i)) 2 (u.1 2 i)) 3 (u.1 3 i)))) :: hw_w cI cB h u.2.1 r2 g2)) H locs := S
    refine lv_dup hx hb dX2_isSame_77 rfl ?_
    refine lv_iconst (v := 4) hx hb dX2_isSame_78 (by decide) ?_
    refine lv_aload hx hb dX2_isSame_79 (lv_at hl 0 rfl) ?_
    refine r_gf C S 4 i (by decide) hin (v := .int (u.1 4 i)) rfl rfl q162 dX2_isSame_81 ?_
    refine x_st C S 14 (n := 8) (f := (upd (upd (upd (upd (fun _ => 0) 0 (u.1 0 i)) 1 (u.1 1 i)) 2 (u.1 2 i)) 3 (u.1 3 i))) (i := 4) rfl (by omega) (by omega) rfl dX2_isSame_84 (fun H locs S => ?_)
    have S : sS D A s cI cR o z u (ra_w cI ob ad v ++ ((o2, .inr (2, rs_f z2 (rf_pay u))) :: (a2, .inl (cI, 8, .inl (upd (upd (upd (upd (upd (fun _ => 0) 0 (u.1 0 i)) 1 (u.1 1 i)) 2 (u.1 2 i)) 3 (u.1 3 i)) 4 (u.1 4 i)))) :: hw_w cI cB h u.2.1 r2 g2)) H locs := S
    refine lv_dup hx hb dX2_isSame_85 rfl ?_
    refine lv_iconst (v := 5) hx hb dX2_isSame_86 (by decide) ?_
    refine lv_aload hx hb dX2_isSame_87 (lv_at hl 0 rfl) ?_
    refine r_gf C S 5 i (by decide) hin (v := .int (u.1 5 i)) rfl rfl q161 dX2_isSame_89 ?_
    refine x_st C S 14 (n := 8) (f := (upd (upd (upd (upd (upd (fun _ => 0) 0 (u.1 0 i)) 1 (u.1 1 i)) 2 (u.1 2 i)) 3 (u.1 3 i)) 4 (u.1 4 i))) (i := 5) rfl (by omega) (by omega) rfl dX2_isSame_92 (fun H locs S => ?_)
    have S : sS D A s cI cR o z u (ra_w cI ob ad v ++ ((o2, .inr (2, rs_f z2 (rf_pay u))) :: (a2, .inl (cI, 8, .inl (upd (upd (upd (upd (upd (upd (fun _ => 0) 0 (u.1 0 i)) 1 (u.1 1 i)) 2 (u.1 2 i)) 3 (u.1 3 i)) 4 (u.1 4 i)) 5 (u.1 5 i)))) :: hw_w cI cB h u.2.1 r2 g2)) H locs := S
    refine lv_dup hx hb dX2_isSame_93 rfl ?_
    refine lv_bipush (v := 6) hx hb dX2_isSame_94 (by decide) ?_
    refine lv_aload hx hb dX2_isSame_96 (lv_at hl 0 rfl) ?_
    refine r_gf C S 6 i (by decide) hin (v := .int (u.1 6 i)) rfl rfl q163 dX2_isSame_98 ?_
    refine x_st C S 14 (n := 8) (f := (upd (upd (upd (upd (upd (upd (fun _ => 0) 0 (u.1 0 i)) 1 (u.1 1 i)) 2 (u.1 2 i)) 3 (u.1 3 i)) 4 (u.1 4 i)) 5 (u.1 5 i))) (i := 6) rfl (by omega) (by omega) rfl dX2_isSame_101 (fun H locs S => ?_)
    have S : sS D A s cI cR o z u (ra_w cI ob ad v ++ ((o2, .inr (2, rs_f z2 (rf_pay u))) :: (a2, .inl (cI, 8, .inl (upd (upd (upd (upd (upd (upd (upd (fun _ => 0) 0 (u.1 0 i)) 1 (u.1 1 i)) 2 (u.1 2 i)) 3 (u.1 3 i)) 4 (u.1 4 i)) 5 (u.1 5 i)) 6 (u.1 6 i)))) :: hw_w cI cB h u.2.1 r2 g2)) H locs := S
    refine lv_dup hx hb dX2_isSame_102 rfl ?_
    refine lv_bipush (v := 7) hx hb dX2_isSame_103 (by decide) ?_
    refine lv_aload hx hb dX2_isSame_105 (lv_at hl 0 rfl) ?_
    refine m_ci (wa := []) (wb := rs_w cI cR o z u) (wd := ra_w cI ob ad v ++ ((o2, .inr (2, rs_f z2 (rf_pay u))) :: (a2, .inl (cI, 8, .inl (upd (upd (upd (upd (upd (upd (upd (fun _ => 0) 0 (u.1 0 i)) 1 (u.1 1 i)) 2 (u.1 2 i)) 3 (u.1 3 i)) 4 (u.1 4 i)) 5 (u.1 5 i)) 6 (u.1 6 i)))) :: hw_w cI cB h u.2.1 r2 g2)) (cells' := 33 + 2 * i + 1) (slots' := 163 + 14 * i + 8) rfl rfl C S.1 S.2.1 S.2.2 (fun hPb hDb => g_runVj (n := 0) (As := []) C (mX1_counting l D t cI cR cB o z H.size u T B i hin) (rw_V q266 q183 q184 q51 q185) kd_X1_counting ⟨Nat.le_of_ble_eq_true rfl, Nat.le_of_ble_eq_true rfl⟩ (ci := 1) rfl rfl (4 + i) (rs_rp hin) C.2.2.2.2.2.1 hPb hDb S.2.2 hl.1 rfl rfl (Nat.le_of_ble_eq_true rfl) dX2_isSame_107 ⟨(show 33 + 2 * i + 1 + 0 ≤ 60 by omega), (show 163 + 14 * i + 8 + 0 ≤ 300 by omega)⟩) (fun v w' H locs hv _ hP9 hD9 hS9 => ?_)
    obtain ⟨rfl, rfl⟩ := hv
    have S : sS D A s cI cR o z u (ra_w cI ob ad v ++ ((o2, .inr (2, rs_f z2 (rf_pay u))) :: (a2, .inl (cI, 8, .inl (upd (upd (upd (upd (upd (upd (upd (fun _ => 0) 0 (u.1 0 i)) 1 (u.1 1 i)) 2 (u.1 2 i)) 3 (u.1 3 i)) 4 (u.1 4 i)) 5 (u.1 5 i)) 6 (u.1 6 i)))) :: hw_w cI cB h u.2.1 r2 g2)) H locs := ⟨hP9, hD9, hS9⟩
    refine x_st C S 14 (n := 8) (f := (upd (upd (upd (upd (upd (upd (upd (fun _ => 0) 0 (u.1 0 i)) 1 (u.1 1 i)) 2 (u.1 2 i)) 3 (u.1 3 i)) 4 (u.1 4 i)) 5 (u.1 5 i)) 6 (u.1 6 i))) (i := 7) rfl (by omega) (by omega) rfl dX2_isSame_110 (fun H locs S => ?_)
    have S : sS D A s cI cR o z u (ra_w cI ob ad v ++ ((o2, .inr (2, rs_f z2 (rf_pay u))) :: (a2, .inl (cI, 8, .inl (upd (upd (upd (upd (upd (upd (upd (upd (fun _ => 0) 0 (u.1 0 i)) 1 (u.1 1 i)) 2 (u.1 2 i)) 3 (u.1 3 i)) 4 (u.1 4 i)) 5 (u.1 5 i)) 6 (u.1 6 i)) 7 (rf_hc u i)))) :: hw_w cI cB h u.2.1 r2 g2)) H locs := S
    refine lv_astore (lv' := [(8, .ref a2), (7, .ref (z.2.1 i)), (0, .ref o), (1, .ref ob), (2, .int (rf_sm (u.1 4) i)), (3, .int (rf_sm (u.1 5) i)), (4, .int (rf_sm (u.1 6) i)), (5, .ref o2), (6, .int (nI i))]) hx hb dX2_isSame_111 hl (by decide) rfl (fun ls hl => ?_)
    refine lv_iconst (v := 0) hx hb dX2_isSame_113 (by decide) ?_
    refine lv_istore (lv' := [(9, .int 0), (8, .ref a2), (7, .ref (z.2.1 i)), (0, .ref o), (1, .ref ob), (2, .int (rf_sm (u.1 4) i)), (3, .int (rf_sm (u.1 5) i)), (4, .int (rf_sm (u.1 6) i)), (5, .ref o2), (6, .int (nI i))]) hx hb dX2_isSame_114 hl (by decide) rfl (fun ls hl => ?_)
    refine lv_iload hx hb dX2_isSame_116 (lv_at hl 0 rfl) ?_
    refine lv_bipush (v := 8) hx hb dX2_isSame_118 (by decide) ?_
    refine lv_icmp_ge (tgt := 147) hx hb dX2_isSame_120 (by decide) (fun c3 => absurd c3 (by decide)) (fun c3 => ?_)
    refine lv_aload_n hx hb dX2_isSame_123 rfl (lv_at hl 4 rfl) ?_
    refine lv_iload hx hb dX2_isSame_124 (lv_at hl 9 rfl) ?_
    refine lv_iload hx hb dX2_isSame_126 (lv_at hl 0 rfl) ?_
    refine m_ci (wa := rs_w cI cR o z u) (wb := ra_w cI ob ad v) (wd := ((o2, .inr (2, rs_f z2 (rf_pay u))) :: (a2, .inl (cI, 8, .inl (upd (upd (upd (upd (upd (upd (upd (upd (fun _ => 0) 0 (u.1 0 i)) 1 (u.1 1 i)) 2 (u.1 2 i)) 3 (u.1 3 i)) 4 (u.1 4 i)) 5 (u.1 5 i)) 6 (u.1 6 i)) 7 (rf_hc u i)))) :: hw_w cI cB h u.2.1 r2 g2)) (cells' := 33 + 2 * i + 1) (slots' := 163 + 14 * i + 8) rfl rfl C S.1 S.2.1 S.2.2 (fun hPb hDb => g_runV (wr := ((o2, .inr (2, rs_f z2 (rf_pay u))) :: (a2, .inl (cI, 8, .inl (upd (upd (upd (upd (upd (upd (upd (upd (fun _ => 0) 0 (u.1 0 i)) 1 (u.1 1 i)) 2 (u.1 2 i)) 3 (u.1 3 i)) 4 (u.1 4 i)) 5 (u.1 5 i)) 6 (u.1 6 i)) 7 (rf_hc u i)))) :: hw_w cI cB h u.2.1 r2 g2) ++ rs_w cI cR o z u) (n := 2) (As := [.int (nI i), .int 0]) C (mX0_told l D t cI ob ad H.size v (by rw [hE.n]; exact hu8) i (by rw [hE.n]; exact hin) 0 (by decide)) (rw_V q267 q220 q221 q2 q222) kd_X0_told ⟨Nat.le_of_ble_eq_true rfl, Nat.le_of_ble_eq_true rfl⟩ (ci := 0) rfl rfl rfl (C.2.2.2.2.2.1.sub (tys' := [(cI, .int)]) [0] rfl) hPb hDb S.2.2 hl.1 rfl rfl (Nat.le_of_ble_eq_true rfl) dX2_isSame_128 ⟨(show 33 + 2 * i + 1 + 0 ≤ 60 by omega), (show 163 + 14 * i + 8 + 0 ≤ 300 by omega)⟩) (fun v w' H locs hv _ hP9 hD9 hS9 => ?_)
    obtain ⟨rfl, rfl⟩ := hv
    have S : sS D A s cI cR o z u (ra_w cI ob ad v ++ ((o2, .inr (2, rs_f z2 (rf_pay u))) :: (a2, .inl (cI, 8, .inl (upd (upd (upd (upd (upd (upd (upd (upd (fun _ => 0) 0 (u.1 0 i)) 1 (u.1 1 i)) 2 (u.1 2 i)) 3 (u.1 3 i)) 4 (u.1 4 i)) 5 (u.1 5 i)) 6 (u.1 6 i)) 7 (rf_hc u i)))) :: hw_w cI cB h u.2.1 r2 g2)) H locs := ⟨hP9, hD9, hS9⟩
    refine g_top (y := u.1 0 i) (e9_told hE i (by decide)) ?_
    refine lv_aload hx hb dX2_isSame_131 (lv_at hl 1 rfl) ?_
    refine lv_iload hx hb dX2_isSame_133 (lv_at hl 0 rfl) ?_
    refine x_ld C S 14 (n := 8) (f := (upd (upd (upd (upd (upd (upd (upd (upd (fun _ => 0) 0 (u.1 0 i)) 1 (u.1 1 i)) 2 (u.1 2 i)) 3 (u.1 3 i)) 4 (u.1 4 i)) 5 (u.1 5 i)) 6 (u.1 6 i)) 7 (rf_hc u i))) (i := 0) rfl (by omega) (by omega) rfl dX2_isSame_135 ?_
    refine g_top (y := u.1 0 i) (rfl) ?_
    refine lv_icmp_eq (tgt := 141) hx hb dX2_isSame_136 (by decide) (fun c4 => ?_) (fun c4 => absurd (rfl) c4)
    refine lv_iinc (v := nI 1) (lv' := [(9, .int (nI 1)), (8, .ref a2), (7, .ref (z.2.1 i)), (0, .ref o), (1, .ref ob), (2, .int (rf_sm (u.1 4) i)), (3, .int (rf_sm (u.1 5) i)), (4, .int (rf_sm (u.1 6) i)), (5, .ref o2), (6, .int (nI i))]) hx hb dX2_isSame_141 hl (k := 0) rfl (nI_1 _) (by decide) rfl (fun ls hl => ?_)
    refine lv_goto (tgt := 116) hx hb dX2_isSame_144 (by decide) ?_
    refine lv_iload hx hb dX2_isSame_116 (lv_at hl 0 rfl) ?_
    refine lv_bipush (v := 8) hx hb dX2_isSame_118 (by decide) ?_
    refine lv_icmp_ge (tgt := 147) hx hb dX2_isSame_120 (by decide) (fun c5 => absurd c5 (by decide)) (fun c5 => ?_)
    refine lv_aload_n hx hb dX2_isSame_123 rfl (lv_at hl 4 rfl) ?_
    refine lv_iload hx hb dX2_isSame_124 (lv_at hl 9 rfl) ?_
    refine lv_iload hx hb dX2_isSame_126 (lv_at hl 0 rfl) ?_
    refine m_ci (wa := rs_w cI cR o z u) (wb := ra_w cI ob ad v) (wd := ((o2, .inr (2, rs_f z2 (rf_pay u))) :: (a2, .inl (cI, 8, .inl (upd (upd (upd (upd (upd (upd (upd (upd (fun _ => 0) 0 (u.1 0 i)) 1 (u.1 1 i)) 2 (u.1 2 i)) 3 (u.1 3 i)) 4 (u.1 4 i)) 5 (u.1 5 i)) 6 (u.1 6 i)) 7 (rf_hc u i)))) :: hw_w cI cB h u.2.1 r2 g2)) (cells' := 33 + 2 * i + 1) (slots' := 163 + 14 * i + 8) rfl rfl C S.1 S.2.1 S.2.2 (fun hPb hDb => g_runV (wr := ((o2, .inr (2, rs_f z2 (rf_pay u))) :: (a2, .inl (cI, 8, .inl (upd (upd (upd (upd (upd (upd (upd (upd (fun _ => 0) 0 (u.1 0 i)) 1 (u.1 1 i)) 2 (u.1 2 i)) 3 (u.1 3 i)) 4 (u.1 4 i)) 5 (u.1 5 i)) 6 (u.1 6 i)) 7 (rf_hc u i)))) :: hw_w cI cB h u.2.1 r2 g2) ++ rs_w cI cR o z u) (n := 2) (As := [.int (nI i), .int (nI 1)]) C (mX0_told l D t cI ob ad H.size v (by rw [hE.n]; exact hu8) i (by rw [hE.n]; exact hin) 1 (by decide)) (rw_V q267 q220 q221 q2 q222) kd_X0_told ⟨Nat.le_of_ble_eq_true rfl, Nat.le_of_ble_eq_true rfl⟩ (ci := 0) rfl rfl rfl (C.2.2.2.2.2.1.sub (tys' := [(cI, .int)]) [0] rfl) hPb hDb S.2.2 hl.1 rfl rfl (Nat.le_of_ble_eq_true rfl) dX2_isSame_128 ⟨(show 33 + 2 * i + 1 + 0 ≤ 60 by omega), (show 163 + 14 * i + 8 + 0 ≤ 300 by omega)⟩) (fun v w' H locs hv _ hP9 hD9 hS9 => ?_)
    obtain ⟨rfl, rfl⟩ := hv
    have S : sS D A s cI cR o z u (ra_w cI ob ad v ++ ((o2, .inr (2, rs_f z2 (rf_pay u))) :: (a2, .inl (cI, 8, .inl (upd (upd (upd (upd (upd (upd (upd (upd (fun _ => 0) 0 (u.1 0 i)) 1 (u.1 1 i)) 2 (u.1 2 i)) 3 (u.1 3 i)) 4 (u.1 4 i)) 5 (u.1 5 i)) 6 (u.1 6 i)) 7 (rf_hc u i)))) :: hw_w cI cB h u.2.1 r2 g2)) H locs := ⟨hP9, hD9, hS9⟩
    refine g_top (y := u.1 1 i) (e9_told hE i (by decide)) ?_
    refine lv_aload hx hb dX2_isSame_131 (lv_at hl 1 rfl) ?_
    refine lv_iload hx hb dX2_isSame_133 (lv_at hl 0 rfl) ?_
    refine x_ld C S 14 (n := 8) (f := (upd (upd (upd (upd (upd (upd (upd (upd (fun _ => 0) 0 (u.1 0 i)) 1 (u.1 1 i)) 2 (u.1 2 i)) 3 (u.1 3 i)) 4 (u.1 4 i)) 5 (u.1 5 i)) 6 (u.1 6 i)) 7 (rf_hc u i))) (i := 1) rfl (by omega) (by omega) rfl dX2_isSame_135 ?_
    refine g_top (y := u.1 1 i) (rfl) ?_
    refine lv_icmp_eq (tgt := 141) hx hb dX2_isSame_136 (by decide) (fun c6 => ?_) (fun c6 => absurd (rfl) c6)
    refine lv_iinc (v := nI 2) (lv' := [(9, .int (nI 2)), (8, .ref a2), (7, .ref (z.2.1 i)), (0, .ref o), (1, .ref ob), (2, .int (rf_sm (u.1 4) i)), (3, .int (rf_sm (u.1 5) i)), (4, .int (rf_sm (u.1 6) i)), (5, .ref o2), (6, .int (nI i))]) hx hb dX2_isSame_141 hl (k := 0) rfl (nI_1 _) (by decide) rfl (fun ls hl => ?_)
    refine lv_goto (tgt := 116) hx hb dX2_isSame_144 (by decide) ?_
    refine lv_iload hx hb dX2_isSame_116 (lv_at hl 0 rfl) ?_
    refine lv_bipush (v := 8) hx hb dX2_isSame_118 (by decide) ?_
    refine lv_icmp_ge (tgt := 147) hx hb dX2_isSame_120 (by decide) (fun c7 => absurd c7 (by decide)) (fun c7 => ?_)
    refine lv_aload_n hx hb dX2_isSame_123 rfl (lv_at hl 4 rfl) ?_
    refine lv_iload hx hb dX2_isSame_124 (lv_at hl 9 rfl) ?_
    refine lv_iload hx hb dX2_isSame_126 (lv_at hl 0 rfl) ?_
    refine m_ci (wa := rs_w cI cR o z u) (wb := ra_w cI ob ad v) (wd := ((o2, .inr (2, rs_f z2 (rf_pay u))) :: (a2, .inl (cI, 8, .inl (upd (upd (upd (upd (upd (upd (upd (upd (fun _ => 0) 0 (u.1 0 i)) 1 (u.1 1 i)) 2 (u.1 2 i)) 3 (u.1 3 i)) 4 (u.1 4 i)) 5 (u.1 5 i)) 6 (u.1 6 i)) 7 (rf_hc u i)))) :: hw_w cI cB h u.2.1 r2 g2)) (cells' := 33 + 2 * i + 1) (slots' := 163 + 14 * i + 8) rfl rfl C S.1 S.2.1 S.2.2 (fun hPb hDb => g_runV (wr := ((o2, .inr (2, rs_f z2 (rf_pay u))) :: (a2, .inl (cI, 8, .inl (upd (upd (upd (upd (upd (upd (upd (upd (fun _ => 0) 0 (u.1 0 i)) 1 (u.1 1 i)) 2 (u.1 2 i)) 3 (u.1 3 i)) 4 (u.1 4 i)) 5 (u.1 5 i)) 6 (u.1 6 i)) 7 (rf_hc u i)))) :: hw_w cI cB h u.2.1 r2 g2) ++ rs_w cI cR o z u) (n := 2) (As := [.int (nI i), .int (nI 2)]) C (mX0_told l D t cI ob ad H.size v (by rw [hE.n]; exact hu8) i (by rw [hE.n]; exact hin) 2 (by decide)) (rw_V q267 q220 q221 q2 q222) kd_X0_told ⟨Nat.le_of_ble_eq_true rfl, Nat.le_of_ble_eq_true rfl⟩ (ci := 0) rfl rfl rfl (C.2.2.2.2.2.1.sub (tys' := [(cI, .int)]) [0] rfl) hPb hDb S.2.2 hl.1 rfl rfl (Nat.le_of_ble_eq_true rfl) dX2_isSame_128 ⟨(show 33 + 2 * i + 1 + 0 ≤ 60 by omega), (show 163 + 14 * i + 8 + 0 ≤ 300 by omega)⟩) (fun v w' H locs hv _ hP9 hD9 hS9 => ?_)
    obtain ⟨rfl, rfl⟩ := hv
    have S : sS D A s cI cR o z u (ra_w cI ob ad v ++ ((o2, .inr (2, rs_f z2 (rf_pay u))) :: (a2, .inl (cI, 8, .inl (upd (upd (upd (upd (upd (upd (upd (upd (fun _ => 0) 0 (u.1 0 i)) 1 (u.1 1 i)) 2 (u.1 2 i)) 3 (u.1 3 i)) 4 (u.1 4 i)) 5 (u.1 5 i)) 6 (u.1 6 i)) 7 (rf_hc u i)))) :: hw_w cI cB h u.2.1 r2 g2)) H locs := ⟨hP9, hD9, hS9⟩
    refine g_top (y := u.1 2 i) (e9_told hE i (by decide)) ?_
    refine lv_aload hx hb dX2_isSame_131 (lv_at hl 1 rfl) ?_
    refine lv_iload hx hb dX2_isSame_133 (lv_at hl 0 rfl) ?_
    refine x_ld C S 14 (n := 8) (f := (upd (upd (upd (upd (upd (upd (upd (upd (fun _ => 0) 0 (u.1 0 i)) 1 (u.1 1 i)) 2 (u.1 2 i)) 3 (u.1 3 i)) 4 (u.1 4 i)) 5 (u.1 5 i)) 6 (u.1 6 i)) 7 (rf_hc u i))) (i := 2) rfl (by omega) (by omega) rfl dX2_isSame_135 ?_
    refine g_top (y := u.1 2 i) (rfl) ?_
    refine lv_icmp_eq (tgt := 141) hx hb dX2_isSame_136 (by decide) (fun c8 => ?_) (fun c8 => absurd (rfl) c8)
    refine lv_iinc (v := nI 3) (lv' := [(9, .int (nI 3)), (8, .ref a2), (7, .ref (z.2.1 i)), (0, .ref o), (1, .ref ob), (2, .int (rf_sm (u.1 4) i)), (3, .int (rf_sm (u.1 5) i)), (4, .int (rf_sm (u.1 6) i)), (5, .ref o2), (6, .int (nI i))]) hx hb dX2_isSame_141 hl (k := 0) rfl (nI_1 _) (by decide) rfl (fun ls hl => ?_)
    refine lv_goto (tgt := 116) hx hb dX2_isSame_144 (by decide) ?_
    refine lv_iload hx hb dX2_isSame_116 (lv_at hl 0 rfl) ?_
    refine lv_bipush (v := 8) hx hb dX2_isSame_118 (by decide) ?_
    refine lv_icmp_ge (tgt := 147) hx hb dX2_isSame_120 (by decide) (fun c9 => absurd c9 (by decide)) (fun c9 => ?_)
    refine lv_aload_n hx hb dX2_isSame_123 rfl (lv_at hl 4 rfl) ?_
    refine lv_iload hx hb dX2_isSame_124 (lv_at hl 9 rfl) ?_
    refine lv_iload hx hb dX2_isSame_126 (lv_at hl 0 rfl) ?_
    refine m_ci (wa := rs_w cI cR o z u) (wb := ra_w cI ob ad v) (wd := ((o2, .inr (2, rs_f z2 (rf_pay u))) :: (a2, .inl (cI, 8, .inl (upd (upd (upd (upd (upd (upd (upd (upd (fun _ => 0) 0 (u.1 0 i)) 1 (u.1 1 i)) 2 (u.1 2 i)) 3 (u.1 3 i)) 4 (u.1 4 i)) 5 (u.1 5 i)) 6 (u.1 6 i)) 7 (rf_hc u i)))) :: hw_w cI cB h u.2.1 r2 g2)) (cells' := 33 + 2 * i + 1) (slots' := 163 + 14 * i + 8) rfl rfl C S.1 S.2.1 S.2.2 (fun hPb hDb => g_runV (wr := ((o2, .inr (2, rs_f z2 (rf_pay u))) :: (a2, .inl (cI, 8, .inl (upd (upd (upd (upd (upd (upd (upd (upd (fun _ => 0) 0 (u.1 0 i)) 1 (u.1 1 i)) 2 (u.1 2 i)) 3 (u.1 3 i)) 4 (u.1 4 i)) 5 (u.1 5 i)) 6 (u.1 6 i)) 7 (rf_hc u i)))) :: hw_w cI cB h u.2.1 r2 g2) ++ rs_w cI cR o z u) (n := 2) (As := [.int (nI i), .int (nI 3)]) C (mX0_told l D t cI ob ad H.size v (by rw [hE.n]; exact hu8) i (by rw [hE.n]; exact hin) 3 (by decide)) (rw_V q267 q220 q221 q2 q222) kd_X0_told ⟨Nat.le_of_ble_eq_true rfl, Nat.le_of_ble_eq_true rfl⟩ (ci := 0) rfl rfl rfl (C.2.2.2.2.2.1.sub (tys' := [(cI, .int)]) [0] rfl) hPb hDb S.2.2 hl.1 rfl rfl (Nat.le_of_ble_eq_true rfl) dX2_isSame_128 ⟨(show 33 + 2 * i + 1 + 0 ≤ 60 by omega), (show 163 + 14 * i + 8 + 0 ≤ 300 by omega)⟩) (fun v w' H locs hv _ hP9 hD9 hS9 => ?_)
    obtain ⟨rfl, rfl⟩ := hv
    have S : sS D A s cI cR o z u (ra_w cI ob ad v ++ ((o2, .inr (2, rs_f z2 (rf_pay u))) :: (a2, .inl (cI, 8, .inl (upd (upd (upd (upd (upd (upd (upd (upd (fun _ => 0) 0 (u.1 0 i)) 1 (u.1 1 i)) 2 (u.1 2 i)) 3 (u.1 3 i)) 4 (u.1 4 i)) 5 (u.1 5 i)) 6 (u.1 6 i)) 7 (rf_hc u i)))) :: hw_w cI cB h u.2.1 r2 g2)) H locs := ⟨hP9, hD9, hS9⟩
    refine g_top (y := u.1 3 i) (e9_told hE i (by decide)) ?_
    refine lv_aload hx hb dX2_isSame_131 (lv_at hl 1 rfl) ?_
    refine lv_iload hx hb dX2_isSame_133 (lv_at hl 0 rfl) ?_
    refine x_ld C S 14 (n := 8) (f := (upd (upd (upd (upd (upd (upd (upd (upd (fun _ => 0) 0 (u.1 0 i)) 1 (u.1 1 i)) 2 (u.1 2 i)) 3 (u.1 3 i)) 4 (u.1 4 i)) 5 (u.1 5 i)) 6 (u.1 6 i)) 7 (rf_hc u i))) (i := 3) rfl (by omega) (by omega) rfl dX2_isSame_135 ?_
    refine g_top (y := u.1 3 i) (rfl) ?_
    refine lv_icmp_eq (tgt := 141) hx hb dX2_isSame_136 (by decide) (fun c10 => ?_) (fun c10 => absurd (rfl) c10)
    refine lv_iinc (v := nI 4) (lv' := [(9, .int (nI 4)), (8, .ref a2), (7, .ref (z.2.1 i)), (0, .ref o), (1, .ref ob), (2, .int (rf_sm (u.1 4) i)), (3, .int (rf_sm (u.1 5) i)), (4, .int (rf_sm (u.1 6) i)), (5, .ref o2), (6, .int (nI i))]) hx hb dX2_isSame_141 hl (k := 0) rfl (nI_1 _) (by decide) rfl (fun ls hl => ?_)
    refine lv_goto (tgt := 116) hx hb dX2_isSame_144 (by decide) ?_
    refine lv_iload hx hb dX2_isSame_116 (lv_at hl 0 rfl) ?_
    refine lv_bipush (v := 8) hx hb dX2_isSame_118 (by decide) ?_
    refine lv_icmp_ge (tgt := 147) hx hb dX2_isSame_120 (by decide) (fun c11 => absurd c11 (by decide)) (fun c11 => ?_)
    refine lv_aload_n hx hb dX2_isSame_123 rfl (lv_at hl 4 rfl) ?_
    refine lv_iload hx hb dX2_isSame_124 (lv_at hl 9 rfl) ?_
    refine lv_iload hx hb dX2_isSame_126 (lv_at hl 0 rfl) ?_
    refine m_ci (wa := rs_w cI cR o z u) (wb := ra_w cI ob ad v) (wd := ((o2, .inr (2, rs_f z2 (rf_pay u))) :: (a2, .inl (cI, 8, .inl (upd (upd (upd (upd (upd (upd (upd (upd (fun _ => 0) 0 (u.1 0 i)) 1 (u.1 1 i)) 2 (u.1 2 i)) 3 (u.1 3 i)) 4 (u.1 4 i)) 5 (u.1 5 i)) 6 (u.1 6 i)) 7 (rf_hc u i)))) :: hw_w cI cB h u.2.1 r2 g2)) (cells' := 33 + 2 * i + 1) (slots' := 163 + 14 * i + 8) rfl rfl C S.1 S.2.1 S.2.2 (fun hPb hDb => g_runV (wr := ((o2, .inr (2, rs_f z2 (rf_pay u))) :: (a2, .inl (cI, 8, .inl (upd (upd (upd (upd (upd (upd (upd (upd (fun _ => 0) 0 (u.1 0 i)) 1 (u.1 1 i)) 2 (u.1 2 i)) 3 (u.1 3 i)) 4 (u.1 4 i)) 5 (u.1 5 i)) 6 (u.1 6 i)) 7 (rf_hc u i)))) :: hw_w cI cB h u.2.1 r2 g2) ++ rs_w cI cR o z u) (n := 2) (As := [.int (nI i), .int (nI 4)]) C (mX0_told l D t cI ob ad H.size v (by rw [hE.n]; exact hu8) i (by rw [hE.n]; exact hin) 4 (by decide)) (rw_V q267 q220 q221 q2 q222) kd_X0_told ⟨Nat.le_of_ble_eq_true rfl, Nat.le_of_ble_eq_true rfl⟩ (ci := 0) rfl rfl rfl (C.2.2.2.2.2.1.sub (tys' := [(cI, .int)]) [0] rfl) hPb hDb S.2.2 hl.1 rfl rfl (Nat.le_of_ble_eq_true rfl) dX2_isSame_128 ⟨(show 33 + 2 * i + 1 + 0 ≤ 60 by omega), (show 163 + 14 * i + 8 + 0 ≤ 300 by omega)⟩) (fun v w' H locs hv _ hP9 hD9 hS9 => ?_)
    obtain ⟨rfl, rfl⟩ := hv
    have S : sS D A s cI cR o z u (ra_w cI ob ad v ++ ((o2, .inr (2, rs_f z2 (rf_pay u))) :: (a2, .inl (cI, 8, .inl (upd (upd (upd (upd (upd (upd (upd (upd (fun _ => 0) 0 (u.1 0 i)) 1 (u.1 1 i)) 2 (u.1 2 i)) 3 (u.1 3 i)) 4 (u.1 4 i)) 5 (u.1 5 i)) 6 (u.1 6 i)) 7 (rf_hc u i)))) :: hw_w cI cB h u.2.1 r2 g2)) H locs := ⟨hP9, hD9, hS9⟩
    refine g_top (y := u.1 4 i) (e9_told hE i (by decide)) ?_
    refine lv_aload hx hb dX2_isSame_131 (lv_at hl 1 rfl) ?_
    refine lv_iload hx hb dX2_isSame_133 (lv_at hl 0 rfl) ?_
    refine x_ld C S 14 (n := 8) (f := (upd (upd (upd (upd (upd (upd (upd (upd (fun _ => 0) 0 (u.1 0 i)) 1 (u.1 1 i)) 2 (u.1 2 i)) 3 (u.1 3 i)) 4 (u.1 4 i)) 5 (u.1 5 i)) 6 (u.1 6 i)) 7 (rf_hc u i))) (i := 4) rfl (by omega) (by omega) rfl dX2_isSame_135 ?_
    refine g_top (y := u.1 4 i) (rfl) ?_
    refine lv_icmp_eq (tgt := 141) hx hb dX2_isSame_136 (by decide) (fun c12 => ?_) (fun c12 => absurd (rfl) c12)
    refine lv_iinc (v := nI 5) (lv' := [(9, .int (nI 5)), (8, .ref a2), (7, .ref (z.2.1 i)), (0, .ref o), (1, .ref ob), (2, .int (rf_sm (u.1 4) i)), (3, .int (rf_sm (u.1 5) i)), (4, .int (rf_sm (u.1 6) i)), (5, .ref o2), (6, .int (nI i))]) hx hb dX2_isSame_141 hl (k := 0) rfl (nI_1 _) (by decide) rfl (fun ls hl => ?_)
    refine lv_goto (tgt := 116) hx hb dX2_isSame_144 (by decide) ?_
    refine lv_iload hx hb dX2_isSame_116 (lv_at hl 0 rfl) ?_
    refine lv_bipush (v := 8) hx hb dX2_isSame_118 (by decide) ?_
    refine lv_icmp_ge (tgt := 147) hx hb dX2_isSame_120 (by decide) (fun c13 => absurd c13 (by decide)) (fun c13 => ?_)
    refine lv_aload_n hx hb dX2_isSame_123 rfl (lv_at hl 4 rfl) ?_
    refine lv_iload hx hb dX2_isSame_124 (lv_at hl 9 rfl) ?_
    refine lv_iload hx hb dX2_isSame_126 (lv_at hl 0 rfl) ?_
    refine m_ci (wa := rs_w cI cR o z u) (wb := ra_w cI ob ad v) (wd := ((o2, .inr (2, rs_f z2 (rf_pay u))) :: (a2, .inl (cI, 8, .inl (upd (upd (upd (upd (upd (upd (upd (upd (fun _ => 0) 0 (u.1 0 i)) 1 (u.1 1 i)) 2 (u.1 2 i)) 3 (u.1 3 i)) 4 (u.1 4 i)) 5 (u.1 5 i)) 6 (u.1 6 i)) 7 (rf_hc u i)))) :: hw_w cI cB h u.2.1 r2 g2)) (cells' := 33 + 2 * i + 1) (slots' := 163 + 14 * i + 8) rfl rfl C S.1 S.2.1 S.2.2 (fun hPb hDb => g_runV (wr := ((o2, .inr (2, rs_f z2 (rf_pay u))) :: (a2, .inl (cI, 8, .inl (upd (upd (upd (upd (upd (upd (upd (upd (fun _ => 0) 0 (u.1 0 i)) 1 (u.1 1 i)) 2 (u.1 2 i)) 3 (u.1 3 i)) 4 (u.1 4 i)) 5 (u.1 5 i)) 6 (u.1 6 i)) 7 (rf_hc u i)))) :: hw_w cI cB h u.2.1 r2 g2) ++ rs_w cI cR o z u) (n := 2) (As := [.int (nI i), .int (nI 5)]) C (mX0_told l D t cI ob ad H.size v (by rw [hE.n]; exact hu8) i (by rw [hE.n]; exact hin) 5 (by decide)) (rw_V q267 q220 q221 q2 q222) kd_X0_told ⟨Nat.le_of_ble_eq_true rfl, Nat.le_of_ble_eq_true rfl⟩ (ci := 0) rfl rfl rfl (C.2.2.2.2.2.1.sub (tys' := [(cI, .int)]) [0] rfl) hPb hDb S.2.2 hl.1 rfl rfl (Nat.le_of_ble_eq_true rfl) dX2_isSame_128 ⟨(show 33 + 2 * i + 1 + 0 ≤ 60 by omega), (show 163 + 14 * i + 8 + 0 ≤ 300 by omega)⟩) (fun v w' H locs hv _ hP9 hD9 hS9 => ?_)
    obtain ⟨rfl, rfl⟩ := hv
    have S : sS D A s cI cR o z u (ra_w cI ob ad v ++ ((o2, .inr (2, rs_f z2 (rf_pay u))) :: (a2, .inl (cI, 8, .inl (upd (upd (upd (upd (upd (upd (upd (upd (fun _ => 0) 0 (u.1 0 i)) 1 (u.1 1 i)) 2 (u.1 2 i)) 3 (u.1 3 i)) 4 (u.1 4 i)) 5 (u.1 5 i)) 6 (u.1 6 i)) 7 (rf_hc u i)))) :: hw_w cI cB h u.2.1 r2 g2)) H locs := ⟨hP9, hD9, hS9⟩
    refine g_top (y := u.1 5 i) (e9_told hE i (by decide)) ?_
    refine lv_aload hx hb dX2_isSame_131 (lv_at hl 1 rfl) ?_
    refine lv_iload hx hb dX2_isSame_133 (lv_at hl 0 rfl) ?_
    refine x_ld C S 14 (n := 8) (f := (upd (upd (upd (upd (upd (upd (upd (upd (fun _ => 0) 0 (u.1 0 i)) 1 (u.1 1 i)) 2 (u.1 2 i)) 3 (u.1 3 i)) 4 (u.1 4 i)) 5 (u.1 5 i)) 6 (u.1 6 i)) 7 (rf_hc u i))) (i := 5) rfl (by omega) (by omega) rfl dX2_isSame_135 ?_
    refine g_top (y := u.1 5 i) (rfl) ?_
    refine lv_icmp_eq (tgt := 141) hx hb dX2_isSame_136 (by decide) (fun c14 => ?_) (fun c14 => absurd (rfl) c14)
    refine lv_iinc (v := nI 6) (lv' := [(9, .int (nI 6)), (8, .ref a2), (7, .ref (z.2.1 i)), (0, .ref o), (1, .ref ob), (2, .int (rf_sm (u.1 4) i)), (3, .int (rf_sm (u.1 5) i)), (4, .int (rf_sm (u.1 6) i)), (5, .ref o2), (6, .int (nI i))]) hx hb dX2_isSame_141 hl (k := 0) rfl (nI_1 _) (by decide) rfl (fun ls hl => ?_)
    refine lv_goto (tgt := 116) hx hb dX2_isSame_144 (by decide) ?_
    refine lv_iload hx hb dX2_isSame_116 (lv_at hl 0 rfl) ?_
    refine lv_bipush (v := 8) hx hb dX2_isSame_118 (by decide) ?_
    refine lv_icmp_ge (tgt := 147) hx hb dX2_isSame_120 (by decide) (fun c15 => absurd c15 (by decide)) (fun c15 => ?_)
    refine lv_aload_n hx hb dX2_isSame_123 rfl (lv_at hl 4 rfl) ?_
    refine lv_iload hx hb dX2_isSame_124 (lv_at hl 9 rfl) ?_
    refine lv_iload hx hb dX2_isSame_126 (lv_at hl 0 rfl) ?_
    refine m_ci (wa := rs_w cI cR o z u) (wb := ra_w cI ob ad v) (wd := ((o2, .inr (2, rs_f z2 (rf_pay u))) :: (a2, .inl (cI, 8, .inl (upd (upd (upd (upd (upd (upd (upd (upd (fun _ => 0) 0 (u.1 0 i)) 1 (u.1 1 i)) 2 (u.1 2 i)) 3 (u.1 3 i)) 4 (u.1 4 i)) 5 (u.1 5 i)) 6 (u.1 6 i)) 7 (rf_hc u i)))) :: hw_w cI cB h u.2.1 r2 g2)) (cells' := 33 + 2 * i + 1) (slots' := 163 + 14 * i + 8) rfl rfl C S.1 S.2.1 S.2.2 (fun hPb hDb => g_runV (wr := ((o2, .inr (2, rs_f z2 (rf_pay u))) :: (a2, .inl (cI, 8, .inl (upd (upd (upd (upd (upd (upd (upd (upd (fun _ => 0) 0 (u.1 0 i)) 1 (u.1 1 i)) 2 (u.1 2 i)) 3 (u.1 3 i)) 4 (u.1 4 i)) 5 (u.1 5 i)) 6 (u.1 6 i)) 7 (rf_hc u i)))) :: hw_w cI cB h u.2.1 r2 g2) ++ rs_w cI cR o z u) (n := 2) (As := [.int (nI i), .int (nI 6)]) C (mX0_told l D t cI ob ad H.size v (by rw [hE.n]; exact hu8) i (by rw [hE.n]; exact hin) 6 (by decide)) (rw_V q267 q220 q221 q2 q222) kd_X0_told ⟨Nat.le_of_ble_eq_true rfl, Nat.le_of_ble_eq_true rfl⟩ (ci := 0) rfl rfl rfl (C.2.2.2.2.2.1.sub (tys' := [(cI, .int)]) [0] rfl) hPb hDb S.2.2 hl.1 rfl rfl (Nat.le_of_ble_eq_true rfl) dX2_isSame_128 ⟨(show 33 + 2 * i + 1 + 0 ≤ 60 by omega), (show 163 + 14 * i + 8 + 0 ≤ 300 by omega)⟩) (fun v w' H locs hv _ hP9 hD9 hS9 => ?_)
    obtain ⟨rfl, rfl⟩ := hv
    have S : sS D A s cI cR o z u (ra_w cI ob ad v ++ ((o2, .inr (2, rs_f z2 (rf_pay u))) :: (a2, .inl (cI, 8, .inl (upd (upd (upd (upd (upd (upd (upd (upd (fun _ => 0) 0 (u.1 0 i)) 1 (u.1 1 i)) 2 (u.1 2 i)) 3 (u.1 3 i)) 4 (u.1 4 i)) 5 (u.1 5 i)) 6 (u.1 6 i)) 7 (rf_hc u i)))) :: hw_w cI cB h u.2.1 r2 g2)) H locs := ⟨hP9, hD9, hS9⟩
    refine g_top (y := u.1 6 i) (e9_told hE i (by decide)) ?_
    refine lv_aload hx hb dX2_isSame_131 (lv_at hl 1 rfl) ?_
    refine lv_iload hx hb dX2_isSame_133 (lv_at hl 0 rfl) ?_
    refine x_ld C S 14 (n := 8) (f := (upd (upd (upd (upd (upd (upd (upd (upd (fun _ => 0) 0 (u.1 0 i)) 1 (u.1 1 i)) 2 (u.1 2 i)) 3 (u.1 3 i)) 4 (u.1 4 i)) 5 (u.1 5 i)) 6 (u.1 6 i)) 7 (rf_hc u i))) (i := 6) rfl (by omega) (by omega) rfl dX2_isSame_135 ?_
    refine g_top (y := u.1 6 i) (rfl) ?_
    refine lv_icmp_eq (tgt := 141) hx hb dX2_isSame_136 (by decide) (fun c16 => ?_) (fun c16 => absurd (rfl) c16)
    refine lv_iinc (v := nI 7) (lv' := [(9, .int (nI 7)), (8, .ref a2), (7, .ref (z.2.1 i)), (0, .ref o), (1, .ref ob), (2, .int (rf_sm (u.1 4) i)), (3, .int (rf_sm (u.1 5) i)), (4, .int (rf_sm (u.1 6) i)), (5, .ref o2), (6, .int (nI i))]) hx hb dX2_isSame_141 hl (k := 0) rfl (nI_1 _) (by decide) rfl (fun ls hl => ?_)
    refine lv_goto (tgt := 116) hx hb dX2_isSame_144 (by decide) ?_
    refine lv_iload hx hb dX2_isSame_116 (lv_at hl 0 rfl) ?_
    refine lv_bipush (v := 8) hx hb dX2_isSame_118 (by decide) ?_
    refine lv_icmp_ge (tgt := 147) hx hb dX2_isSame_120 (by decide) (fun c17 => absurd c17 (by decide)) (fun c17 => ?_)
    refine lv_aload_n hx hb dX2_isSame_123 rfl (lv_at hl 4 rfl) ?_
    refine lv_iload hx hb dX2_isSame_124 (lv_at hl 9 rfl) ?_
    refine lv_iload hx hb dX2_isSame_126 (lv_at hl 0 rfl) ?_
    refine m_ci (wa := rs_w cI cR o z u) (wb := ra_w cI ob ad v) (wd := ((o2, .inr (2, rs_f z2 (rf_pay u))) :: (a2, .inl (cI, 8, .inl (upd (upd (upd (upd (upd (upd (upd (upd (fun _ => 0) 0 (u.1 0 i)) 1 (u.1 1 i)) 2 (u.1 2 i)) 3 (u.1 3 i)) 4 (u.1 4 i)) 5 (u.1 5 i)) 6 (u.1 6 i)) 7 (rf_hc u i)))) :: hw_w cI cB h u.2.1 r2 g2)) (cells' := 33 + 2 * i + 1) (slots' := 163 + 14 * i + 8) rfl rfl C S.1 S.2.1 S.2.2 (fun hPb hDb => g_runV (wr := ((o2, .inr (2, rs_f z2 (rf_pay u))) :: (a2, .inl (cI, 8, .inl (upd (upd (upd (upd (upd (upd (upd (upd (fun _ => 0) 0 (u.1 0 i)) 1 (u.1 1 i)) 2 (u.1 2 i)) 3 (u.1 3 i)) 4 (u.1 4 i)) 5 (u.1 5 i)) 6 (u.1 6 i)) 7 (rf_hc u i)))) :: hw_w cI cB h u.2.1 r2 g2) ++ rs_w cI cR o z u) (n := 2) (As := [.int (nI i), .int (nI 7)]) C (mX0_told l D t cI ob ad H.size v (by rw [hE.n]; exact hu8) i (by rw [hE.n]; exact hin) 7 (by decide)) (rw_V q267 q220 q221 q2 q222) kd_X0_told ⟨Nat.le_of_ble_eq_true rfl, Nat.le_of_ble_eq_true rfl⟩ (ci := 0) rfl rfl rfl (C.2.2.2.2.2.1.sub (tys' := [(cI, .int)]) [0] rfl) hPb hDb S.2.2 hl.1 rfl rfl (Nat.le_of_ble_eq_true rfl) dX2_isSame_128 ⟨(show 33 + 2 * i + 1 + 0 ≤ 60 by omega), (show 163 + 14 * i + 8 + 0 ≤ 300 by omega)⟩) (fun v w' H locs hv _ hP9 hD9 hS9 => ?_)
    obtain ⟨rfl, rfl⟩ := hv
    have S : sS D A s cI cR o z u (ra_w cI ob ad v ++ ((o2, .inr (2, rs_f z2 (rf_pay u))) :: (a2, .inl (cI, 8, .inl (upd (upd (upd (upd (upd (upd (upd (upd (fun _ => 0) 0 (u.1 0 i)) 1 (u.1 1 i)) 2 (u.1 2 i)) 3 (u.1 3 i)) 4 (u.1 4 i)) 5 (u.1 5 i)) 6 (u.1 6 i)) 7 (rf_hc u i)))) :: hw_w cI cB h u.2.1 r2 g2)) H locs := ⟨hP9, hD9, hS9⟩
    refine g_top (y := rf_hc u i) (e9_told7 hE i) ?_
    refine lv_aload hx hb dX2_isSame_131 (lv_at hl 1 rfl) ?_
    refine lv_iload hx hb dX2_isSame_133 (lv_at hl 0 rfl) ?_
    refine x_ld C S 14 (n := 8) (f := (upd (upd (upd (upd (upd (upd (upd (upd (fun _ => 0) 0 (u.1 0 i)) 1 (u.1 1 i)) 2 (u.1 2 i)) 3 (u.1 3 i)) 4 (u.1 4 i)) 5 (u.1 5 i)) 6 (u.1 6 i)) 7 (rf_hc u i))) (i := 7) rfl (by omega) (by omega) rfl dX2_isSame_135 ?_
    refine g_top (y := rf_hc u i) (rfl) ?_
    refine lv_icmp_eq (tgt := 141) hx hb dX2_isSame_136 (by decide) (fun c18 => ?_) (fun c18 => absurd (rfl) c18)
    refine lv_iinc (v := nI 8) (lv' := [(9, .int (nI 8)), (8, .ref a2), (7, .ref (z.2.1 i)), (0, .ref o), (1, .ref ob), (2, .int (rf_sm (u.1 4) i)), (3, .int (rf_sm (u.1 5) i)), (4, .int (rf_sm (u.1 6) i)), (5, .ref o2), (6, .int (nI i))]) hx hb dX2_isSame_141 hl (k := 0) rfl (nI_1 _) (by decide) rfl (fun ls hl => ?_)
    refine lv_goto (tgt := 116) hx hb dX2_isSame_144 (by decide) ?_
    refine lv_iload hx hb dX2_isSame_116 (lv_at hl 0 rfl) ?_
    refine lv_bipush (v := 8) hx hb dX2_isSame_118 (by decide) ?_
    refine lv_icmp_ge (tgt := 147) hx hb dX2_isSame_120 (by decide) (fun c19 => ?_) (fun c19 => absurd (by decide) c19)
    refine lv_aload hx hb dX2_isSame_147 (lv_at hl 2 rfl) ?_
    refine lv_aload_n hx hb dX2_isSame_149 rfl (lv_at hl 3 rfl) ?_
    refine s_gf C S 1 (by decide) (v := .ref (z.1 0)) rfl rfl q33 dX2_isSame_150 ?_
    refine m_ci (wa := []) (wb := rs_w cI cR o z u) (wd := ra_w cI ob ad v ++ ((o2, .inr (2, rs_f z2 (rf_pay u))) :: (a2, .inl (cI, 8, .inl (upd (upd (upd (upd (upd (upd (upd (upd (fun _ => 0) 0 (u.1 0 i)) 1 (u.1 1 i)) 2 (u.1 2 i)) 3 (u.1 3 i)) 4 (u.1 4 i)) 5 (u.1 5 i)) 6 (u.1 6 i)) 7 (rf_hc u i)))) :: hw_w cI cB h u.2.1 r2 g2)) (cells' := 33 + 2 * i + 1) (slots' := 163 + 14 * i + 8) rfl rfl C S.1 S.2.1 S.2.2 (fun hPb hDb => g_runVj (n := 1) (As := [.ref (z.1 0)]) C (mX1_wage l D t cI cR cB o z H.size u T B i hin) (rw_V q172 q173 q174 q51 q175) kd_X1_wage ⟨Nat.le_of_ble_eq_true rfl, Nat.le_of_ble_eq_true rfl⟩ (ci := 1) rfl rfl (4 + i) (rs_rp hin) C.2.2.2.2.2.1 hPb hDb S.2.2 hl.1 rfl rfl (Nat.le_of_ble_eq_true rfl) dX2_isSame_153 ⟨(show 33 + 2 * i + 1 + 0 ≤ 60 by omega), (show 163 + 14 * i + 8 + 0 ≤ 300 by omega)⟩) (fun v w' H locs hv _ hP9 hD9 hS9 => ?_)
    obtain ⟨rfl, rfl⟩ := hv
    have S : sS D A s cI cR o z u (ra_w cI ob ad v ++ ((o2, .inr (2, rs_f z2 (rf_pay u))) :: (a2, .inl (cI, 8, .inl (upd (upd (upd (upd (upd (upd (upd (upd (fun _ => 0) 0 (u.1 0 i)) 1 (u.1 1 i)) 2 (u.1 2 i)) 3 (u.1 3 i)) 4 (u.1 4 i)) 5 (u.1 5 i)) 6 (u.1 6 i)) 7 (rf_hc u i)))) :: hw_w cI cB h u.2.1 r2 g2)) H locs := ⟨hP9, hD9, hS9⟩
    refine lv_aload hx hb dX2_isSame_156 (lv_at hl 2 rfl) ?_
    refine r_gf C S 5 i (by decide) hin (v := .int (u.1 5 i)) rfl rfl q161 dX2_isSame_158 ?_
    refine lv_iadd hx hb dX2_isSame_161 ?_
    refine lv_istore (lv' := [(9, .int ((rf_ww u 7 i) + (u.1 5 i))), (8, .ref a2), (7, .ref (z.2.1 i)), (0, .ref o), (1, .ref ob), (2, .int (rf_sm (u.1 4) i)), (3, .int (rf_sm (u.1 5) i)), (4, .int (rf_sm (u.1 6) i)), (5, .ref o2), (6, .int (nI i))]) hx hb dX2_isSame_162 hl (by decide) rfl (fun ls hl => ?_)
    refine lv_bipush (v := 6) hx hb dX2_isSame_164 (by decide) ?_
    refine x_new C S (N := 6) rfl (by omega) q4 (cells' := 33 + 2 * i + 1 + 1) (slots' := 163 + 14 * i + 8 + 6) rfl rfl (show 33 + 2 * i + 1 + 1 ≤ 60 by omega) (show 163 + 14 * i + 8 + 6 ≤ 300 by omega) dX2_isSame_166 (fun a20 H S => ?_)
    have S : sS D A s cI cR o z u (ra_w cI ob ad v ++ ((o2, .inr (2, rs_f z2 (rf_pay u))) :: (a2, .inl (cI, 8, .inl (upd (upd (upd (upd (upd (upd (upd (upd (fun _ => 0) 0 (u.1 0 i)) 1 (u.1 1 i)) 2 (u.1 2 i)) 3 (u.1 3 i)) 4 (u.1 4 i)) 5 (u.1 5 i)) 6 (u.1 6 i)) 7 (rf_hc u i)))) :: (a20, .inl (cI, 6, .inl (fun _ => 0))) :: hw_w cI cB h u.2.1 r2 g2)) H locs := S.re (fun q hq => by simp only [List.mem_append, List.mem_cons, List.not_mem_nil, or_false, false_or] at hq ⊢; first | exact hq | grind) (fun a => by simp only [List.map_append, List.map_cons, List.map_nil, List.count_append, List.count_cons, List.count_nil]; omega)
    refine lv_dup hx hb dX2_isSame_168 rfl ?_
    refine lv_iconst (v := 0) hx hb dX2_isSame_169 (by decide) ?_
    refine lv_aload hx hb dX2_isSame_170 (lv_at hl 2 rfl) ?_
    refine lv_aload_n hx hb dX2_isSame_172 rfl (lv_at hl 3 rfl) ?_
    refine s_gf C S 1 (by decide) (v := .ref (z.1 0)) rfl rfl q33 dX2_isSame_173 ?_
    refine m_ci (wa := []) (wb := rs_w cI cR o z u) (wd := ra_w cI ob ad v ++ ((o2, .inr (2, rs_f z2 (rf_pay u))) :: (a2, .inl (cI, 8, .inl (upd (upd (upd (upd (upd (upd (upd (upd (fun _ => 0) 0 (u.1 0 i)) 1 (u.1 1 i)) 2 (u.1 2 i)) 3 (u.1 3 i)) 4 (u.1 4 i)) 5 (u.1 5 i)) 6 (u.1 6 i)) 7 (rf_hc u i)))) :: (a20, .inl (cI, 6, .inl (fun _ => 0))) :: hw_w cI cB h u.2.1 r2 g2)) (cells' := 33 + 2 * i + 1 + 1) (slots' := 163 + 14 * i + 8 + 6) rfl rfl C S.1 S.2.1 S.2.2 (fun hPb hDb => g_runVj (n := 1) (As := [.ref (z.1 0)]) C (mX1_pieces l D t cI cR cB o z H.size u T B i hin) (rw_V q268 q178 q179 q51 q180) kd_X1_pieces ⟨Nat.le_of_ble_eq_true rfl, Nat.le_of_ble_eq_true rfl⟩ (ci := 1) rfl rfl (4 + i) (rs_rp hin) C.2.2.2.2.2.1 hPb hDb S.2.2 hl.1 rfl rfl (Nat.le_of_ble_eq_true rfl) dX2_isSame_176 ⟨(show 33 + 2 * i + 1 + 1 + 0 ≤ 60 by omega), (show 163 + 14 * i + 8 + 6 + 0 ≤ 300 by omega)⟩) (fun v w' H locs hv _ hP9 hD9 hS9 => ?_)
    obtain ⟨rfl, rfl⟩ := hv
    have S : sS D A s cI cR o z u (ra_w cI ob ad v ++ ((o2, .inr (2, rs_f z2 (rf_pay u))) :: (a2, .inl (cI, 8, .inl (upd (upd (upd (upd (upd (upd (upd (upd (fun _ => 0) 0 (u.1 0 i)) 1 (u.1 1 i)) 2 (u.1 2 i)) 3 (u.1 3 i)) 4 (u.1 4 i)) 5 (u.1 5 i)) 6 (u.1 6 i)) 7 (rf_hc u i)))) :: (a20, .inl (cI, 6, .inl (fun _ => 0))) :: hw_w cI cB h u.2.1 r2 g2)) H locs := ⟨hP9, hD9, hS9⟩
    refine x_st C S 15 (n := 6) (f := (fun _ => 0)) (i := 0) rfl (by omega) (by omega) rfl dX2_isSame_179 (fun H locs S => ?_)
    have S : sS D A s cI cR o z u (ra_w cI ob ad v ++ ((o2, .inr (2, rs_f z2 (rf_pay u))) :: (a2, .inl (cI, 8, .inl (upd (upd (upd (upd (upd (upd (upd (upd (fun _ => 0) 0 (u.1 0 i)) 1 (u.1 1 i)) 2 (u.1 2 i)) 3 (u.1 3 i)) 4 (u.1 4 i)) 5 (u.1 5 i)) 6 (u.1 6 i)) 7 (rf_hc u i)))) :: (a20, .inl (cI, 6, .inl (upd (fun _ => 0) 0 (rf_pc u 7 i)))) :: hw_w cI cB h u.2.1 r2 g2)) H locs := S
    refine lv_dup hx hb dX2_isSame_180 rfl ?_
    refine lv_iconst (v := 1) hx hb dX2_isSame_181 (by decide) ?_
    refine lv_aload_n hx hb dX2_isSame_182 rfl (lv_at hl 3 rfl) ?_
    refine s_gf C S 1 (by decide) (v := .ref (z.1 0)) rfl rfl q33 dX2_isSame_183 ?_
    refine lv_iconst (v := 1) hx hb dX2_isSame_186 (by decide) ?_
    refine s_l7 C S (i := 1) (by decide) rfl dX2_isSame_187 ?_
    refine lv_aload hx hb dX2_isSame_188 (lv_at hl 2 rfl) ?_
    refine m_ci (wa := []) (wb := rs_w cI cR o z u) (wd := ra_w cI ob ad v ++ ((o2, .inr (2, rs_f z2 (rf_pay u))) :: (a2, .inl (cI, 8, .inl (upd (upd (upd (upd (upd (upd (upd (upd (fun _ => 0) 0 (u.1 0 i)) 1 (u.1 1 i)) 2 (u.1 2 i)) 3 (u.1 3 i)) 4 (u.1 4 i)) 5 (u.1 5 i)) 6 (u.1 6 i)) 7 (rf_hc u i)))) :: (a20, .inl (cI, 6, .inl (upd (fun _ => 0) 0 (rf_pc u 7 i)))) :: hw_w cI cB h u.2.1 r2 g2)) (cells' := 33 + 2 * i + 1 + 1) (slots' := 163 + 14 * i + 8 + 6) rfl rfl C S.1 S.2.1 S.2.2 (fun hPb hDb => g_runVj (n := 0) (As := []) C (mX1_counting l D t cI cR cB o z H.size u T B i hin) (rw_V q266 q183 q184 q51 q185) kd_X1_counting ⟨Nat.le_of_ble_eq_true rfl, Nat.le_of_ble_eq_true rfl⟩ (ci := 1) rfl rfl (4 + i) (rs_rp hin) C.2.2.2.2.2.1 hPb hDb S.2.2 hl.1 rfl rfl (Nat.le_of_ble_eq_true rfl) dX2_isSame_190 ⟨(show 33 + 2 * i + 1 + 1 + 0 ≤ 60 by omega), (show 163 + 14 * i + 8 + 6 + 0 ≤ 300 by omega)⟩) (fun v w' H locs hv _ hP9 hD9 hS9 => ?_)
    obtain ⟨rfl, rfl⟩ := hv
    have S : sS D A s cI cR o z u (ra_w cI ob ad v ++ ((o2, .inr (2, rs_f z2 (rf_pay u))) :: (a2, .inl (cI, 8, .inl (upd (upd (upd (upd (upd (upd (upd (upd (fun _ => 0) 0 (u.1 0 i)) 1 (u.1 1 i)) 2 (u.1 2 i)) 3 (u.1 3 i)) 4 (u.1 4 i)) 5 (u.1 5 i)) 6 (u.1 6 i)) 7 (rf_hc u i)))) :: (a20, .inl (cI, 6, .inl (upd (fun _ => 0) 0 (rf_pc u 7 i)))) :: hw_w cI cB h u.2.1 r2 g2)) H locs := ⟨hP9, hD9, hS9⟩
    refine lv_imul hx hb dX2_isSame_193 ?_
    refine x_st C S 15 (n := 6) (f := (upd (fun _ => 0) 0 (rf_pc u 7 i))) (i := 1) rfl (by omega) (by omega) rfl dX2_isSame_194 (fun H locs S => ?_)
    have S : sS D A s cI cR o z u (ra_w cI ob ad v ++ ((o2, .inr (2, rs_f z2 (rf_pay u))) :: (a2, .inl (cI, 8, .inl (upd (upd (upd (upd (upd (upd (upd (upd (fun _ => 0) 0 (u.1 0 i)) 1 (u.1 1 i)) 2 (u.1 2 i)) 3 (u.1 3 i)) 4 (u.1 4 i)) 5 (u.1 5 i)) 6 (u.1 6 i)) 7 (rf_hc u i)))) :: (a20, .inl (cI, 6, .inl (upd (upd (fun _ => 0) 0 (rf_pc u 7 i)) 1 ((u.1 7 1) * (rf_hc u i))))) :: hw_w cI cB h u.2.1 r2 g2)) H locs := S
    refine lv_dup hx hb dX2_isSame_195 rfl ?_
    refine lv_iconst (v := 2) hx hb dX2_isSame_196 (by decide) ?_
    refine lv_aload hx hb dX2_isSame_197 (lv_at hl 2 rfl) ?_
    refine lv_aload_n hx hb dX2_isSame_199 rfl (lv_at hl 3 rfl) ?_
    refine s_gf C S 1 (by decide) (v := .ref (z.1 0)) rfl rfl q33 dX2_isSame_200 ?_
    refine m_ci (wa := []) (wb := rs_w cI cR o z u) (wd := ra_w cI ob ad v ++ ((o2, .inr (2, rs_f z2 (rf_pay u))) :: (a2, .inl (cI, 8, .inl (upd (upd (upd (upd (upd (upd (upd (upd (fun _ => 0) 0 (u.1 0 i)) 1 (u.1 1 i)) 2 (u.1 2 i)) 3 (u.1 3 i)) 4 (u.1 4 i)) 5 (u.1 5 i)) 6 (u.1 6 i)) 7 (rf_hc u i)))) :: (a20, .inl (cI, 6, .inl (upd (upd (fun _ => 0) 0 (rf_pc u 7 i)) 1 ((u.1 7 1) * (rf_hc u i))))) :: hw_w cI cB h u.2.1 r2 g2)) (cells' := 33 + 2 * i + 1 + 1) (slots' := 163 + 14 * i + 8 + 6) rfl rfl C S.1 S.2.1 S.2.2 (fun hPb hDb => g_runVj (n := 1) (As := [.ref (z.1 0)]) C (mX1_wage l D t cI cR cB o z H.size u T B i hin) (rw_V q172 q173 q174 q51 q175) kd_X1_wage ⟨Nat.le_of_ble_eq_true rfl, Nat.le_of_ble_eq_true rfl⟩ (ci := 1) rfl rfl (4 + i) (rs_rp hin) C.2.2.2.2.2.1 hPb hDb S.2.2 hl.1 rfl rfl (Nat.le_of_ble_eq_true rfl) dX2_isSame_203 ⟨(show 33 + 2 * i + 1 + 1 + 0 ≤ 60 by omega), (show 163 + 14 * i + 8 + 6 + 0 ≤ 300 by omega)⟩) (fun v w' H locs hv _ hP9 hD9 hS9 => ?_)
    obtain ⟨rfl, rfl⟩ := hv
    have S : sS D A s cI cR o z u (ra_w cI ob ad v ++ ((o2, .inr (2, rs_f z2 (rf_pay u))) :: (a2, .inl (cI, 8, .inl (upd (upd (upd (upd (upd (upd (upd (upd (fun _ => 0) 0 (u.1 0 i)) 1 (u.1 1 i)) 2 (u.1 2 i)) 3 (u.1 3 i)) 4 (u.1 4 i)) 5 (u.1 5 i)) 6 (u.1 6 i)) 7 (rf_hc u i)))) :: (a20, .inl (cI, 6, .inl (upd (upd (fun _ => 0) 0 (rf_pc u 7 i)) 1 ((u.1 7 1) * (rf_hc u i))))) :: hw_w cI cB h u.2.1 r2 g2)) H locs := ⟨hP9, hD9, hS9⟩
    refine x_st C S 15 (n := 6) (f := (upd (upd (fun _ => 0) 0 (rf_pc u 7 i)) 1 ((u.1 7 1) * (rf_hc u i)))) (i := 2) rfl (by omega) (by omega) rfl dX2_isSame_206 (fun H locs S => ?_)
    have S : sS D A s cI cR o z u (ra_w cI ob ad v ++ ((o2, .inr (2, rs_f z2 (rf_pay u))) :: (a2, .inl (cI, 8, .inl (upd (upd (upd (upd (upd (upd (upd (upd (fun _ => 0) 0 (u.1 0 i)) 1 (u.1 1 i)) 2 (u.1 2 i)) 3 (u.1 3 i)) 4 (u.1 4 i)) 5 (u.1 5 i)) 6 (u.1 6 i)) 7 (rf_hc u i)))) :: (a20, .inl (cI, 6, .inl (upd (upd (upd (fun _ => 0) 0 (rf_pc u 7 i)) 1 ((u.1 7 1) * (rf_hc u i))) 2 (rf_ww u 7 i)))) :: hw_w cI cB h u.2.1 r2 g2)) H locs := S
    refine lv_dup hx hb dX2_isSame_207 rfl ?_
    refine lv_iconst (v := 3) hx hb dX2_isSame_208 (by decide) ?_
    refine lv_iload hx hb dX2_isSame_209 (lv_at hl 0 rfl) ?_
    refine x_st C S 15 (n := 6) (f := (upd (upd (upd (fun _ => 0) 0 (rf_pc u 7 i)) 1 ((u.1 7 1) * (rf_hc u i))) 2 (rf_ww u 7 i))) (i := 3) rfl (by omega) (by omega) rfl dX2_isSame_211 (fun H locs S => ?_)
    have S : sS D A s cI cR o z u (ra_w cI ob ad v ++ ((o2, .inr (2, rs_f z2 (rf_pay u))) :: (a2, .inl (cI, 8, .inl (upd (upd (upd (upd (upd (upd (upd (upd (fun _ => 0) 0 (u.1 0 i)) 1 (u.1 1 i)) 2 (u.1 2 i)) 3 (u.1 3 i)) 4 (u.1 4 i)) 5 (u.1 5 i)) 6 (u.1 6 i)) 7 (rf_hc u i)))) :: (a20, .inl (cI, 6, .inl (upd (upd (upd (upd (fun _ => 0) 0 (rf_pc u 7 i)) 1 ((u.1 7 1) * (rf_hc u i))) 2 (rf_ww u 7 i)) 3 ((rf_ww u 7 i) + (u.1 5 i))))) :: hw_w cI cB h u.2.1 r2 g2)) H locs := S
    refine lv_dup hx hb dX2_isSame_212 rfl ?_
    refine lv_iconst (v := 4) hx hb dX2_isSame_213 (by decide) ?_
    refine lv_aload_n hx hb dX2_isSame_214 rfl (lv_at hl 3 rfl) ?_
    refine lv_aload hx hb dX2_isSame_215 (lv_at hl 2 rfl) ?_
    refine m_ci (wa := []) (wb := rs_w cI cR o z u) (wd := ra_w cI ob ad v ++ ((o2, .inr (2, rs_f z2 (rf_pay u))) :: (a2, .inl (cI, 8, .inl (upd (upd (upd (upd (upd (upd (upd (upd (fun _ => 0) 0 (u.1 0 i)) 1 (u.1 1 i)) 2 (u.1 2 i)) 3 (u.1 3 i)) 4 (u.1 4 i)) 5 (u.1 5 i)) 6 (u.1 6 i)) 7 (rf_hc u i)))) :: (a20, .inl (cI, 6, .inl (upd (upd (upd (upd (fun _ => 0) 0 (rf_pc u 7 i)) 1 ((u.1 7 1) * (rf_hc u i))) 2 (rf_ww u 7 i)) 3 ((rf_ww u 7 i) + (u.1 5 i))))) :: hw_w cI cB h u.2.1 r2 g2)) (cells' := 33 + 2 * i + 1 + 1) (slots' := 163 + 14 * i + 8 + 6) rfl rfl C S.1 S.2.1 S.2.2 (fun hPb hDb => g_runVj (n := 1) (As := [.ref (z.2.1 i)]) C (mX2_back l D t cI cR cB o z H.size u T B i hin) (rw_V q168 q169 q170 q29 q171) kd_X2_back ⟨Nat.le_of_ble_eq_true rfl, Nat.le_of_ble_eq_true rfl⟩ (ci := 2) rfl rfl 0 rfl C.2.2.2.2.2.1 hPb hDb S.2.2 hl.1 rfl rfl (Nat.le_of_ble_eq_true rfl) dX2_isSame_217 ⟨(show 33 + 2 * i + 1 + 1 + 0 ≤ 60 by omega), (show 163 + 14 * i + 8 + 6 + 0 ≤ 300 by omega)⟩) (fun v w' H locs hv _ hP9 hD9 hS9 => ?_)
    obtain ⟨rfl, rfl⟩ := hv
    have S : sS D A s cI cR o z u (ra_w cI ob ad v ++ ((o2, .inr (2, rs_f z2 (rf_pay u))) :: (a2, .inl (cI, 8, .inl (upd (upd (upd (upd (upd (upd (upd (upd (fun _ => 0) 0 (u.1 0 i)) 1 (u.1 1 i)) 2 (u.1 2 i)) 3 (u.1 3 i)) 4 (u.1 4 i)) 5 (u.1 5 i)) 6 (u.1 6 i)) 7 (rf_hc u i)))) :: (a20, .inl (cI, 6, .inl (upd (upd (upd (upd (fun _ => 0) 0 (rf_pc u 7 i)) 1 ((u.1 7 1) * (rf_hc u i))) 2 (rf_ww u 7 i)) 3 ((rf_ww u 7 i) + (u.1 5 i))))) :: hw_w cI cB h u.2.1 r2 g2)) H locs := ⟨hP9, hD9, hS9⟩
    refine x_st C S 15 (n := 6) (f := (upd (upd (upd (upd (fun _ => 0) 0 (rf_pc u 7 i)) 1 ((u.1 7 1) * (rf_hc u i))) 2 (rf_ww u 7 i)) 3 ((rf_ww u 7 i) + (u.1 5 i)))) (i := 4) rfl (by omega) (by omega) rfl dX2_isSame_220 (fun H locs S => ?_)
    have S : sS D A s cI cR o z u (ra_w cI ob ad v ++ ((o2, .inr (2, rs_f z2 (rf_pay u))) :: (a2, .inl (cI, 8, .inl (upd (upd (upd (upd (upd (upd (upd (upd (fun _ => 0) 0 (u.1 0 i)) 1 (u.1 1 i)) 2 (u.1 2 i)) 3 (u.1 3 i)) 4 (u.1 4 i)) 5 (u.1 5 i)) 6 (u.1 6 i)) 7 (rf_hc u i)))) :: (a20, .inl (cI, 6, .inl (upd (upd (upd (upd (upd (fun _ => 0) 0 (rf_pc u 7 i)) 1 ((u.1 7 1) * (rf_hc u i))) 2 (rf_ww u 7 i)) 3 ((rf_ww u 7 i) + (u.1 5 i))) 4 (rf_tk u i)))) :: hw_w cI cB h u.2.1 r2 g2)) H locs := S
    refine lv_dup hx hb dX2_isSame_221 rfl ?_
    refine lv_iconst (v := 5) hx hb dX2_isSame_222 (by decide) ?_
    refine lv_iload hx hb dX2_isSame_223 (lv_at hl 0 rfl) ?_
    refine lv_aload_n hx hb dX2_isSame_225 rfl (lv_at hl 3 rfl) ?_
    refine lv_aload hx hb dX2_isSame_226 (lv_at hl 2 rfl) ?_
    refine m_ci (wa := []) (wb := rs_w cI cR o z u) (wd := ra_w cI ob ad v ++ ((o2, .inr (2, rs_f z2 (rf_pay u))) :: (a2, .inl (cI, 8, .inl (upd (upd (upd (upd (upd (upd (upd (upd (fun _ => 0) 0 (u.1 0 i)) 1 (u.1 1 i)) 2 (u.1 2 i)) 3 (u.1 3 i)) 4 (u.1 4 i)) 5 (u.1 5 i)) 6 (u.1 6 i)) 7 (rf_hc u i)))) :: (a20, .inl (cI, 6, .inl (upd (upd (upd (upd (upd (fun _ => 0) 0 (rf_pc u 7 i)) 1 ((u.1 7 1) * (rf_hc u i))) 2 (rf_ww u 7 i)) 3 ((rf_ww u 7 i) + (u.1 5 i))) 4 (rf_tk u i)))) :: hw_w cI cB h u.2.1 r2 g2)) (cells' := 33 + 2 * i + 1 + 1) (slots' := 163 + 14 * i + 8 + 6) rfl rfl C S.1 S.2.1 S.2.2 (fun hPb hDb => g_runVj (n := 1) (As := [.ref (z.2.1 i)]) C (mX2_back l D t cI cR cB o z H.size u T B i hin) (rw_V q168 q169 q170 q29 q171) kd_X2_back ⟨Nat.le_of_ble_eq_true rfl, Nat.le_of_ble_eq_true rfl⟩ (ci := 2) rfl rfl 0 rfl C.2.2.2.2.2.1 hPb hDb S.2.2 hl.1 rfl rfl (Nat.le_of_ble_eq_true rfl) dX2_isSame_228 ⟨(show 33 + 2 * i + 1 + 1 + 0 ≤ 60 by omega), (show 163 + 14 * i + 8 + 6 + 0 ≤ 300 by omega)⟩) (fun v w' H locs hv _ hP9 hD9 hS9 => ?_)
    obtain ⟨rfl, rfl⟩ := hv
    have S : sS D A s cI cR o z u (ra_w cI ob ad v ++ ((o2, .inr (2, rs_f z2 (rf_pay u))) :: (a2, .inl (cI, 8, .inl (upd (upd (upd (upd (upd (upd (upd (upd (fun _ => 0) 0 (u.1 0 i)) 1 (u.1 1 i)) 2 (u.1 2 i)) 3 (u.1 3 i)) 4 (u.1 4 i)) 5 (u.1 5 i)) 6 (u.1 6 i)) 7 (rf_hc u i)))) :: (a20, .inl (cI, 6, .inl (upd (upd (upd (upd (upd (fun _ => 0) 0 (rf_pc u 7 i)) 1 ((u.1 7 1) * (rf_hc u i))) 2 (rf_ww u 7 i)) 3 ((rf_ww u 7 i) + (u.1 5 i))) 4 (rf_tk u i)))) :: hw_w cI cB h u.2.1 r2 g2)) H locs := ⟨hP9, hD9, hS9⟩
    refine lv_isub hx hb dX2_isSame_231 ?_
    refine x_st C S 15 (n := 6) (f := (upd (upd (upd (upd (upd (fun _ => 0) 0 (rf_pc u 7 i)) 1 ((u.1 7 1) * (rf_hc u i))) 2 (rf_ww u 7 i)) 3 ((rf_ww u 7 i) + (u.1 5 i))) 4 (rf_tk u i))) (i := 5) rfl (by omega) (by omega) rfl dX2_isSame_232 (fun H locs S => ?_)
    have S : sS D A s cI cR o z u (ra_w cI ob ad v ++ ((o2, .inr (2, rs_f z2 (rf_pay u))) :: (a2, .inl (cI, 8, .inl (upd (upd (upd (upd (upd (upd (upd (upd (fun _ => 0) 0 (u.1 0 i)) 1 (u.1 1 i)) 2 (u.1 2 i)) 3 (u.1 3 i)) 4 (u.1 4 i)) 5 (u.1 5 i)) 6 (u.1 6 i)) 7 (rf_hc u i)))) :: (a20, .inl (cI, 6, .inl (upd (upd (upd (upd (upd (upd (fun _ => 0) 0 (rf_pc u 7 i)) 1 ((u.1 7 1) * (rf_hc u i))) 2 (rf_ww u 7 i)) 3 ((rf_ww u 7 i) + (u.1 5 i))) 4 (rf_tk u i)) 5 (((rf_ww u 7 i) + (u.1 5 i)) - (rf_tk u i))))) :: hw_w cI cB h u.2.1 r2 g2)) H locs := S
    refine lv_astore (lv' := [(10, .ref a20), (9, .int ((rf_ww u 7 i) + (u.1 5 i))), (8, .ref a2), (7, .ref (z.2.1 i)), (0, .ref o), (1, .ref ob), (2, .int (rf_sm (u.1 4) i)), (3, .int (rf_sm (u.1 5) i)), (4, .int (rf_sm (u.1 6) i)), (5, .ref o2), (6, .int (nI i))]) hx hb dX2_isSame_233 hl (by decide) rfl (fun ls hl => ?_)
    refine lv_iconst (v := 0) hx hb dX2_isSame_235 (by decide) ?_
    refine lv_istore (lv' := [(11, .int 0), (10, .ref a20), (9, .int ((rf_ww u 7 i) + (u.1 5 i))), (8, .ref a2), (7, .ref (z.2.1 i)), (0, .ref o), (1, .ref ob), (2, .int (rf_sm (u.1 4) i)), (3, .int (rf_sm (u.1 5) i)), (4, .int (rf_sm (u.1 6) i)), (5, .ref o2), (6, .int (nI i))]) hx hb dX2_isSame_236 hl (by decide) rfl (fun ls hl => ?_)
    refine lv_iload hx hb dX2_isSame_238 (lv_at hl 0 rfl) ?_
    refine lv_bipush (v := 6) hx hb dX2_isSame_240 (by decide) ?_
    refine lv_icmp_ge (tgt := 269) hx hb dX2_isSame_242 (by decide) (fun c21 => absurd c21 (by decide)) (fun c21 => ?_)
    refine lv_aload_n hx hb dX2_isSame_245 rfl (lv_at hl 6 rfl) ?_
    refine lv_iload hx hb dX2_isSame_246 (lv_at hl 11 rfl) ?_
    refine lv_iload hx hb dX2_isSame_248 (lv_at hl 0 rfl) ?_
    refine m_ci (wa := rs_w cI cR o z u) (wb := ra_w cI ob ad v) (wd := ((o2, .inr (2, rs_f z2 (rf_pay u))) :: (a2, .inl (cI, 8, .inl (upd (upd (upd (upd (upd (upd (upd (upd (fun _ => 0) 0 (u.1 0 i)) 1 (u.1 1 i)) 2 (u.1 2 i)) 3 (u.1 3 i)) 4 (u.1 4 i)) 5 (u.1 5 i)) 6 (u.1 6 i)) 7 (rf_hc u i)))) :: (a20, .inl (cI, 6, .inl (upd (upd (upd (upd (upd (upd (fun _ => 0) 0 (rf_pc u 7 i)) 1 ((u.1 7 1) * (rf_hc u i))) 2 (rf_ww u 7 i)) 3 ((rf_ww u 7 i) + (u.1 5 i))) 4 (rf_tk u i)) 5 (((rf_ww u 7 i) + (u.1 5 i)) - (rf_tk u i))))) :: hw_w cI cB h u.2.1 r2 g2)) (cells' := 33 + 2 * i + 1 + 1) (slots' := 163 + 14 * i + 8 + 6) rfl rfl C S.1 S.2.1 S.2.2 (fun hPb hDb => g_runV (wr := ((o2, .inr (2, rs_f z2 (rf_pay u))) :: (a2, .inl (cI, 8, .inl (upd (upd (upd (upd (upd (upd (upd (upd (fun _ => 0) 0 (u.1 0 i)) 1 (u.1 1 i)) 2 (u.1 2 i)) 3 (u.1 3 i)) 4 (u.1 4 i)) 5 (u.1 5 i)) 6 (u.1 6 i)) 7 (rf_hc u i)))) :: (a20, .inl (cI, 6, .inl (upd (upd (upd (upd (upd (upd (fun _ => 0) 0 (rf_pc u 7 i)) 1 ((u.1 7 1) * (rf_hc u i))) 2 (rf_ww u 7 i)) 3 ((rf_ww u 7 i) + (u.1 5 i))) 4 (rf_tk u i)) 5 (((rf_ww u 7 i) + (u.1 5 i)) - (rf_tk u i))))) :: hw_w cI cB h u.2.1 r2 g2) ++ rs_w cI cR o z u) (n := 2) (As := [.int (nI i), .int 0]) C (mX0_wage l D t cI ob ad H.size v (by rw [hE.n]; exact hu8) i (by rw [hE.n]; exact hin) 0 (by decide)) (rw_V q269 q224 q225 q2 q226) kd_X0_wage ⟨Nat.le_of_ble_eq_true rfl, Nat.le_of_ble_eq_true rfl⟩ (ci := 0) rfl rfl rfl (C.2.2.2.2.2.1.sub (tys' := [(cI, .int)]) [0] rfl) hPb hDb S.2.2 hl.1 rfl rfl (Nat.le_of_ble_eq_true rfl) dX2_isSame_250 ⟨(show 33 + 2 * i + 1 + 1 + 0 ≤ 60 by omega), (show 163 + 14 * i + 8 + 6 + 0 ≤ 300 by omega)⟩) (fun v w' H locs hv _ hP9 hD9 hS9 => ?_)
    obtain ⟨rfl, rfl⟩ := hv
    have S : sS D A s cI cR o z u (ra_w cI ob ad v ++ ((o2, .inr (2, rs_f z2 (rf_pay u))) :: (a2, .inl (cI, 8, .inl (upd (upd (upd (upd (upd (upd (upd (upd (fun _ => 0) 0 (u.1 0 i)) 1 (u.1 1 i)) 2 (u.1 2 i)) 3 (u.1 3 i)) 4 (u.1 4 i)) 5 (u.1 5 i)) 6 (u.1 6 i)) 7 (rf_hc u i)))) :: (a20, .inl (cI, 6, .inl (upd (upd (upd (upd (upd (upd (fun _ => 0) 0 (rf_pc u 7 i)) 1 ((u.1 7 1) * (rf_hc u i))) 2 (rf_ww u 7 i)) 3 ((rf_ww u 7 i) + (u.1 5 i))) 4 (rf_tk u i)) 5 (((rf_ww u 7 i) + (u.1 5 i)) - (rf_tk u i))))) :: hw_w cI cB h u.2.1 r2 g2)) H locs := ⟨hP9, hD9, hS9⟩
    refine g_top (y := rf_pc u 7 i) (e9_w0 hE i) ?_
    refine lv_aload hx hb dX2_isSame_253 (lv_at hl 1 rfl) ?_
    refine lv_iload hx hb dX2_isSame_255 (lv_at hl 0 rfl) ?_
    refine x_ld C S 15 (n := 6) (f := (upd (upd (upd (upd (upd (upd (fun _ => 0) 0 (rf_pc u 7 i)) 1 ((u.1 7 1) * (rf_hc u i))) 2 (rf_ww u 7 i)) 3 ((rf_ww u 7 i) + (u.1 5 i))) 4 (rf_tk u i)) 5 (((rf_ww u 7 i) + (u.1 5 i)) - (rf_tk u i)))) (i := 0) rfl (by omega) (by omega) rfl dX2_isSame_257 ?_
    refine g_top (y := rf_pc u 7 i) (rfl) ?_
    refine lv_icmp_eq (tgt := 263) hx hb dX2_isSame_258 (by decide) (fun c22 => ?_) (fun c22 => absurd (rfl) c22)
    refine lv_iinc (v := nI 1) (lv' := [(11, .int (nI 1)), (10, .ref a20), (9, .int ((rf_ww u 7 i) + (u.1 5 i))), (8, .ref a2), (7, .ref (z.2.1 i)), (0, .ref o), (1, .ref ob), (2, .int (rf_sm (u.1 4) i)), (3, .int (rf_sm (u.1 5) i)), (4, .int (rf_sm (u.1 6) i)), (5, .ref o2), (6, .int (nI i))]) hx hb dX2_isSame_263 hl (k := 0) rfl (nI_1 _) (by decide) rfl (fun ls hl => ?_)
    refine lv_goto (tgt := 238) hx hb dX2_isSame_266 (by decide) ?_
    refine lv_iload hx hb dX2_isSame_238 (lv_at hl 0 rfl) ?_
    refine lv_bipush (v := 6) hx hb dX2_isSame_240 (by decide) ?_
    refine lv_icmp_ge (tgt := 269) hx hb dX2_isSame_242 (by decide) (fun c23 => absurd c23 (by decide)) (fun c23 => ?_)
    refine lv_aload_n hx hb dX2_isSame_245 rfl (lv_at hl 6 rfl) ?_
    refine lv_iload hx hb dX2_isSame_246 (lv_at hl 11 rfl) ?_
    refine lv_iload hx hb dX2_isSame_248 (lv_at hl 0 rfl) ?_
    refine m_ci (wa := rs_w cI cR o z u) (wb := ra_w cI ob ad v) (wd := ((o2, .inr (2, rs_f z2 (rf_pay u))) :: (a2, .inl (cI, 8, .inl (upd (upd (upd (upd (upd (upd (upd (upd (fun _ => 0) 0 (u.1 0 i)) 1 (u.1 1 i)) 2 (u.1 2 i)) 3 (u.1 3 i)) 4 (u.1 4 i)) 5 (u.1 5 i)) 6 (u.1 6 i)) 7 (rf_hc u i)))) :: (a20, .inl (cI, 6, .inl (upd (upd (upd (upd (upd (upd (fun _ => 0) 0 (rf_pc u 7 i)) 1 ((u.1 7 1) * (rf_hc u i))) 2 (rf_ww u 7 i)) 3 ((rf_ww u 7 i) + (u.1 5 i))) 4 (rf_tk u i)) 5 (((rf_ww u 7 i) + (u.1 5 i)) - (rf_tk u i))))) :: hw_w cI cB h u.2.1 r2 g2)) (cells' := 33 + 2 * i + 1 + 1) (slots' := 163 + 14 * i + 8 + 6) rfl rfl C S.1 S.2.1 S.2.2 (fun hPb hDb => g_runV (wr := ((o2, .inr (2, rs_f z2 (rf_pay u))) :: (a2, .inl (cI, 8, .inl (upd (upd (upd (upd (upd (upd (upd (upd (fun _ => 0) 0 (u.1 0 i)) 1 (u.1 1 i)) 2 (u.1 2 i)) 3 (u.1 3 i)) 4 (u.1 4 i)) 5 (u.1 5 i)) 6 (u.1 6 i)) 7 (rf_hc u i)))) :: (a20, .inl (cI, 6, .inl (upd (upd (upd (upd (upd (upd (fun _ => 0) 0 (rf_pc u 7 i)) 1 ((u.1 7 1) * (rf_hc u i))) 2 (rf_ww u 7 i)) 3 ((rf_ww u 7 i) + (u.1 5 i))) 4 (rf_tk u i)) 5 (((rf_ww u 7 i) + (u.1 5 i)) - (rf_tk u i))))) :: hw_w cI cB h u.2.1 r2 g2) ++ rs_w cI cR o z u) (n := 2) (As := [.int (nI i), .int (nI 1)]) C (mX0_wage l D t cI ob ad H.size v (by rw [hE.n]; exact hu8) i (by rw [hE.n]; exact hin) 1 (by decide)) (rw_V q269 q224 q225 q2 q226) kd_X0_wage ⟨Nat.le_of_ble_eq_true rfl, Nat.le_of_ble_eq_true rfl⟩ (ci := 0) rfl rfl rfl (C.2.2.2.2.2.1.sub (tys' := [(cI, .int)]) [0] rfl) hPb hDb S.2.2 hl.1 rfl rfl (Nat.le_of_ble_eq_true rfl) dX2_isSame_250 ⟨(show 33 + 2 * i + 1 + 1 + 0 ≤ 60 by omega), (show 163 + 14 * i + 8 + 6 + 0 ≤ 300 by omega)⟩) (fun v w' H locs hv _ hP9 hD9 hS9 => ?_)
    obtain ⟨rfl, rfl⟩ := hv
    have S : sS D A s cI cR o z u (ra_w cI ob ad v ++ ((o2, .inr (2, rs_f z2 (rf_pay u))) :: (a2, .inl (cI, 8, .inl (upd (upd (upd (upd (upd (upd (upd (upd (fun _ => 0) 0 (u.1 0 i)) 1 (u.1 1 i)) 2 (u.1 2 i)) 3 (u.1 3 i)) 4 (u.1 4 i)) 5 (u.1 5 i)) 6 (u.1 6 i)) 7 (rf_hc u i)))) :: (a20, .inl (cI, 6, .inl (upd (upd (upd (upd (upd (upd (fun _ => 0) 0 (rf_pc u 7 i)) 1 ((u.1 7 1) * (rf_hc u i))) 2 (rf_ww u 7 i)) 3 ((rf_ww u 7 i) + (u.1 5 i))) 4 (rf_tk u i)) 5 (((rf_ww u 7 i) + (u.1 5 i)) - (rf_tk u i))))) :: hw_w cI cB h u.2.1 r2 g2)) H locs := ⟨hP9, hD9, hS9⟩
    refine g_top (y := rf_hw u 7 i) (e9_w1 hE i) ?_
    refine lv_aload hx hb dX2_isSame_253 (lv_at hl 1 rfl) ?_
    refine lv_iload hx hb dX2_isSame_255 (lv_at hl 0 rfl) ?_
    refine x_ld C S 15 (n := 6) (f := (upd (upd (upd (upd (upd (upd (fun _ => 0) 0 (rf_pc u 7 i)) 1 ((u.1 7 1) * (rf_hc u i))) 2 (rf_ww u 7 i)) 3 ((rf_ww u 7 i) + (u.1 5 i))) 4 (rf_tk u i)) 5 (((rf_ww u 7 i) + (u.1 5 i)) - (rf_tk u i)))) (i := 1) rfl (by omega) (by omega) rfl dX2_isSame_257 ?_
    refine g_top (y := (u.1 7 1) * (rf_hc u i)) (rfl) ?_
    refine lv_icmp_eq (tgt := 263) hx hb dX2_isSame_258 (by decide) (fun c24 => ?_) (fun c24 => absurd (rfl) c24)
    refine lv_iinc (v := nI 2) (lv' := [(11, .int (nI 2)), (10, .ref a20), (9, .int ((rf_ww u 7 i) + (u.1 5 i))), (8, .ref a2), (7, .ref (z.2.1 i)), (0, .ref o), (1, .ref ob), (2, .int (rf_sm (u.1 4) i)), (3, .int (rf_sm (u.1 5) i)), (4, .int (rf_sm (u.1 6) i)), (5, .ref o2), (6, .int (nI i))]) hx hb dX2_isSame_263 hl (k := 0) rfl (nI_1 _) (by decide) rfl (fun ls hl => ?_)
    refine lv_goto (tgt := 238) hx hb dX2_isSame_266 (by decide) ?_
    refine lv_iload hx hb dX2_isSame_238 (lv_at hl 0 rfl) ?_
    refine lv_bipush (v := 6) hx hb dX2_isSame_240 (by decide) ?_
    refine lv_icmp_ge (tgt := 269) hx hb dX2_isSame_242 (by decide) (fun c25 => absurd c25 (by decide)) (fun c25 => ?_)
    refine lv_aload_n hx hb dX2_isSame_245 rfl (lv_at hl 6 rfl) ?_
    refine lv_iload hx hb dX2_isSame_246 (lv_at hl 11 rfl) ?_
    refine lv_iload hx hb dX2_isSame_248 (lv_at hl 0 rfl) ?_
    refine m_ci (wa := rs_w cI cR o z u) (wb := ra_w cI ob ad v) (wd := ((o2, .inr (2, rs_f z2 (rf_pay u))) :: (a2, .inl (cI, 8, .inl (upd (upd (upd (upd (upd (upd (upd (upd (fun _ => 0) 0 (u.1 0 i)) 1 (u.1 1 i)) 2 (u.1 2 i)) 3 (u.1 3 i)) 4 (u.1 4 i)) 5 (u.1 5 i)) 6 (u.1 6 i)) 7 (rf_hc u i)))) :: (a20, .inl (cI, 6, .inl (upd (upd (upd (upd (upd (upd (fun _ => 0) 0 (rf_pc u 7 i)) 1 ((u.1 7 1) * (rf_hc u i))) 2 (rf_ww u 7 i)) 3 ((rf_ww u 7 i) + (u.1 5 i))) 4 (rf_tk u i)) 5 (((rf_ww u 7 i) + (u.1 5 i)) - (rf_tk u i))))) :: hw_w cI cB h u.2.1 r2 g2)) (cells' := 33 + 2 * i + 1 + 1) (slots' := 163 + 14 * i + 8 + 6) rfl rfl C S.1 S.2.1 S.2.2 (fun hPb hDb => g_runV (wr := ((o2, .inr (2, rs_f z2 (rf_pay u))) :: (a2, .inl (cI, 8, .inl (upd (upd (upd (upd (upd (upd (upd (upd (fun _ => 0) 0 (u.1 0 i)) 1 (u.1 1 i)) 2 (u.1 2 i)) 3 (u.1 3 i)) 4 (u.1 4 i)) 5 (u.1 5 i)) 6 (u.1 6 i)) 7 (rf_hc u i)))) :: (a20, .inl (cI, 6, .inl (upd (upd (upd (upd (upd (upd (fun _ => 0) 0 (rf_pc u 7 i)) 1 ((u.1 7 1) * (rf_hc u i))) 2 (rf_ww u 7 i)) 3 ((rf_ww u 7 i) + (u.1 5 i))) 4 (rf_tk u i)) 5 (((rf_ww u 7 i) + (u.1 5 i)) - (rf_tk u i))))) :: hw_w cI cB h u.2.1 r2 g2) ++ rs_w cI cR o z u) (n := 2) (As := [.int (nI i), .int (nI 2)]) C (mX0_wage l D t cI ob ad H.size v (by rw [hE.n]; exact hu8) i (by rw [hE.n]; exact hin) 2 (by decide)) (rw_V q269 q224 q225 q2 q226) kd_X0_wage ⟨Nat.le_of_ble_eq_true rfl, Nat.le_of_ble_eq_true rfl⟩ (ci := 0) rfl rfl rfl (C.2.2.2.2.2.1.sub (tys' := [(cI, .int)]) [0] rfl) hPb hDb S.2.2 hl.1 rfl rfl (Nat.le_of_ble_eq_true rfl) dX2_isSame_250 ⟨(show 33 + 2 * i + 1 + 1 + 0 ≤ 60 by omega), (show 163 + 14 * i + 8 + 6 + 0 ≤ 300 by omega)⟩) (fun v w' H locs hv _ hP9 hD9 hS9 => ?_)
    obtain ⟨rfl, rfl⟩ := hv
    have S : sS D A s cI cR o z u (ra_w cI ob ad v ++ ((o2, .inr (2, rs_f z2 (rf_pay u))) :: (a2, .inl (cI, 8, .inl (upd (upd (upd (upd (upd (upd (upd (upd (fun _ => 0) 0 (u.1 0 i)) 1 (u.1 1 i)) 2 (u.1 2 i)) 3 (u.1 3 i)) 4 (u.1 4 i)) 5 (u.1 5 i)) 6 (u.1 6 i)) 7 (rf_hc u i)))) :: (a20, .inl (cI, 6, .inl (upd (upd (upd (upd (upd (upd (fun _ => 0) 0 (rf_pc u 7 i)) 1 ((u.1 7 1) * (rf_hc u i))) 2 (rf_ww u 7 i)) 3 ((rf_ww u 7 i) + (u.1 5 i))) 4 (rf_tk u i)) 5 (((rf_ww u 7 i) + (u.1 5 i)) - (rf_tk u i))))) :: hw_w cI cB h u.2.1 r2 g2)) H locs := ⟨hP9, hD9, hS9⟩
    refine g_top (y := rf_ww u 7 i) (e9_w2 hE i) ?_
    refine lv_aload hx hb dX2_isSame_253 (lv_at hl 1 rfl) ?_
    refine lv_iload hx hb dX2_isSame_255 (lv_at hl 0 rfl) ?_
    refine x_ld C S 15 (n := 6) (f := (upd (upd (upd (upd (upd (upd (fun _ => 0) 0 (rf_pc u 7 i)) 1 ((u.1 7 1) * (rf_hc u i))) 2 (rf_ww u 7 i)) 3 ((rf_ww u 7 i) + (u.1 5 i))) 4 (rf_tk u i)) 5 (((rf_ww u 7 i) + (u.1 5 i)) - (rf_tk u i)))) (i := 2) rfl (by omega) (by omega) rfl dX2_isSame_257 ?_
    refine g_top (y := rf_ww u 7 i) (rfl) ?_
    refine lv_icmp_eq (tgt := 263) hx hb dX2_isSame_258 (by decide) (fun c26 => ?_) (fun c26 => absurd (rfl) c26)
    refine lv_iinc (v := nI 3) (lv' := [(11, .int (nI 3)), (10, .ref a20), (9, .int ((rf_ww u 7 i) + (u.1 5 i))), (8, .ref a2), (7, .ref (z.2.1 i)), (0, .ref o), (1, .ref ob), (2, .int (rf_sm (u.1 4) i)), (3, .int (rf_sm (u.1 5) i)), (4, .int (rf_sm (u.1 6) i)), (5, .ref o2), (6, .int (nI i))]) hx hb dX2_isSame_263 hl (k := 0) rfl (nI_1 _) (by decide) rfl (fun ls hl => ?_)
    refine lv_goto (tgt := 238) hx hb dX2_isSame_266 (by decide) ?_
    refine lv_iload hx hb dX2_isSame_238 (lv_at hl 0 rfl) ?_
    refine lv_bipush (v := 6) hx hb dX2_isSame_240 (by decide) ?_
    refine lv_icmp_ge (tgt := 269) hx hb dX2_isSame_242 (by decide) (fun c27 => absurd c27 (by decide)) (fun c27 => ?_)
    refine lv_aload_n hx hb dX2_isSame_245 rfl (lv_at hl 6 rfl) ?_
    refine lv_iload hx hb dX2_isSame_246 (lv_at hl 11 rfl) ?_
    refine lv_iload hx hb dX2_isSame_248 (lv_at hl 0 rfl) ?_
    refine m_ci (wa := rs_w cI cR o z u) (wb := ra_w cI ob ad v) (wd := ((o2, .inr (2, rs_f z2 (rf_pay u))) :: (a2, .inl (cI, 8, .inl (upd (upd (upd (upd (upd (upd (upd (upd (fun _ => 0) 0 (u.1 0 i)) 1 (u.1 1 i)) 2 (u.1 2 i)) 3 (u.1 3 i)) 4 (u.1 4 i)) 5 (u.1 5 i)) 6 (u.1 6 i)) 7 (rf_hc u i)))) :: (a20, .inl (cI, 6, .inl (upd (upd (upd (upd (upd (upd (fun _ => 0) 0 (rf_pc u 7 i)) 1 ((u.1 7 1) * (rf_hc u i))) 2 (rf_ww u 7 i)) 3 ((rf_ww u 7 i) + (u.1 5 i))) 4 (rf_tk u i)) 5 (((rf_ww u 7 i) + (u.1 5 i)) - (rf_tk u i))))) :: hw_w cI cB h u.2.1 r2 g2)) (cells' := 33 + 2 * i + 1 + 1) (slots' := 163 + 14 * i + 8 + 6) rfl rfl C S.1 S.2.1 S.2.2 (fun hPb hDb => g_runV (wr := ((o2, .inr (2, rs_f z2 (rf_pay u))) :: (a2, .inl (cI, 8, .inl (upd (upd (upd (upd (upd (upd (upd (upd (fun _ => 0) 0 (u.1 0 i)) 1 (u.1 1 i)) 2 (u.1 2 i)) 3 (u.1 3 i)) 4 (u.1 4 i)) 5 (u.1 5 i)) 6 (u.1 6 i)) 7 (rf_hc u i)))) :: (a20, .inl (cI, 6, .inl (upd (upd (upd (upd (upd (upd (fun _ => 0) 0 (rf_pc u 7 i)) 1 ((u.1 7 1) * (rf_hc u i))) 2 (rf_ww u 7 i)) 3 ((rf_ww u 7 i) + (u.1 5 i))) 4 (rf_tk u i)) 5 (((rf_ww u 7 i) + (u.1 5 i)) - (rf_tk u i))))) :: hw_w cI cB h u.2.1 r2 g2) ++ rs_w cI cR o z u) (n := 2) (As := [.int (nI i), .int (nI 3)]) C (mX0_wage l D t cI ob ad H.size v (by rw [hE.n]; exact hu8) i (by rw [hE.n]; exact hin) 3 (by decide)) (rw_V q269 q224 q225 q2 q226) kd_X0_wage ⟨Nat.le_of_ble_eq_true rfl, Nat.le_of_ble_eq_true rfl⟩ (ci := 0) rfl rfl rfl (C.2.2.2.2.2.1.sub (tys' := [(cI, .int)]) [0] rfl) hPb hDb S.2.2 hl.1 rfl rfl (Nat.le_of_ble_eq_true rfl) dX2_isSame_250 ⟨(show 33 + 2 * i + 1 + 1 + 0 ≤ 60 by omega), (show 163 + 14 * i + 8 + 6 + 0 ≤ 300 by omega)⟩) (fun v w' H locs hv _ hP9 hD9 hS9 => ?_)
    obtain ⟨rfl, rfl⟩ := hv
    have S : sS D A s cI cR o z u (ra_w cI ob ad v ++ ((o2, .inr (2, rs_f z2 (rf_pay u))) :: (a2, .inl (cI, 8, .inl (upd (upd (upd (upd (upd (upd (upd (upd (fun _ => 0) 0 (u.1 0 i)) 1 (u.1 1 i)) 2 (u.1 2 i)) 3 (u.1 3 i)) 4 (u.1 4 i)) 5 (u.1 5 i)) 6 (u.1 6 i)) 7 (rf_hc u i)))) :: (a20, .inl (cI, 6, .inl (upd (upd (upd (upd (upd (upd (fun _ => 0) 0 (rf_pc u 7 i)) 1 ((u.1 7 1) * (rf_hc u i))) 2 (rf_ww u 7 i)) 3 ((rf_ww u 7 i) + (u.1 5 i))) 4 (rf_tk u i)) 5 (((rf_ww u 7 i) + (u.1 5 i)) - (rf_tk u i))))) :: hw_w cI cB h u.2.1 r2 g2)) H locs := ⟨hP9, hD9, hS9⟩
    refine g_top (y := rf_cm u i) (e9_w3 hE i) ?_
    refine lv_aload hx hb dX2_isSame_253 (lv_at hl 1 rfl) ?_
    refine lv_iload hx hb dX2_isSame_255 (lv_at hl 0 rfl) ?_
    refine x_ld C S 15 (n := 6) (f := (upd (upd (upd (upd (upd (upd (fun _ => 0) 0 (rf_pc u 7 i)) 1 ((u.1 7 1) * (rf_hc u i))) 2 (rf_ww u 7 i)) 3 ((rf_ww u 7 i) + (u.1 5 i))) 4 (rf_tk u i)) 5 (((rf_ww u 7 i) + (u.1 5 i)) - (rf_tk u i)))) (i := 3) rfl (by omega) (by omega) rfl dX2_isSame_257 ?_
    refine g_top (y := (rf_ww u 7 i) + (u.1 5 i)) (rfl) ?_
    refine lv_icmp_eq (tgt := 263) hx hb dX2_isSame_258 (by decide) (fun c28 => ?_) (fun c28 => absurd (rfl) c28)
    refine lv_iinc (v := nI 4) (lv' := [(11, .int (nI 4)), (10, .ref a20), (9, .int ((rf_ww u 7 i) + (u.1 5 i))), (8, .ref a2), (7, .ref (z.2.1 i)), (0, .ref o), (1, .ref ob), (2, .int (rf_sm (u.1 4) i)), (3, .int (rf_sm (u.1 5) i)), (4, .int (rf_sm (u.1 6) i)), (5, .ref o2), (6, .int (nI i))]) hx hb dX2_isSame_263 hl (k := 0) rfl (nI_1 _) (by decide) rfl (fun ls hl => ?_)
    refine lv_goto (tgt := 238) hx hb dX2_isSame_266 (by decide) ?_
    refine lv_iload hx hb dX2_isSame_238 (lv_at hl 0 rfl) ?_
    refine lv_bipush (v := 6) hx hb dX2_isSame_240 (by decide) ?_
    refine lv_icmp_ge (tgt := 269) hx hb dX2_isSame_242 (by decide) (fun c29 => absurd c29 (by decide)) (fun c29 => ?_)
    refine lv_aload_n hx hb dX2_isSame_245 rfl (lv_at hl 6 rfl) ?_
    refine lv_iload hx hb dX2_isSame_246 (lv_at hl 11 rfl) ?_
    refine lv_iload hx hb dX2_isSame_248 (lv_at hl 0 rfl) ?_
    refine m_ci (wa := rs_w cI cR o z u) (wb := ra_w cI ob ad v) (wd := ((o2, .inr (2, rs_f z2 (rf_pay u))) :: (a2, .inl (cI, 8, .inl (upd (upd (upd (upd (upd (upd (upd (upd (fun _ => 0) 0 (u.1 0 i)) 1 (u.1 1 i)) 2 (u.1 2 i)) 3 (u.1 3 i)) 4 (u.1 4 i)) 5 (u.1 5 i)) 6 (u.1 6 i)) 7 (rf_hc u i)))) :: (a20, .inl (cI, 6, .inl (upd (upd (upd (upd (upd (upd (fun _ => 0) 0 (rf_pc u 7 i)) 1 ((u.1 7 1) * (rf_hc u i))) 2 (rf_ww u 7 i)) 3 ((rf_ww u 7 i) + (u.1 5 i))) 4 (rf_tk u i)) 5 (((rf_ww u 7 i) + (u.1 5 i)) - (rf_tk u i))))) :: hw_w cI cB h u.2.1 r2 g2)) (cells' := 33 + 2 * i + 1 + 1) (slots' := 163 + 14 * i + 8 + 6) rfl rfl C S.1 S.2.1 S.2.2 (fun hPb hDb => g_runV (wr := ((o2, .inr (2, rs_f z2 (rf_pay u))) :: (a2, .inl (cI, 8, .inl (upd (upd (upd (upd (upd (upd (upd (upd (fun _ => 0) 0 (u.1 0 i)) 1 (u.1 1 i)) 2 (u.1 2 i)) 3 (u.1 3 i)) 4 (u.1 4 i)) 5 (u.1 5 i)) 6 (u.1 6 i)) 7 (rf_hc u i)))) :: (a20, .inl (cI, 6, .inl (upd (upd (upd (upd (upd (upd (fun _ => 0) 0 (rf_pc u 7 i)) 1 ((u.1 7 1) * (rf_hc u i))) 2 (rf_ww u 7 i)) 3 ((rf_ww u 7 i) + (u.1 5 i))) 4 (rf_tk u i)) 5 (((rf_ww u 7 i) + (u.1 5 i)) - (rf_tk u i))))) :: hw_w cI cB h u.2.1 r2 g2) ++ rs_w cI cR o z u) (n := 2) (As := [.int (nI i), .int (nI 4)]) C (mX0_wage l D t cI ob ad H.size v (by rw [hE.n]; exact hu8) i (by rw [hE.n]; exact hin) 4 (by decide)) (rw_V q269 q224 q225 q2 q226) kd_X0_wage ⟨Nat.le_of_ble_eq_true rfl, Nat.le_of_ble_eq_true rfl⟩ (ci := 0) rfl rfl rfl (C.2.2.2.2.2.1.sub (tys' := [(cI, .int)]) [0] rfl) hPb hDb S.2.2 hl.1 rfl rfl (Nat.le_of_ble_eq_true rfl) dX2_isSame_250 ⟨(show 33 + 2 * i + 1 + 1 + 0 ≤ 60 by omega), (show 163 + 14 * i + 8 + 6 + 0 ≤ 300 by omega)⟩) (fun v w' H locs hv _ hP9 hD9 hS9 => ?_)
    obtain ⟨rfl, rfl⟩ := hv
    have S : sS D A s cI cR o z u (ra_w cI ob ad v ++ ((o2, .inr (2, rs_f z2 (rf_pay u))) :: (a2, .inl (cI, 8, .inl (upd (upd (upd (upd (upd (upd (upd (upd (fun _ => 0) 0 (u.1 0 i)) 1 (u.1 1 i)) 2 (u.1 2 i)) 3 (u.1 3 i)) 4 (u.1 4 i)) 5 (u.1 5 i)) 6 (u.1 6 i)) 7 (rf_hc u i)))) :: (a20, .inl (cI, 6, .inl (upd (upd (upd (upd (upd (upd (fun _ => 0) 0 (rf_pc u 7 i)) 1 ((u.1 7 1) * (rf_hc u i))) 2 (rf_ww u 7 i)) 3 ((rf_ww u 7 i) + (u.1 5 i))) 4 (rf_tk u i)) 5 (((rf_ww u 7 i) + (u.1 5 i)) - (rf_tk u i))))) :: hw_w cI cB h u.2.1 r2 g2)) H locs := ⟨hP9, hD9, hS9⟩
    refine g_top (y := rf_tk u i) (e9_w4 hE i) ?_
    refine lv_aload hx hb dX2_isSame_253 (lv_at hl 1 rfl) ?_
    refine lv_iload hx hb dX2_isSame_255 (lv_at hl 0 rfl) ?_
    refine x_ld C S 15 (n := 6) (f := (upd (upd (upd (upd (upd (upd (fun _ => 0) 0 (rf_pc u 7 i)) 1 ((u.1 7 1) * (rf_hc u i))) 2 (rf_ww u 7 i)) 3 ((rf_ww u 7 i) + (u.1 5 i))) 4 (rf_tk u i)) 5 (((rf_ww u 7 i) + (u.1 5 i)) - (rf_tk u i)))) (i := 4) rfl (by omega) (by omega) rfl dX2_isSame_257 ?_
    refine g_top (y := rf_tk u i) (rfl) ?_
    refine lv_icmp_eq (tgt := 263) hx hb dX2_isSame_258 (by decide) (fun c30 => ?_) (fun c30 => absurd (rfl) c30)
    refine lv_iinc (v := nI 5) (lv' := [(11, .int (nI 5)), (10, .ref a20), (9, .int ((rf_ww u 7 i) + (u.1 5 i))), (8, .ref a2), (7, .ref (z.2.1 i)), (0, .ref o), (1, .ref ob), (2, .int (rf_sm (u.1 4) i)), (3, .int (rf_sm (u.1 5) i)), (4, .int (rf_sm (u.1 6) i)), (5, .ref o2), (6, .int (nI i))]) hx hb dX2_isSame_263 hl (k := 0) rfl (nI_1 _) (by decide) rfl (fun ls hl => ?_)
    refine lv_goto (tgt := 238) hx hb dX2_isSame_266 (by decide) ?_
    refine lv_iload hx hb dX2_isSame_238 (lv_at hl 0 rfl) ?_
    refine lv_bipush (v := 6) hx hb dX2_isSame_240 (by decide) ?_
    refine lv_icmp_ge (tgt := 269) hx hb dX2_isSame_242 (by decide) (fun c31 => absurd c31 (by decide)) (fun c31 => ?_)
    refine lv_aload_n hx hb dX2_isSame_245 rfl (lv_at hl 6 rfl) ?_
    refine lv_iload hx hb dX2_isSame_246 (lv_at hl 11 rfl) ?_
    refine lv_iload hx hb dX2_isSame_248 (lv_at hl 0 rfl) ?_
    refine m_ci (wa := rs_w cI cR o z u) (wb := ra_w cI ob ad v) (wd := ((o2, .inr (2, rs_f z2 (rf_pay u))) :: (a2, .inl (cI, 8, .inl (upd (upd (upd (upd (upd (upd (upd (upd (fun _ => 0) 0 (u.1 0 i)) 1 (u.1 1 i)) 2 (u.1 2 i)) 3 (u.1 3 i)) 4 (u.1 4 i)) 5 (u.1 5 i)) 6 (u.1 6 i)) 7 (rf_hc u i)))) :: (a20, .inl (cI, 6, .inl (upd (upd (upd (upd (upd (upd (fun _ => 0) 0 (rf_pc u 7 i)) 1 ((u.1 7 1) * (rf_hc u i))) 2 (rf_ww u 7 i)) 3 ((rf_ww u 7 i) + (u.1 5 i))) 4 (rf_tk u i)) 5 (((rf_ww u 7 i) + (u.1 5 i)) - (rf_tk u i))))) :: hw_w cI cB h u.2.1 r2 g2)) (cells' := 33 + 2 * i + 1 + 1) (slots' := 163 + 14 * i + 8 + 6) rfl rfl C S.1 S.2.1 S.2.2 (fun hPb hDb => g_runV (wr := ((o2, .inr (2, rs_f z2 (rf_pay u))) :: (a2, .inl (cI, 8, .inl (upd (upd (upd (upd (upd (upd (upd (upd (fun _ => 0) 0 (u.1 0 i)) 1 (u.1 1 i)) 2 (u.1 2 i)) 3 (u.1 3 i)) 4 (u.1 4 i)) 5 (u.1 5 i)) 6 (u.1 6 i)) 7 (rf_hc u i)))) :: (a20, .inl (cI, 6, .inl (upd (upd (upd (upd (upd (upd (fun _ => 0) 0 (rf_pc u 7 i)) 1 ((u.1 7 1) * (rf_hc u i))) 2 (rf_ww u 7 i)) 3 ((rf_ww u 7 i) + (u.1 5 i))) 4 (rf_tk u i)) 5 (((rf_ww u 7 i) + (u.1 5 i)) - (rf_tk u i))))) :: hw_w cI cB h u.2.1 r2 g2) ++ rs_w cI cR o z u) (n := 2) (As := [.int (nI i), .int (nI 5)]) C (mX0_wage l D t cI ob ad H.size v (by rw [hE.n]; exact hu8) i (by rw [hE.n]; exact hin) 5 (by decide)) (rw_V q269 q224 q225 q2 q226) kd_X0_wage ⟨Nat.le_of_ble_eq_true rfl, Nat.le_of_ble_eq_true rfl⟩ (ci := 0) rfl rfl rfl (C.2.2.2.2.2.1.sub (tys' := [(cI, .int)]) [0] rfl) hPb hDb S.2.2 hl.1 rfl rfl (Nat.le_of_ble_eq_true rfl) dX2_isSame_250 ⟨(show 33 + 2 * i + 1 + 1 + 0 ≤ 60 by omega), (show 163 + 14 * i + 8 + 6 + 0 ≤ 300 by omega)⟩) (fun v w' H locs hv _ hP9 hD9 hS9 => ?_)
    obtain ⟨rfl, rfl⟩ := hv
    have S : sS D A s cI cR o z u (ra_w cI ob ad v ++ ((o2, .inr (2, rs_f z2 (rf_pay u))) :: (a2, .inl (cI, 8, .inl (upd (upd (upd (upd (upd (upd (upd (upd (fun _ => 0) 0 (u.1 0 i)) 1 (u.1 1 i)) 2 (u.1 2 i)) 3 (u.1 3 i)) 4 (u.1 4 i)) 5 (u.1 5 i)) 6 (u.1 6 i)) 7 (rf_hc u i)))) :: (a20, .inl (cI, 6, .inl (upd (upd (upd (upd (upd (upd (fun _ => 0) 0 (rf_pc u 7 i)) 1 ((u.1 7 1) * (rf_hc u i))) 2 (rf_ww u 7 i)) 3 ((rf_ww u 7 i) + (u.1 5 i))) 4 (rf_tk u i)) 5 (((rf_ww u 7 i) + (u.1 5 i)) - (rf_tk u i))))) :: hw_w cI cB h u.2.1 r2 g2)) H locs := ⟨hP9, hD9, hS9⟩
    refine g_top (y := rl_L u i) (e9_w5 hE i) ?_
    refine lv_aload hx hb dX2_isSame_253 (lv_at hl 1 rfl) ?_
    refine lv_iload hx hb dX2_isSame_255 (lv_at hl 0 rfl) ?_
    refine x_ld C S 15 (n := 6) (f := (upd (upd (upd (upd (upd (upd (fun _ => 0) 0 (rf_pc u 7 i)) 1 ((u.1 7 1) * (rf_hc u i))) 2 (rf_ww u 7 i)) 3 ((rf_ww u 7 i) + (u.1 5 i))) 4 (rf_tk u i)) 5 (((rf_ww u 7 i) + (u.1 5 i)) - (rf_tk u i)))) (i := 5) rfl (by omega) (by omega) rfl dX2_isSame_257 ?_
    refine g_top (y := ((rf_ww u 7 i) + (u.1 5 i)) - (rf_tk u i)) (rfl) ?_
    refine lv_icmp_eq (tgt := 263) hx hb dX2_isSame_258 (by decide) (fun c32 => ?_) (fun c32 => absurd (rfl) c32)
    refine lv_iinc (v := nI 6) (lv' := [(11, .int (nI 6)), (10, .ref a20), (9, .int ((rf_ww u 7 i) + (u.1 5 i))), (8, .ref a2), (7, .ref (z.2.1 i)), (0, .ref o), (1, .ref ob), (2, .int (rf_sm (u.1 4) i)), (3, .int (rf_sm (u.1 5) i)), (4, .int (rf_sm (u.1 6) i)), (5, .ref o2), (6, .int (nI i))]) hx hb dX2_isSame_263 hl (k := 0) rfl (nI_1 _) (by decide) rfl (fun ls hl => ?_)
    refine lv_goto (tgt := 238) hx hb dX2_isSame_266 (by decide) ?_
    refine lv_iload hx hb dX2_isSame_238 (lv_at hl 0 rfl) ?_
    refine lv_bipush (v := 6) hx hb dX2_isSame_240 (by decide) ?_
    refine lv_icmp_ge (tgt := 269) hx hb dX2_isSame_242 (by decide) (fun c33 => ?_) (fun c33 => absurd (by decide) c33)
    refine lv_iconst (v := 0) hx hb dX2_isSame_269 (by decide) ?_
    refine lv_istore (lv' := [(11, .int 0), (10, .ref a20), (9, .int ((rf_ww u 7 i) + (u.1 5 i))), (8, .ref a2), (7, .ref (z.2.1 i)), (0, .ref o), (1, .ref ob), (2, .int (rf_sm (u.1 4) i)), (3, .int (rf_sm (u.1 5) i)), (4, .int (rf_sm (u.1 6) i)), (5, .ref o2), (6, .int (nI i))]) hx hb dX2_isSame_270 hl (by decide) rfl (fun ls hl => ?_)
    refine lv_iload hx hb dX2_isSame_272 (lv_at hl 0 rfl) ?_
    refine lv_iconst (v := 3) hx hb dX2_isSame_274 (by decide) ?_
    refine lv_icmp_ge (tgt := 308) hx hb dX2_isSame_275 (by decide) (fun c34 => absurd c34 (by decide)) (fun c34 => ?_)
    refine lv_aload_n hx hb dX2_isSame_278 rfl (lv_at hl 6 rfl) ?_
    refine lv_iload hx hb dX2_isSame_279 (lv_at hl 11 rfl) ?_
    refine lv_iload hx hb dX2_isSame_281 (lv_at hl 0 rfl) ?_
    refine m_ci (wa := rs_w cI cR o z u) (wb := ra_w cI ob ad v) (wd := ((o2, .inr (2, rs_f z2 (rf_pay u))) :: (a2, .inl (cI, 8, .inl (upd (upd (upd (upd (upd (upd (upd (upd (fun _ => 0) 0 (u.1 0 i)) 1 (u.1 1 i)) 2 (u.1 2 i)) 3 (u.1 3 i)) 4 (u.1 4 i)) 5 (u.1 5 i)) 6 (u.1 6 i)) 7 (rf_hc u i)))) :: (a20, .inl (cI, 6, .inl (upd (upd (upd (upd (upd (upd (fun _ => 0) 0 (rf_pc u 7 i)) 1 ((u.1 7 1) * (rf_hc u i))) 2 (rf_ww u 7 i)) 3 ((rf_ww u 7 i) + (u.1 5 i))) 4 (rf_tk u i)) 5 (((rf_ww u 7 i) + (u.1 5 i)) - (rf_tk u i))))) :: hw_w cI cB h u.2.1 r2 g2)) (cells' := 33 + 2 * i + 1 + 1) (slots' := 163 + 14 * i + 8 + 6) rfl rfl C S.1 S.2.1 S.2.2 (fun hPb hDb => g_runV (wr := ((o2, .inr (2, rs_f z2 (rf_pay u))) :: (a2, .inl (cI, 8, .inl (upd (upd (upd (upd (upd (upd (upd (upd (fun _ => 0) 0 (u.1 0 i)) 1 (u.1 1 i)) 2 (u.1 2 i)) 3 (u.1 3 i)) 4 (u.1 4 i)) 5 (u.1 5 i)) 6 (u.1 6 i)) 7 (rf_hc u i)))) :: (a20, .inl (cI, 6, .inl (upd (upd (upd (upd (upd (upd (fun _ => 0) 0 (rf_pc u 7 i)) 1 ((u.1 7 1) * (rf_hc u i))) 2 (rf_ww u 7 i)) 3 ((rf_ww u 7 i) + (u.1 5 i))) 4 (rf_tk u i)) 5 (((rf_ww u 7 i) + (u.1 5 i)) - (rf_tk u i))))) :: hw_w cI cB h u.2.1 r2 g2) ++ rs_w cI cR o z u) (n := 2) (As := [.int (nI i), .int 0]) C (mX0_coins l D t cI ob ad H.size v (by rw [hE.n]; exact hu8) i (by rw [hE.n]; exact hin) 0 (by decide)) (rw_V q270 q209 q210 q2 q211) kd_X0_coins ⟨Nat.le_of_ble_eq_true rfl, Nat.le_of_ble_eq_true rfl⟩ (ci := 0) rfl rfl rfl (C.2.2.2.2.2.1.sub (tys' := [(cI, .int)]) [0] rfl) hPb hDb S.2.2 hl.1 rfl rfl (Nat.le_of_ble_eq_true rfl) dX2_isSame_283 ⟨(show 33 + 2 * i + 1 + 1 + 0 ≤ 60 by omega), (show 163 + 14 * i + 8 + 6 + 0 ≤ 300 by omega)⟩) (fun v w' H locs hv _ hP9 hD9 hS9 => ?_)
    obtain ⟨rfl, rfl⟩ := hv
    have S : sS D A s cI cR o z u (ra_w cI ob ad (rf_cs v i) ++ ((o2, .inr (2, rs_f z2 (rf_pay u))) :: (a2, .inl (cI, 8, .inl (upd (upd (upd (upd (upd (upd (upd (upd (fun _ => 0) 0 (u.1 0 i)) 1 (u.1 1 i)) 2 (u.1 2 i)) 3 (u.1 3 i)) 4 (u.1 4 i)) 5 (u.1 5 i)) 6 (u.1 6 i)) 7 (rf_hc u i)))) :: (a20, .inl (cI, 6, .inl (upd (upd (upd (upd (upd (upd (fun _ => 0) 0 (rf_pc u 7 i)) 1 ((u.1 7 1) * (rf_hc u i))) 2 (rf_ww u 7 i)) 3 ((rf_ww u 7 i) + (u.1 5 i))) 4 (rf_tk u i)) 5 (((rf_ww u 7 i) + (u.1 5 i)) - (rf_tk u i))))) :: hw_w cI cB h u.2.1 r2 g2)) H locs := ⟨hP9, hD9, hS9⟩
    refine g_top (y := km (rl_L u i) (pu u i) 0) (e9_co B hE hin (by decide)) ?_
    have hE : E9 u (rf_cs v i) := hE.tr e9_cs
    refine lv_aload hx hb dX2_isSame_286 (lv_at hl 10 rfl) ?_
    refine x_g2 C S 13 4 (by decide) (fs := rs_f z2 (rf_pay u)) rfl (v := .ref h) (congrArg (fun q => some (va_rf q)) hz2) rfl q160 dX2_isSame_288 ?_
    refine lv_iload hx hb dX2_isSame_291 (lv_at hl 11 rfl) ?_
    refine x_al C S 16 (n := u.2.1) (f := fun k => some (r2 k)) (i := i) rfl (by omega) hin rfl dX2_isSame_293 ?_
    refine lv_iload hx hb dX2_isSame_294 (lv_at hl 0 rfl) ?_
    refine x_ld C S (1 + i + 16) (n := 3) (f := g2 i) (i := 0) (hw_p0 hin) (by omega) (by decide) rfl dX2_isSame_296 ?_
    refine g_top (y := km (rl_L u i) (pu u i) 0) ((g1 i 0 hin (by decide)).trans (hd_m B hin (by decide))) ?_
    refine lv_icmp_eq (tgt := 302) hx hb dX2_isSame_297 (by decide) (fun c35 => ?_) (fun c35 => absurd (rfl) c35)
    refine lv_iinc (v := nI 1) (lv' := [(11, .int (nI 1)), (10, .ref a20), (9, .int ((rf_ww u 7 i) + (u.1 5 i))), (8, .ref a2), (7, .ref (z.2.1 i)), (0, .ref o), (1, .ref ob), (2, .int (rf_sm (u.1 4) i)), (3, .int (rf_sm (u.1 5) i)), (4, .int (rf_sm (u.1 6) i)), (5, .ref o2), (6, .int (nI i))]) hx hb dX2_isSame_302 hl (k := 0) rfl (nI_1 _) (by decide) rfl (fun ls hl => ?_)
    refine lv_goto (tgt := 272) hx hb dX2_isSame_305 (by decide) ?_
    refine lv_iload hx hb dX2_isSame_272 (lv_at hl 0 rfl) ?_
    refine lv_iconst (v := 3) hx hb dX2_isSame_274 (by decide) ?_
    refine lv_icmp_ge (tgt := 308) hx hb dX2_isSame_275 (by decide) (fun c36 => absurd c36 (by decide)) (fun c36 => ?_)
    refine lv_aload_n hx hb dX2_isSame_278 rfl (lv_at hl 6 rfl) ?_
    refine lv_iload hx hb dX2_isSame_279 (lv_at hl 11 rfl) ?_
    refine lv_iload hx hb dX2_isSame_281 (lv_at hl 0 rfl) ?_
    refine m_ci (wa := rs_w cI cR o z u) (wb := ra_w cI ob ad (rf_cs v i)) (wd := ((o2, .inr (2, rs_f z2 (rf_pay u))) :: (a2, .inl (cI, 8, .inl (upd (upd (upd (upd (upd (upd (upd (upd (fun _ => 0) 0 (u.1 0 i)) 1 (u.1 1 i)) 2 (u.1 2 i)) 3 (u.1 3 i)) 4 (u.1 4 i)) 5 (u.1 5 i)) 6 (u.1 6 i)) 7 (rf_hc u i)))) :: (a20, .inl (cI, 6, .inl (upd (upd (upd (upd (upd (upd (fun _ => 0) 0 (rf_pc u 7 i)) 1 ((u.1 7 1) * (rf_hc u i))) 2 (rf_ww u 7 i)) 3 ((rf_ww u 7 i) + (u.1 5 i))) 4 (rf_tk u i)) 5 (((rf_ww u 7 i) + (u.1 5 i)) - (rf_tk u i))))) :: hw_w cI cB h u.2.1 r2 g2)) (cells' := 33 + 2 * i + 1 + 1) (slots' := 163 + 14 * i + 8 + 6) rfl rfl C S.1 S.2.1 S.2.2 (fun hPb hDb => g_runV (wr := ((o2, .inr (2, rs_f z2 (rf_pay u))) :: (a2, .inl (cI, 8, .inl (upd (upd (upd (upd (upd (upd (upd (upd (fun _ => 0) 0 (u.1 0 i)) 1 (u.1 1 i)) 2 (u.1 2 i)) 3 (u.1 3 i)) 4 (u.1 4 i)) 5 (u.1 5 i)) 6 (u.1 6 i)) 7 (rf_hc u i)))) :: (a20, .inl (cI, 6, .inl (upd (upd (upd (upd (upd (upd (fun _ => 0) 0 (rf_pc u 7 i)) 1 ((u.1 7 1) * (rf_hc u i))) 2 (rf_ww u 7 i)) 3 ((rf_ww u 7 i) + (u.1 5 i))) 4 (rf_tk u i)) 5 (((rf_ww u 7 i) + (u.1 5 i)) - (rf_tk u i))))) :: hw_w cI cB h u.2.1 r2 g2) ++ rs_w cI cR o z u) (n := 2) (As := [.int (nI i), .int (nI 1)]) C (mX0_coins l D t cI ob ad H.size (rf_cs v i) (by rw [hE.n]; exact hu8) i (by rw [hE.n]; exact hin) 1 (by decide)) (rw_V q270 q209 q210 q2 q211) kd_X0_coins ⟨Nat.le_of_ble_eq_true rfl, Nat.le_of_ble_eq_true rfl⟩ (ci := 0) rfl rfl rfl (C.2.2.2.2.2.1.sub (tys' := [(cI, .int)]) [0] rfl) hPb hDb S.2.2 hl.1 rfl rfl (Nat.le_of_ble_eq_true rfl) dX2_isSame_283 ⟨(show 33 + 2 * i + 1 + 1 + 0 ≤ 60 by omega), (show 163 + 14 * i + 8 + 6 + 0 ≤ 300 by omega)⟩) (fun v w' H locs hv _ hP9 hD9 hS9 => ?_)
    obtain ⟨rfl, rfl⟩ := hv
    have S : sS D A s cI cR o z u (ra_w cI ob ad (rf_cs (rf_cs v i) i) ++ ((o2, .inr (2, rs_f z2 (rf_pay u))) :: (a2, .inl (cI, 8, .inl (upd (upd (upd (upd (upd (upd (upd (upd (fun _ => 0) 0 (u.1 0 i)) 1 (u.1 1 i)) 2 (u.1 2 i)) 3 (u.1 3 i)) 4 (u.1 4 i)) 5 (u.1 5 i)) 6 (u.1 6 i)) 7 (rf_hc u i)))) :: (a20, .inl (cI, 6, .inl (upd (upd (upd (upd (upd (upd (fun _ => 0) 0 (rf_pc u 7 i)) 1 ((u.1 7 1) * (rf_hc u i))) 2 (rf_ww u 7 i)) 3 ((rf_ww u 7 i) + (u.1 5 i))) 4 (rf_tk u i)) 5 (((rf_ww u 7 i) + (u.1 5 i)) - (rf_tk u i))))) :: hw_w cI cB h u.2.1 r2 g2)) H locs := ⟨hP9, hD9, hS9⟩
    refine g_top (y := km (rl_L u i) (pu u i) 1) (e9_co B hE hin (by decide)) ?_
    have hE : E9 u (rf_cs (rf_cs v i) i) := hE.tr e9_cs
    refine lv_aload hx hb dX2_isSame_286 (lv_at hl 10 rfl) ?_
    refine x_g2 C S 13 4 (by decide) (fs := rs_f z2 (rf_pay u)) rfl (v := .ref h) (congrArg (fun q => some (va_rf q)) hz2) rfl q160 dX2_isSame_288 ?_
    refine lv_iload hx hb dX2_isSame_291 (lv_at hl 11 rfl) ?_
    refine x_al C S 16 (n := u.2.1) (f := fun k => some (r2 k)) (i := i) rfl (by omega) hin rfl dX2_isSame_293 ?_
    refine lv_iload hx hb dX2_isSame_294 (lv_at hl 0 rfl) ?_
    refine x_ld C S (1 + i + 16) (n := 3) (f := g2 i) (i := 1) (hw_p0 hin) (by omega) (by decide) rfl dX2_isSame_296 ?_
    refine g_top (y := km (rl_L u i) (pu u i) 1) ((g1 i 1 hin (by decide)).trans (hd_m B hin (by decide))) ?_
    refine lv_icmp_eq (tgt := 302) hx hb dX2_isSame_297 (by decide) (fun c37 => ?_) (fun c37 => absurd (rfl) c37)
    refine lv_iinc (v := nI 2) (lv' := [(11, .int (nI 2)), (10, .ref a20), (9, .int ((rf_ww u 7 i) + (u.1 5 i))), (8, .ref a2), (7, .ref (z.2.1 i)), (0, .ref o), (1, .ref ob), (2, .int (rf_sm (u.1 4) i)), (3, .int (rf_sm (u.1 5) i)), (4, .int (rf_sm (u.1 6) i)), (5, .ref o2), (6, .int (nI i))]) hx hb dX2_isSame_302 hl (k := 0) rfl (nI_1 _) (by decide) rfl (fun ls hl => ?_)
    refine lv_goto (tgt := 272) hx hb dX2_isSame_305 (by decide) ?_
    refine lv_iload hx hb dX2_isSame_272 (lv_at hl 0 rfl) ?_
    refine lv_iconst (v := 3) hx hb dX2_isSame_274 (by decide) ?_
    refine lv_icmp_ge (tgt := 308) hx hb dX2_isSame_275 (by decide) (fun c38 => absurd c38 (by decide)) (fun c38 => ?_)
    refine lv_aload_n hx hb dX2_isSame_278 rfl (lv_at hl 6 rfl) ?_
    refine lv_iload hx hb dX2_isSame_279 (lv_at hl 11 rfl) ?_
    refine lv_iload hx hb dX2_isSame_281 (lv_at hl 0 rfl) ?_
    refine m_ci (wa := rs_w cI cR o z u) (wb := ra_w cI ob ad (rf_cs (rf_cs v i) i)) (wd := ((o2, .inr (2, rs_f z2 (rf_pay u))) :: (a2, .inl (cI, 8, .inl (upd (upd (upd (upd (upd (upd (upd (upd (fun _ => 0) 0 (u.1 0 i)) 1 (u.1 1 i)) 2 (u.1 2 i)) 3 (u.1 3 i)) 4 (u.1 4 i)) 5 (u.1 5 i)) 6 (u.1 6 i)) 7 (rf_hc u i)))) :: (a20, .inl (cI, 6, .inl (upd (upd (upd (upd (upd (upd (fun _ => 0) 0 (rf_pc u 7 i)) 1 ((u.1 7 1) * (rf_hc u i))) 2 (rf_ww u 7 i)) 3 ((rf_ww u 7 i) + (u.1 5 i))) 4 (rf_tk u i)) 5 (((rf_ww u 7 i) + (u.1 5 i)) - (rf_tk u i))))) :: hw_w cI cB h u.2.1 r2 g2)) (cells' := 33 + 2 * i + 1 + 1) (slots' := 163 + 14 * i + 8 + 6) rfl rfl C S.1 S.2.1 S.2.2 (fun hPb hDb => g_runV (wr := ((o2, .inr (2, rs_f z2 (rf_pay u))) :: (a2, .inl (cI, 8, .inl (upd (upd (upd (upd (upd (upd (upd (upd (fun _ => 0) 0 (u.1 0 i)) 1 (u.1 1 i)) 2 (u.1 2 i)) 3 (u.1 3 i)) 4 (u.1 4 i)) 5 (u.1 5 i)) 6 (u.1 6 i)) 7 (rf_hc u i)))) :: (a20, .inl (cI, 6, .inl (upd (upd (upd (upd (upd (upd (fun _ => 0) 0 (rf_pc u 7 i)) 1 ((u.1 7 1) * (rf_hc u i))) 2 (rf_ww u 7 i)) 3 ((rf_ww u 7 i) + (u.1 5 i))) 4 (rf_tk u i)) 5 (((rf_ww u 7 i) + (u.1 5 i)) - (rf_tk u i))))) :: hw_w cI cB h u.2.1 r2 g2) ++ rs_w cI cR o z u) (n := 2) (As := [.int (nI i), .int (nI 2)]) C (mX0_coins l D t cI ob ad H.size (rf_cs (rf_cs v i) i) (by rw [hE.n]; exact hu8) i (by rw [hE.n]; exact hin) 2 (by decide)) (rw_V q270 q209 q210 q2 q211) kd_X0_coins ⟨Nat.le_of_ble_eq_true rfl, Nat.le_of_ble_eq_true rfl⟩ (ci := 0) rfl rfl rfl (C.2.2.2.2.2.1.sub (tys' := [(cI, .int)]) [0] rfl) hPb hDb S.2.2 hl.1 rfl rfl (Nat.le_of_ble_eq_true rfl) dX2_isSame_283 ⟨(show 33 + 2 * i + 1 + 1 + 0 ≤ 60 by omega), (show 163 + 14 * i + 8 + 6 + 0 ≤ 300 by omega)⟩) (fun v w' H locs hv _ hP9 hD9 hS9 => ?_)
    obtain ⟨rfl, rfl⟩ := hv
    have S : sS D A s cI cR o z u (ra_w cI ob ad (rf_cs (rf_cs (rf_cs v i) i) i) ++ ((o2, .inr (2, rs_f z2 (rf_pay u))) :: (a2, .inl (cI, 8, .inl (upd (upd (upd (upd (upd (upd (upd (upd (fun _ => 0) 0 (u.1 0 i)) 1 (u.1 1 i)) 2 (u.1 2 i)) 3 (u.1 3 i)) 4 (u.1 4 i)) 5 (u.1 5 i)) 6 (u.1 6 i)) 7 (rf_hc u i)))) :: (a20, .inl (cI, 6, .inl (upd (upd (upd (upd (upd (upd (fun _ => 0) 0 (rf_pc u 7 i)) 1 ((u.1 7 1) * (rf_hc u i))) 2 (rf_ww u 7 i)) 3 ((rf_ww u 7 i) + (u.1 5 i))) 4 (rf_tk u i)) 5 (((rf_ww u 7 i) + (u.1 5 i)) - (rf_tk u i))))) :: hw_w cI cB h u.2.1 r2 g2)) H locs := ⟨hP9, hD9, hS9⟩
    refine g_top (y := km (rl_L u i) (pu u i) 2) (e9_co B hE hin (by decide)) ?_
    have hE : E9 u (rf_cs (rf_cs (rf_cs v i) i) i) := hE.tr e9_cs
    refine lv_aload hx hb dX2_isSame_286 (lv_at hl 10 rfl) ?_
    refine x_g2 C S 13 4 (by decide) (fs := rs_f z2 (rf_pay u)) rfl (v := .ref h) (congrArg (fun q => some (va_rf q)) hz2) rfl q160 dX2_isSame_288 ?_
    refine lv_iload hx hb dX2_isSame_291 (lv_at hl 11 rfl) ?_
    refine x_al C S 16 (n := u.2.1) (f := fun k => some (r2 k)) (i := i) rfl (by omega) hin rfl dX2_isSame_293 ?_
    refine lv_iload hx hb dX2_isSame_294 (lv_at hl 0 rfl) ?_
    refine x_ld C S (1 + i + 16) (n := 3) (f := g2 i) (i := 2) (hw_p0 hin) (by omega) (by decide) rfl dX2_isSame_296 ?_
    refine g_top (y := km (rl_L u i) (pu u i) 2) ((g1 i 2 hin (by decide)).trans (hd_m B hin (by decide))) ?_
    refine lv_icmp_eq (tgt := 302) hx hb dX2_isSame_297 (by decide) (fun c39 => ?_) (fun c39 => absurd (rfl) c39)
    refine lv_iinc (v := nI 3) (lv' := [(11, .int (nI 3)), (10, .ref a20), (9, .int ((rf_ww u 7 i) + (u.1 5 i))), (8, .ref a2), (7, .ref (z.2.1 i)), (0, .ref o), (1, .ref ob), (2, .int (rf_sm (u.1 4) i)), (3, .int (rf_sm (u.1 5) i)), (4, .int (rf_sm (u.1 6) i)), (5, .ref o2), (6, .int (nI i))]) hx hb dX2_isSame_302 hl (k := 0) rfl (nI_1 _) (by decide) rfl (fun ls hl => ?_)
    refine lv_goto (tgt := 272) hx hb dX2_isSame_305 (by decide) ?_
    refine lv_iload hx hb dX2_isSame_272 (lv_at hl 0 rfl) ?_
    refine lv_iconst (v := 3) hx hb dX2_isSame_274 (by decide) ?_
    refine lv_icmp_ge (tgt := 308) hx hb dX2_isSame_275 (by decide) (fun c40 => ?_) (fun c40 => absurd (by decide) c40)
    refine lv_iload_n hx hb dX2_isSame_308 rfl (lv_at hl 7 rfl) ?_
    refine lv_aload hx hb dX2_isSame_309 (lv_at hl 4 rfl) ?_
    refine r_gf C S 4 i (by decide) hin (v := .int (u.1 4 i)) rfl rfl q162 dX2_isSame_311 ?_
    refine lv_iadd hx hb dX2_isSame_314 ?_
    refine lv_istore_n (lv' := [(2, .int ((rf_sm (u.1 4) i) + (u.1 4 i))), (11, .int (nI 3)), (10, .ref a20), (9, .int ((rf_ww u 7 i) + (u.1 5 i))), (8, .ref a2), (7, .ref (z.2.1 i)), (0, .ref o), (1, .ref ob), (3, .int (rf_sm (u.1 5) i)), (4, .int (rf_sm (u.1 6) i)), (5, .ref o2), (6, .int (nI i))]) hx hb dX2_isSame_315 rfl hl (by decide) rfl (fun ls hl => ?_)
    refine lv_iload_n hx hb dX2_isSame_316 rfl (lv_at hl 8 rfl) ?_
    refine lv_aload hx hb dX2_isSame_317 (lv_at hl 5 rfl) ?_
    refine r_gf C S 5 i (by decide) hin (v := .int (u.1 5 i)) rfl rfl q161 dX2_isSame_319 ?_
    refine lv_iadd hx hb dX2_isSame_322 ?_
    refine lv_istore_n (lv' := [(3, .int ((rf_sm (u.1 5) i) + (u.1 5 i))), (2, .int ((rf_sm (u.1 4) i) + (u.1 4 i))), (11, .int (nI 3)), (10, .ref a20), (9, .int ((rf_ww u 7 i) + (u.1 5 i))), (8, .ref a2), (7, .ref (z.2.1 i)), (0, .ref o), (1, .ref ob), (4, .int (rf_sm (u.1 6) i)), (5, .ref o2), (6, .int (nI i))]) hx hb dX2_isSame_323 rfl hl (by decide) rfl (fun ls hl => ?_)
    refine lv_iload hx hb dX2_isSame_324 (lv_at hl 9 rfl) ?_
    refine lv_aload hx hb dX2_isSame_326 (lv_at hl 6 rfl) ?_
    refine r_gf C S 6 i (by decide) hin (v := .int (u.1 6 i)) rfl rfl q163 dX2_isSame_328 ?_
    refine lv_iadd hx hb dX2_isSame_331 ?_
    refine lv_istore (lv' := [(4, .int ((rf_sm (u.1 6) i) + (u.1 6 i))), (3, .int ((rf_sm (u.1 5) i) + (u.1 5 i))), (2, .int ((rf_sm (u.1 4) i) + (u.1 4 i))), (11, .int (nI 3)), (10, .ref a20), (9, .int ((rf_ww u 7 i) + (u.1 5 i))), (8, .ref a2), (7, .ref (z.2.1 i)), (0, .ref o), (1, .ref ob), (5, .ref o2), (6, .int (nI i))]) hx hb dX2_isSame_332 hl (by decide) rfl (fun ls hl => ?_)
    refine lv_iinc (v := nI (i + 1)) (lv' := [(6, .int (nI (i + 1))), (4, .int ((rf_sm (u.1 6) i) + (u.1 6 i))), (3, .int ((rf_sm (u.1 5) i) + (u.1 5 i))), (2, .int ((rf_sm (u.1 4) i) + (u.1 4 i))), (11, .int (nI 3)), (10, .ref a20), (9, .int ((rf_ww u 7 i) + (u.1 5 i))), (8, .ref a2), (7, .ref (z.2.1 i)), (0, .ref o), (1, .ref ob), (5, .ref o2)]) hx hb dX2_isSame_334 hl (k := 11) rfl (nI_1 _) (by decide) rfl (fun ls hl => ?_)
    refine lv_goto (tgt := 22) hx hb dX2_isSame_337 (by decide) ?_
    have S : sS D A s cI cR o z u (ra_w cI ob ad (rf_cs (rf_cs (rf_cs v i) i) i) ++ ((o2, .inr (2, rs_f z2 (rf_pay u))) :: hw_w cI cB h u.2.1 r2 g2)) H locs := S.re (fun q hq => by simp only [List.mem_append, List.mem_cons, List.not_mem_nil, or_false, false_or] at hq ⊢; grind) (fun a => by simp only [List.map_append, List.map_cons, List.map_nil, List.count_append, List.count_cons, List.count_nil]; omega)
    refine W.widen (k := 33 + 2 * (i + 1)) (n := 163 + 14 * (i + 1)) (by omega) (by omega) ?_
    exact ih (i + 1) (by omega) _ _ _ _ hE S (lv_sub hl [9, 10, 3, 2, 1, 11, 0] rfl)
set_option maxHeartbeats 4000000 in
set_option maxRecDepth 100000 in
theorem mX2_isSame (l : Launch) (D : va_G) (t : Nat → Nat) (cI cR cB : ClassId) (o ob : Nat) (ad : Nat → Nat) (z : SA) (sz : Nat) (u v : S0) (T : Nat) (B : rB T u) (hT1 : T + 1 ≤ 400) (hE : E9 u v) : gMi l yX2_isSame (rw_ yX2_isSame cX2_isSame 12 (some .boolean)) (rm_ 7 60 300 155) [.ref o, .ref ob] D (ty3 cI cR cB) t (rs_w cI cR o z u ++ ra_w cI ob ad v) sz (fun r _ => r = 1) := by
  refine g_of (cc := cX2_isSame) (nL := 12) (rt := (some .boolean)) (Q := fun A => va_Qi _ (fun w' U => gQ D A w' U) A) (by decide) (Nat.le_of_ble_eq_true rfl) (fun p e s m args below meth c A ls H C hrt hnm hS hP hD hl => ?_)
  have hx := C.1
  have hb := C.2.1
  have hown := C.2.2.2.1
  have hts := C.2.2.2.2.1
  have hu8 : u.2.1 ≤ 8 := B.1
  have hl : lv_has ls 12 [(0, .ref o), (1, .ref ob)] := hl
  refine lv_iconst (v := 0) hx hb dX2_isSame_0 (by decide) ?_
  refine lv_istore_n (lv' := [(2, .int 0), (0, .ref o), (1, .ref ob)]) hx hb dX2_isSame_1 rfl hl (by decide) rfl (fun ls hl => ?_)
  refine lv_iconst (v := 0) hx hb dX2_isSame_2 (by decide) ?_
  refine lv_istore_n (lv' := [(3, .int 0), (2, .int 0), (0, .ref o), (1, .ref ob)]) hx hb dX2_isSame_3 rfl hl (by decide) rfl (fun ls hl => ?_)
  refine lv_iconst (v := 0) hx hb dX2_isSame_4 (by decide) ?_
  refine lv_istore (lv' := [(4, .int 0), (3, .int 0), (2, .int 0), (0, .ref o), (1, .ref ob)]) hx hb dX2_isSame_5 hl (by decide) rfl (fun ls hl => ?_)
  refine lv_aload_n hx hb dX2_isSame_7 rfl (lv_at hl 3 rfl) ?_
  refine m_cr (wa := []) (wb := rs_w cI cR o z u) (wd := ra_w cI ob ad v) (cells' := 16) (slots' := 107) rfl rfl C hP hD hS (fun hPb hDb => g_runVj (n := 0) (As := []) C (mX2_copy l D t cI cR cB o z H.size u hu8) (rw_V q244 q245 q246 q29 q247) kd_X2_copy ⟨Nat.le_of_ble_eq_true rfl, Nat.le_of_ble_eq_true rfl⟩ (ci := 2) rfl rfl 0 rfl C.2.2.2.2.2.1 hPb hDb hS hl.1 rfl rfl (Nat.le_of_ble_eq_true rfl) dX2_isSame_8 ⟨Nat.le_of_ble_eq_true rfl, Nat.le_of_ble_eq_true rfl⟩) (fun o2 w' H locs hv _ hP hD hS => ?_)
  obtain ⟨z1, -, hw9⟩ := hv
  have hw9 : w' = rs_w cI cR o z u ++ rs_w cI cR o2 z1 u := hw9
  subst hw9
  rw [List.nil_append, List.append_assoc] at hP hD
  refine lv_astore (lv' := [(5, .ref o2), (4, .int 0), (3, .int 0), (2, .int 0), (0, .ref o), (1, .ref ob)]) hx hb dX2_isSame_11 hl (by decide) rfl (fun ls hl => ?_)
  refine lv_aload hx hb dX2_isSame_13 (lv_at hl 0 rfl) ?_
  refine m_ci (wa := rs_w cI cR o z u) (wb := rs_w cI cR o2 z1 u) (wd := ra_w cI ob ad v) (cells' := 33) (slots' := 163) rfl rfl C hP hD hS (fun hPb hDb => g_runVj (n := 0) (As := []) C (mX2_pay l D t cI cR cB o2 z1 H.size u T B hT1) (rw_V q265 q156 q157 q29 q158) kd_X2_pay ⟨Nat.le_of_ble_eq_true rfl, Nat.le_of_ble_eq_true rfl⟩ (ci := 2) rfl rfl 0 rfl C.2.2.2.2.2.1 hPb hDb hS hl.1 rfl rfl (Nat.le_of_ble_eq_true rfl) dX2_isSame_15 ⟨Nat.le_of_ble_eq_true rfl, Nat.le_of_ble_eq_true rfl⟩) (fun x9 w' H locs hv _ hP hD hS => ?_)
  obtain ⟨-, h, r2, g2, g1, rfl⟩ := hv
  obtain ⟨z2, ez2⟩ : ∃ z2 : SA, z2 = (z1.1, z1.2.1, some h) := ⟨_, rfl⟩
  rw [← ez2] at hP hD
  have hz2 : z2.2.2 = some h := by rw [ez2]
  have S : sS D A s cI cR o z u ((rs_w cI cR o2 z2 (rf_pay u) ++ hw_w cI cB h u.2.1 r2 g2) ++ ra_w cI ob ad v) H locs := ⟨hP, hD, hS⟩
  have S : sS D A s cI cR o z u (ra_w cI ob ad v ++ ((o2, .inr (2, rs_f z2 (rf_pay u))) :: hw_w cI cB h u.2.1 r2 g2)) H locs := S.re is_re1 is_re2
  refine lv_pop hx hb dX2_isSame_18 rfl ?_
  refine lv_iconst (v := 0) hx hb dX2_isSame_19 (by decide) ?_
  refine lv_istore (lv' := [(6, .int 0), (5, .ref o2), (4, .int 0), (3, .int 0), (2, .int 0), (0, .ref o), (1, .ref ob)]) hx hb dX2_isSame_20 hl (by decide) rfl (fun ls hl => ?_)
  refine W.widen (k := 33 + 2 * 0) (n := 163 + 14 * 0) (by omega) (by omega) ?_
  refine lpX2_isSame C hz2 B g1 (fun v H locs ls hE S hl => ?_) u.2.1 0 (by omega) v _ _ _ hE S (lv_sub hl [5, 6, 4, 3, 2, 1, 0] rfl)
  by_cases hn : u.2.1 = 0
  · refine lv_iconst (v := 0) hx hb dX2_isSame_340 (by decide) ?_
    refine lv_istore (lv' := [(6, .int 0), (0, .ref o), (1, .ref ob), (2, .int (rf_sm (u.1 4) u.2.1)), (3, .int (rf_sm (u.1 5) u.2.1)), (4, .int (rf_sm (u.1 6) u.2.1)), (5, .ref o2)]) hx hb dX2_isSame_341 hl (by decide) rfl (fun ls hl => ?_)
    refine lv_iload hx hb dX2_isSame_343 (lv_at hl 0 rfl) ?_
    refine lv_iconst (v := 5) hx hb dX2_isSame_345 (by decide) ?_
    refine lv_icmp_ge (tgt := 373) hx hb dX2_isSame_346 (by decide) (fun c1 => absurd c1 (by decide)) (fun c1 => ?_)
    refine lv_aload_n hx hb dX2_isSame_349 rfl (lv_at hl 2 rfl) ?_
    refine lv_iload hx hb dX2_isSame_350 (lv_at hl 0 rfl) ?_
    refine m_ci (wa := rs_w cI cR o z u) (wb := ra_w cI ob ad v) (wd := ((o2, .inr (2, rs_f z2 (rf_pay u))) :: hw_w cI cB h u.2.1 r2 g2)) (cells' := 33 + 2 * u.2.1) (slots' := 163 + 14 * u.2.1) rfl rfl C S.1 S.2.1 S.2.2 (fun hPb hDb => g_runV (wr := ((o2, .inr (2, rs_f z2 (rf_pay u))) :: hw_w cI cB h u.2.1 r2 g2) ++ rs_w cI cR o z u) (n := 1) (As := [.int 0]) C (mX0_rate l D t cI ob ad H.size v 0 (by decide)) (rw_V q271 q272 q273 q2 q274) kd_X0_rate ⟨Nat.le_of_ble_eq_true rfl, Nat.le_of_ble_eq_true rfl⟩ (ci := 0) rfl rfl rfl (C.2.2.2.2.2.1.sub (tys' := [(cI, .int)]) [0] rfl) hPb hDb S.2.2 hl.1 rfl rfl (Nat.le_of_ble_eq_true rfl) dX2_isSame_352 ⟨(show 33 + 2 * u.2.1 + 0 ≤ 60 by omega), (show 163 + 14 * u.2.1 + 0 ≤ 300 by omega)⟩) (fun v w' H locs hv _ hP9 hD9 hS9 => ?_)
    obtain ⟨rfl, rfl⟩ := hv
    have S : sS D A s cI cR o z u (ra_w cI ob ad v ++ ((o2, .inr (2, rs_f z2 (rf_pay u))) :: hw_w cI cB h u.2.1 r2 g2)) H locs := ⟨hP9, hD9, hS9⟩
    refine g_top (y := u.1 7 0) (congrFun (hE.2 7 (by decide)) 0) ?_
    refine lv_aload_n hx hb dX2_isSame_355 rfl (lv_at hl 1 rfl) ?_
    refine s_gf C S 1 (by decide) (v := .ref (z.1 0)) rfl rfl q33 dX2_isSame_356 ?_
    refine lv_iload hx hb dX2_isSame_359 (lv_at hl 0 rfl) ?_
    refine s_l7 C S (i := 0) (by decide) rfl dX2_isSame_361 ?_
    refine lv_icmp_eq (tgt := 367) hx hb dX2_isSame_362 (by decide) (fun c2 => ?_) (fun c2 => absurd (rfl) c2)
    refine lv_iinc (v := nI 1) (lv' := [(6, .int (nI 1)), (0, .ref o), (1, .ref ob), (2, .int (rf_sm (u.1 4) u.2.1)), (3, .int (rf_sm (u.1 5) u.2.1)), (4, .int (rf_sm (u.1 6) u.2.1)), (5, .ref o2)]) hx hb dX2_isSame_367 hl (k := 0) rfl (nI_1 _) (by decide) rfl (fun ls hl => ?_)
    refine lv_goto (tgt := 343) hx hb dX2_isSame_370 (by decide) ?_
    refine lv_iload hx hb dX2_isSame_343 (lv_at hl 0 rfl) ?_
    refine lv_iconst (v := 5) hx hb dX2_isSame_345 (by decide) ?_
    refine lv_icmp_ge (tgt := 373) hx hb dX2_isSame_346 (by decide) (fun c3 => absurd c3 (by decide)) (fun c3 => ?_)
    refine lv_aload_n hx hb dX2_isSame_349 rfl (lv_at hl 2 rfl) ?_
    refine lv_iload hx hb dX2_isSame_350 (lv_at hl 0 rfl) ?_
    refine m_ci (wa := rs_w cI cR o z u) (wb := ra_w cI ob ad v) (wd := ((o2, .inr (2, rs_f z2 (rf_pay u))) :: hw_w cI cB h u.2.1 r2 g2)) (cells' := 33 + 2 * u.2.1) (slots' := 163 + 14 * u.2.1) rfl rfl C S.1 S.2.1 S.2.2 (fun hPb hDb => g_runV (wr := ((o2, .inr (2, rs_f z2 (rf_pay u))) :: hw_w cI cB h u.2.1 r2 g2) ++ rs_w cI cR o z u) (n := 1) (As := [.int (nI 1)]) C (mX0_rate l D t cI ob ad H.size v 1 (by decide)) (rw_V q271 q272 q273 q2 q274) kd_X0_rate ⟨Nat.le_of_ble_eq_true rfl, Nat.le_of_ble_eq_true rfl⟩ (ci := 0) rfl rfl rfl (C.2.2.2.2.2.1.sub (tys' := [(cI, .int)]) [0] rfl) hPb hDb S.2.2 hl.1 rfl rfl (Nat.le_of_ble_eq_true rfl) dX2_isSame_352 ⟨(show 33 + 2 * u.2.1 + 0 ≤ 60 by omega), (show 163 + 14 * u.2.1 + 0 ≤ 300 by omega)⟩) (fun v w' H locs hv _ hP9 hD9 hS9 => ?_)
    obtain ⟨rfl, rfl⟩ := hv
    have S : sS D A s cI cR o z u (ra_w cI ob ad v ++ ((o2, .inr (2, rs_f z2 (rf_pay u))) :: hw_w cI cB h u.2.1 r2 g2)) H locs := ⟨hP9, hD9, hS9⟩
    refine g_top (y := u.1 7 1) (congrFun (hE.2 7 (by decide)) 1) ?_
    refine lv_aload_n hx hb dX2_isSame_355 rfl (lv_at hl 1 rfl) ?_
    refine s_gf C S 1 (by decide) (v := .ref (z.1 0)) rfl rfl q33 dX2_isSame_356 ?_
    refine lv_iload hx hb dX2_isSame_359 (lv_at hl 0 rfl) ?_
    refine s_l7 C S (i := 1) (by decide) rfl dX2_isSame_361 ?_
    refine lv_icmp_eq (tgt := 367) hx hb dX2_isSame_362 (by decide) (fun c4 => ?_) (fun c4 => absurd (rfl) c4)
    refine lv_iinc (v := nI 2) (lv' := [(6, .int (nI 2)), (0, .ref o), (1, .ref ob), (2, .int (rf_sm (u.1 4) u.2.1)), (3, .int (rf_sm (u.1 5) u.2.1)), (4, .int (rf_sm (u.1 6) u.2.1)), (5, .ref o2)]) hx hb dX2_isSame_367 hl (k := 0) rfl (nI_1 _) (by decide) rfl (fun ls hl => ?_)
    refine lv_goto (tgt := 343) hx hb dX2_isSame_370 (by decide) ?_
    refine lv_iload hx hb dX2_isSame_343 (lv_at hl 0 rfl) ?_
    refine lv_iconst (v := 5) hx hb dX2_isSame_345 (by decide) ?_
    refine lv_icmp_ge (tgt := 373) hx hb dX2_isSame_346 (by decide) (fun c5 => absurd c5 (by decide)) (fun c5 => ?_)
    refine lv_aload_n hx hb dX2_isSame_349 rfl (lv_at hl 2 rfl) ?_
    refine lv_iload hx hb dX2_isSame_350 (lv_at hl 0 rfl) ?_
    refine m_ci (wa := rs_w cI cR o z u) (wb := ra_w cI ob ad v) (wd := ((o2, .inr (2, rs_f z2 (rf_pay u))) :: hw_w cI cB h u.2.1 r2 g2)) (cells' := 33 + 2 * u.2.1) (slots' := 163 + 14 * u.2.1) rfl rfl C S.1 S.2.1 S.2.2 (fun hPb hDb => g_runV (wr := ((o2, .inr (2, rs_f z2 (rf_pay u))) :: hw_w cI cB h u.2.1 r2 g2) ++ rs_w cI cR o z u) (n := 1) (As := [.int (nI 2)]) C (mX0_rate l D t cI ob ad H.size v 2 (by decide)) (rw_V q271 q272 q273 q2 q274) kd_X0_rate ⟨Nat.le_of_ble_eq_true rfl, Nat.le_of_ble_eq_true rfl⟩ (ci := 0) rfl rfl rfl (C.2.2.2.2.2.1.sub (tys' := [(cI, .int)]) [0] rfl) hPb hDb S.2.2 hl.1 rfl rfl (Nat.le_of_ble_eq_true rfl) dX2_isSame_352 ⟨(show 33 + 2 * u.2.1 + 0 ≤ 60 by omega), (show 163 + 14 * u.2.1 + 0 ≤ 300 by omega)⟩) (fun v w' H locs hv _ hP9 hD9 hS9 => ?_)
    obtain ⟨rfl, rfl⟩ := hv
    have S : sS D A s cI cR o z u (ra_w cI ob ad v ++ ((o2, .inr (2, rs_f z2 (rf_pay u))) :: hw_w cI cB h u.2.1 r2 g2)) H locs := ⟨hP9, hD9, hS9⟩
    refine g_top (y := u.1 7 2) (congrFun (hE.2 7 (by decide)) 2) ?_
    refine lv_aload_n hx hb dX2_isSame_355 rfl (lv_at hl 1 rfl) ?_
    refine s_gf C S 1 (by decide) (v := .ref (z.1 0)) rfl rfl q33 dX2_isSame_356 ?_
    refine lv_iload hx hb dX2_isSame_359 (lv_at hl 0 rfl) ?_
    refine s_l7 C S (i := 2) (by decide) rfl dX2_isSame_361 ?_
    refine lv_icmp_eq (tgt := 367) hx hb dX2_isSame_362 (by decide) (fun c6 => ?_) (fun c6 => absurd (rfl) c6)
    refine lv_iinc (v := nI 3) (lv' := [(6, .int (nI 3)), (0, .ref o), (1, .ref ob), (2, .int (rf_sm (u.1 4) u.2.1)), (3, .int (rf_sm (u.1 5) u.2.1)), (4, .int (rf_sm (u.1 6) u.2.1)), (5, .ref o2)]) hx hb dX2_isSame_367 hl (k := 0) rfl (nI_1 _) (by decide) rfl (fun ls hl => ?_)
    refine lv_goto (tgt := 343) hx hb dX2_isSame_370 (by decide) ?_
    refine lv_iload hx hb dX2_isSame_343 (lv_at hl 0 rfl) ?_
    refine lv_iconst (v := 5) hx hb dX2_isSame_345 (by decide) ?_
    refine lv_icmp_ge (tgt := 373) hx hb dX2_isSame_346 (by decide) (fun c7 => absurd c7 (by decide)) (fun c7 => ?_)
    refine lv_aload_n hx hb dX2_isSame_349 rfl (lv_at hl 2 rfl) ?_
    refine lv_iload hx hb dX2_isSame_350 (lv_at hl 0 rfl) ?_
    refine m_ci (wa := rs_w cI cR o z u) (wb := ra_w cI ob ad v) (wd := ((o2, .inr (2, rs_f z2 (rf_pay u))) :: hw_w cI cB h u.2.1 r2 g2)) (cells' := 33 + 2 * u.2.1) (slots' := 163 + 14 * u.2.1) rfl rfl C S.1 S.2.1 S.2.2 (fun hPb hDb => g_runV (wr := ((o2, .inr (2, rs_f z2 (rf_pay u))) :: hw_w cI cB h u.2.1 r2 g2) ++ rs_w cI cR o z u) (n := 1) (As := [.int (nI 3)]) C (mX0_rate l D t cI ob ad H.size v 3 (by decide)) (rw_V q271 q272 q273 q2 q274) kd_X0_rate ⟨Nat.le_of_ble_eq_true rfl, Nat.le_of_ble_eq_true rfl⟩ (ci := 0) rfl rfl rfl (C.2.2.2.2.2.1.sub (tys' := [(cI, .int)]) [0] rfl) hPb hDb S.2.2 hl.1 rfl rfl (Nat.le_of_ble_eq_true rfl) dX2_isSame_352 ⟨(show 33 + 2 * u.2.1 + 0 ≤ 60 by omega), (show 163 + 14 * u.2.1 + 0 ≤ 300 by omega)⟩) (fun v w' H locs hv _ hP9 hD9 hS9 => ?_)
    obtain ⟨rfl, rfl⟩ := hv
    have S : sS D A s cI cR o z u (ra_w cI ob ad v ++ ((o2, .inr (2, rs_f z2 (rf_pay u))) :: hw_w cI cB h u.2.1 r2 g2)) H locs := ⟨hP9, hD9, hS9⟩
    refine g_top (y := u.1 7 3) (congrFun (hE.2 7 (by decide)) 3) ?_
    refine lv_aload_n hx hb dX2_isSame_355 rfl (lv_at hl 1 rfl) ?_
    refine s_gf C S 1 (by decide) (v := .ref (z.1 0)) rfl rfl q33 dX2_isSame_356 ?_
    refine lv_iload hx hb dX2_isSame_359 (lv_at hl 0 rfl) ?_
    refine s_l7 C S (i := 3) (by decide) rfl dX2_isSame_361 ?_
    refine lv_icmp_eq (tgt := 367) hx hb dX2_isSame_362 (by decide) (fun c8 => ?_) (fun c8 => absurd (rfl) c8)
    refine lv_iinc (v := nI 4) (lv' := [(6, .int (nI 4)), (0, .ref o), (1, .ref ob), (2, .int (rf_sm (u.1 4) u.2.1)), (3, .int (rf_sm (u.1 5) u.2.1)), (4, .int (rf_sm (u.1 6) u.2.1)), (5, .ref o2)]) hx hb dX2_isSame_367 hl (k := 0) rfl (nI_1 _) (by decide) rfl (fun ls hl => ?_)
    refine lv_goto (tgt := 343) hx hb dX2_isSame_370 (by decide) ?_
    refine lv_iload hx hb dX2_isSame_343 (lv_at hl 0 rfl) ?_
    refine lv_iconst (v := 5) hx hb dX2_isSame_345 (by decide) ?_
    refine lv_icmp_ge (tgt := 373) hx hb dX2_isSame_346 (by decide) (fun c9 => absurd c9 (by decide)) (fun c9 => ?_)
    refine lv_aload_n hx hb dX2_isSame_349 rfl (lv_at hl 2 rfl) ?_
    refine lv_iload hx hb dX2_isSame_350 (lv_at hl 0 rfl) ?_
    refine m_ci (wa := rs_w cI cR o z u) (wb := ra_w cI ob ad v) (wd := ((o2, .inr (2, rs_f z2 (rf_pay u))) :: hw_w cI cB h u.2.1 r2 g2)) (cells' := 33 + 2 * u.2.1) (slots' := 163 + 14 * u.2.1) rfl rfl C S.1 S.2.1 S.2.2 (fun hPb hDb => g_runV (wr := ((o2, .inr (2, rs_f z2 (rf_pay u))) :: hw_w cI cB h u.2.1 r2 g2) ++ rs_w cI cR o z u) (n := 1) (As := [.int (nI 4)]) C (mX0_rate l D t cI ob ad H.size v 4 (by decide)) (rw_V q271 q272 q273 q2 q274) kd_X0_rate ⟨Nat.le_of_ble_eq_true rfl, Nat.le_of_ble_eq_true rfl⟩ (ci := 0) rfl rfl rfl (C.2.2.2.2.2.1.sub (tys' := [(cI, .int)]) [0] rfl) hPb hDb S.2.2 hl.1 rfl rfl (Nat.le_of_ble_eq_true rfl) dX2_isSame_352 ⟨(show 33 + 2 * u.2.1 + 0 ≤ 60 by omega), (show 163 + 14 * u.2.1 + 0 ≤ 300 by omega)⟩) (fun v w' H locs hv _ hP9 hD9 hS9 => ?_)
    obtain ⟨rfl, rfl⟩ := hv
    have S : sS D A s cI cR o z u (ra_w cI ob ad v ++ ((o2, .inr (2, rs_f z2 (rf_pay u))) :: hw_w cI cB h u.2.1 r2 g2)) H locs := ⟨hP9, hD9, hS9⟩
    refine g_top (y := u.1 7 4) (congrFun (hE.2 7 (by decide)) 4) ?_
    refine lv_aload_n hx hb dX2_isSame_355 rfl (lv_at hl 1 rfl) ?_
    refine s_gf C S 1 (by decide) (v := .ref (z.1 0)) rfl rfl q33 dX2_isSame_356 ?_
    refine lv_iload hx hb dX2_isSame_359 (lv_at hl 0 rfl) ?_
    refine s_l7 C S (i := 4) (by decide) rfl dX2_isSame_361 ?_
    refine lv_icmp_eq (tgt := 367) hx hb dX2_isSame_362 (by decide) (fun c10 => ?_) (fun c10 => absurd (rfl) c10)
    refine lv_iinc (v := nI 5) (lv' := [(6, .int (nI 5)), (0, .ref o), (1, .ref ob), (2, .int (rf_sm (u.1 4) u.2.1)), (3, .int (rf_sm (u.1 5) u.2.1)), (4, .int (rf_sm (u.1 6) u.2.1)), (5, .ref o2)]) hx hb dX2_isSame_367 hl (k := 0) rfl (nI_1 _) (by decide) rfl (fun ls hl => ?_)
    refine lv_goto (tgt := 343) hx hb dX2_isSame_370 (by decide) ?_
    refine lv_iload hx hb dX2_isSame_343 (lv_at hl 0 rfl) ?_
    refine lv_iconst (v := 5) hx hb dX2_isSame_345 (by decide) ?_
    refine lv_icmp_ge (tgt := 373) hx hb dX2_isSame_346 (by decide) (fun c11 => ?_) (fun c11 => absurd (by decide) c11)
    refine lv_iconst (v := 0) hx hb dX2_isSame_373 (by decide) ?_
    refine lv_istore (lv' := [(6, .int 0), (0, .ref o), (1, .ref ob), (2, .int (rf_sm (u.1 4) u.2.1)), (3, .int (rf_sm (u.1 5) u.2.1)), (4, .int (rf_sm (u.1 6) u.2.1)), (5, .ref o2)]) hx hb dX2_isSame_374 hl (by decide) rfl (fun ls hl => ?_)
    refine lv_iload hx hb dX2_isSame_376 (lv_at hl 0 rfl) ?_
    refine lv_iconst (v := 3) hx hb dX2_isSame_378 (by decide) ?_
    refine lv_icmp_ge (tgt := 406) hx hb dX2_isSame_379 (by decide) (fun c12 => absurd c12 (by decide)) (fun c12 => ?_)
    refine lv_aload_n hx hb dX2_isSame_382 rfl (lv_at hl 2 rfl) ?_
    refine lv_iload hx hb dX2_isSame_383 (lv_at hl 0 rfl) ?_
    refine m_ci (wa := rs_w cI cR o z u) (wb := ra_w cI ob ad v) (wd := ((o2, .inr (2, rs_f z2 (rf_pay u))) :: hw_w cI cB h u.2.1 r2 g2)) (cells' := 33 + 2 * u.2.1) (slots' := 163 + 14 * u.2.1) rfl rfl C S.1 S.2.1 S.2.2 (fun hPb hDb => g_runV (wr := ((o2, .inr (2, rs_f z2 (rf_pay u))) :: hw_w cI cB h u.2.1 r2 g2) ++ rs_w cI cR o z u) (n := 1) (As := [.int 0]) C (mX0_chest l D t cI ob ad H.size v 0 (by decide)) (rw_V q275 q232 q233 q2 q234) kd_X0_chest ⟨Nat.le_of_ble_eq_true rfl, Nat.le_of_ble_eq_true rfl⟩ (ci := 0) rfl rfl rfl (C.2.2.2.2.2.1.sub (tys' := [(cI, .int)]) [0] rfl) hPb hDb S.2.2 hl.1 rfl rfl (Nat.le_of_ble_eq_true rfl) dX2_isSame_385 ⟨(show 33 + 2 * u.2.1 + 0 ≤ 60 by omega), (show 163 + 14 * u.2.1 + 0 ≤ 300 by omega)⟩) (fun v w' H locs hv _ hP9 hD9 hS9 => ?_)
    obtain ⟨rfl, rfl⟩ := hv
    have S : sS D A s cI cR o z u (ra_w cI ob ad v ++ ((o2, .inr (2, rs_f z2 (rf_pay u))) :: hw_w cI cB h u.2.1 r2 g2)) H locs := ⟨hP9, hD9, hS9⟩
    refine g_top (y := u.1 8 0) (congrFun (hE.2 8 (by decide)) 0) ?_
    refine lv_aload_n hx hb dX2_isSame_388 rfl (lv_at hl 1 rfl) ?_
    refine s_gf C S 2 (by decide) (v := .ref (z.1 1)) rfl rfl q34 dX2_isSame_389 ?_
    refine lv_iload hx hb dX2_isSame_392 (lv_at hl 0 rfl) ?_
    refine s_l8 C S (i := 0) (by decide) rfl dX2_isSame_394 ?_
    refine lv_icmp_eq (tgt := 400) hx hb dX2_isSame_395 (by decide) (fun c13 => ?_) (fun c13 => absurd (rfl) c13)
    refine lv_iinc (v := nI 1) (lv' := [(6, .int (nI 1)), (0, .ref o), (1, .ref ob), (2, .int (rf_sm (u.1 4) u.2.1)), (3, .int (rf_sm (u.1 5) u.2.1)), (4, .int (rf_sm (u.1 6) u.2.1)), (5, .ref o2)]) hx hb dX2_isSame_400 hl (k := 0) rfl (nI_1 _) (by decide) rfl (fun ls hl => ?_)
    refine lv_goto (tgt := 376) hx hb dX2_isSame_403 (by decide) ?_
    refine lv_iload hx hb dX2_isSame_376 (lv_at hl 0 rfl) ?_
    refine lv_iconst (v := 3) hx hb dX2_isSame_378 (by decide) ?_
    refine lv_icmp_ge (tgt := 406) hx hb dX2_isSame_379 (by decide) (fun c14 => absurd c14 (by decide)) (fun c14 => ?_)
    refine lv_aload_n hx hb dX2_isSame_382 rfl (lv_at hl 2 rfl) ?_
    refine lv_iload hx hb dX2_isSame_383 (lv_at hl 0 rfl) ?_
    refine m_ci (wa := rs_w cI cR o z u) (wb := ra_w cI ob ad v) (wd := ((o2, .inr (2, rs_f z2 (rf_pay u))) :: hw_w cI cB h u.2.1 r2 g2)) (cells' := 33 + 2 * u.2.1) (slots' := 163 + 14 * u.2.1) rfl rfl C S.1 S.2.1 S.2.2 (fun hPb hDb => g_runV (wr := ((o2, .inr (2, rs_f z2 (rf_pay u))) :: hw_w cI cB h u.2.1 r2 g2) ++ rs_w cI cR o z u) (n := 1) (As := [.int (nI 1)]) C (mX0_chest l D t cI ob ad H.size v 1 (by decide)) (rw_V q275 q232 q233 q2 q234) kd_X0_chest ⟨Nat.le_of_ble_eq_true rfl, Nat.le_of_ble_eq_true rfl⟩ (ci := 0) rfl rfl rfl (C.2.2.2.2.2.1.sub (tys' := [(cI, .int)]) [0] rfl) hPb hDb S.2.2 hl.1 rfl rfl (Nat.le_of_ble_eq_true rfl) dX2_isSame_385 ⟨(show 33 + 2 * u.2.1 + 0 ≤ 60 by omega), (show 163 + 14 * u.2.1 + 0 ≤ 300 by omega)⟩) (fun v w' H locs hv _ hP9 hD9 hS9 => ?_)
    obtain ⟨rfl, rfl⟩ := hv
    have S : sS D A s cI cR o z u (ra_w cI ob ad v ++ ((o2, .inr (2, rs_f z2 (rf_pay u))) :: hw_w cI cB h u.2.1 r2 g2)) H locs := ⟨hP9, hD9, hS9⟩
    refine g_top (y := u.1 8 1) (congrFun (hE.2 8 (by decide)) 1) ?_
    refine lv_aload_n hx hb dX2_isSame_388 rfl (lv_at hl 1 rfl) ?_
    refine s_gf C S 2 (by decide) (v := .ref (z.1 1)) rfl rfl q34 dX2_isSame_389 ?_
    refine lv_iload hx hb dX2_isSame_392 (lv_at hl 0 rfl) ?_
    refine s_l8 C S (i := 1) (by decide) rfl dX2_isSame_394 ?_
    refine lv_icmp_eq (tgt := 400) hx hb dX2_isSame_395 (by decide) (fun c15 => ?_) (fun c15 => absurd (rfl) c15)
    refine lv_iinc (v := nI 2) (lv' := [(6, .int (nI 2)), (0, .ref o), (1, .ref ob), (2, .int (rf_sm (u.1 4) u.2.1)), (3, .int (rf_sm (u.1 5) u.2.1)), (4, .int (rf_sm (u.1 6) u.2.1)), (5, .ref o2)]) hx hb dX2_isSame_400 hl (k := 0) rfl (nI_1 _) (by decide) rfl (fun ls hl => ?_)
    refine lv_goto (tgt := 376) hx hb dX2_isSame_403 (by decide) ?_
    refine lv_iload hx hb dX2_isSame_376 (lv_at hl 0 rfl) ?_
    refine lv_iconst (v := 3) hx hb dX2_isSame_378 (by decide) ?_
    refine lv_icmp_ge (tgt := 406) hx hb dX2_isSame_379 (by decide) (fun c16 => absurd c16 (by decide)) (fun c16 => ?_)
    refine lv_aload_n hx hb dX2_isSame_382 rfl (lv_at hl 2 rfl) ?_
    refine lv_iload hx hb dX2_isSame_383 (lv_at hl 0 rfl) ?_
    refine m_ci (wa := rs_w cI cR o z u) (wb := ra_w cI ob ad v) (wd := ((o2, .inr (2, rs_f z2 (rf_pay u))) :: hw_w cI cB h u.2.1 r2 g2)) (cells' := 33 + 2 * u.2.1) (slots' := 163 + 14 * u.2.1) rfl rfl C S.1 S.2.1 S.2.2 (fun hPb hDb => g_runV (wr := ((o2, .inr (2, rs_f z2 (rf_pay u))) :: hw_w cI cB h u.2.1 r2 g2) ++ rs_w cI cR o z u) (n := 1) (As := [.int (nI 2)]) C (mX0_chest l D t cI ob ad H.size v 2 (by decide)) (rw_V q275 q232 q233 q2 q234) kd_X0_chest ⟨Nat.le_of_ble_eq_true rfl, Nat.le_of_ble_eq_true rfl⟩ (ci := 0) rfl rfl rfl (C.2.2.2.2.2.1.sub (tys' := [(cI, .int)]) [0] rfl) hPb hDb S.2.2 hl.1 rfl rfl (Nat.le_of_ble_eq_true rfl) dX2_isSame_385 ⟨(show 33 + 2 * u.2.1 + 0 ≤ 60 by omega), (show 163 + 14 * u.2.1 + 0 ≤ 300 by omega)⟩) (fun v w' H locs hv _ hP9 hD9 hS9 => ?_)
    obtain ⟨rfl, rfl⟩ := hv
    have S : sS D A s cI cR o z u (ra_w cI ob ad v ++ ((o2, .inr (2, rs_f z2 (rf_pay u))) :: hw_w cI cB h u.2.1 r2 g2)) H locs := ⟨hP9, hD9, hS9⟩
    refine g_top (y := u.1 8 2) (congrFun (hE.2 8 (by decide)) 2) ?_
    refine lv_aload_n hx hb dX2_isSame_388 rfl (lv_at hl 1 rfl) ?_
    refine s_gf C S 2 (by decide) (v := .ref (z.1 1)) rfl rfl q34 dX2_isSame_389 ?_
    refine lv_iload hx hb dX2_isSame_392 (lv_at hl 0 rfl) ?_
    refine s_l8 C S (i := 2) (by decide) rfl dX2_isSame_394 ?_
    refine lv_icmp_eq (tgt := 400) hx hb dX2_isSame_395 (by decide) (fun c17 => ?_) (fun c17 => absurd (rfl) c17)
    refine lv_iinc (v := nI 3) (lv' := [(6, .int (nI 3)), (0, .ref o), (1, .ref ob), (2, .int (rf_sm (u.1 4) u.2.1)), (3, .int (rf_sm (u.1 5) u.2.1)), (4, .int (rf_sm (u.1 6) u.2.1)), (5, .ref o2)]) hx hb dX2_isSame_400 hl (k := 0) rfl (nI_1 _) (by decide) rfl (fun ls hl => ?_)
    refine lv_goto (tgt := 376) hx hb dX2_isSame_403 (by decide) ?_
    refine lv_iload hx hb dX2_isSame_376 (lv_at hl 0 rfl) ?_
    refine lv_iconst (v := 3) hx hb dX2_isSame_378 (by decide) ?_
    refine lv_icmp_ge (tgt := 406) hx hb dX2_isSame_379 (by decide) (fun c18 => ?_) (fun c18 => absurd (by decide) c18)
    refine lv_bipush (v := 7) hx hb dX2_isSame_406 (by decide) ?_
    refine x_new C S (N := 7) rfl (by omega) q4 (cells' := 33 + 2 * u.2.1 + 1) (slots' := 163 + 14 * u.2.1 + 7) rfl rfl (show 33 + 2 * u.2.1 + 1 ≤ 60 by omega) (show 163 + 14 * u.2.1 + 7 ≤ 300 by omega) dX2_isSame_408 (fun a19 H S => ?_)
    have S : sS D A s cI cR o z u (ra_w cI ob ad v ++ ((o2, .inr (2, rs_f z2 (rf_pay u))) :: (a19, .inl (cI, 7, .inl (fun _ => 0))) :: hw_w cI cB h u.2.1 r2 g2)) H locs := S.re (fun q hq => by simp only [List.mem_append, List.mem_cons, List.not_mem_nil, or_false, false_or] at hq ⊢; first | exact hq | grind) (fun a => by simp only [List.map_append, List.map_cons, List.map_nil, List.count_append, List.count_cons, List.count_nil]; omega)
    refine lv_dup hx hb dX2_isSame_410 rfl ?_
    refine lv_iconst (v := 0) hx hb dX2_isSame_411 (by decide) ?_
    refine lv_aload_n hx hb dX2_isSame_412 rfl (lv_at hl 1 rfl) ?_
    refine s_gf C S 0 (by decide) (v := .int u.2.2) rfl rfl q167 dX2_isSame_413 ?_
    refine x_st C S 14 (n := 7) (f := (fun _ => 0)) (i := 0) rfl (by omega) (by omega) rfl dX2_isSame_416 (fun H locs S => ?_)
    have S : sS D A s cI cR o z u (ra_w cI ob ad v ++ ((o2, .inr (2, rs_f z2 (rf_pay u))) :: (a19, .inl (cI, 7, .inl (upd (fun _ => 0) 0 u.2.2))) :: hw_w cI cB h u.2.1 r2 g2)) H locs := S
    refine lv_dup hx hb dX2_isSame_417 rfl ?_
    refine lv_iconst (v := 1) hx hb dX2_isSame_418 (by decide) ?_
    refine lv_aload_n hx hb dX2_isSame_419 rfl (lv_at hl 1 rfl) ?_
    refine s_gf C S 3 (by decide) (v := .ref (z.1 2)) rfl rfl q36 dX2_isSame_420 ?_
    refine s_an C S dX2_isSame_423 ?_
    refine x_st C S 14 (n := 7) (f := (upd (fun _ => 0) 0 u.2.2)) (i := 1) rfl (by omega) (by omega) rfl dX2_isSame_424 (fun H locs S => ?_)
    have S : sS D A s cI cR o z u (ra_w cI ob ad v ++ ((o2, .inr (2, rs_f z2 (rf_pay u))) :: (a19, .inl (cI, 7, .inl (upd (upd (fun _ => 0) 0 u.2.2) 1 (nI u.2.1)))) :: hw_w cI cB h u.2.1 r2 g2)) H locs := S
    refine lv_dup hx hb dX2_isSame_425 rfl ?_
    refine lv_iconst (v := 2) hx hb dX2_isSame_426 (by decide) ?_
    refine lv_iload_n hx hb dX2_isSame_427 rfl (lv_at hl 3 rfl) ?_
    refine x_st C S 14 (n := 7) (f := (upd (upd (fun _ => 0) 0 u.2.2) 1 (nI u.2.1))) (i := 2) rfl (by omega) (by omega) rfl dX2_isSame_428 (fun H locs S => ?_)
    have S : sS D A s cI cR o z u (ra_w cI ob ad v ++ ((o2, .inr (2, rs_f z2 (rf_pay u))) :: (a19, .inl (cI, 7, .inl (upd (upd (upd (fun _ => 0) 0 u.2.2) 1 (nI u.2.1)) 2 (rf_sm (u.1 4) u.2.1)))) :: hw_w cI cB h u.2.1 r2 g2)) H locs := S
    refine lv_dup hx hb dX2_isSame_429 rfl ?_
    refine lv_iconst (v := 3) hx hb dX2_isSame_430 (by decide) ?_
    refine lv_iload_n hx hb dX2_isSame_431 rfl (lv_at hl 4 rfl) ?_
    refine x_st C S 14 (n := 7) (f := (upd (upd (upd (fun _ => 0) 0 u.2.2) 1 (nI u.2.1)) 2 (rf_sm (u.1 4) u.2.1))) (i := 3) rfl (by omega) (by omega) rfl dX2_isSame_432 (fun H locs S => ?_)
    have S : sS D A s cI cR o z u (ra_w cI ob ad v ++ ((o2, .inr (2, rs_f z2 (rf_pay u))) :: (a19, .inl (cI, 7, .inl (upd (upd (upd (upd (fun _ => 0) 0 u.2.2) 1 (nI u.2.1)) 2 (rf_sm (u.1 4) u.2.1)) 3 (rf_sm (u.1 5) u.2.1)))) :: hw_w cI cB h u.2.1 r2 g2)) H locs := S
    refine lv_dup hx hb dX2_isSame_433 rfl ?_
    refine lv_iconst (v := 4) hx hb dX2_isSame_434 (by decide) ?_
    refine lv_iconst (v := 4) hx hb dX2_isSame_435 (by decide) ?_
    refine lv_bipush (v := 30) hx hb dX2_isSame_436 (by decide) ?_
    refine lv_aload_n hx hb dX2_isSame_438 rfl (lv_at hl 1 rfl) ?_
    refine s_gf C S 2 (by decide) (v := .ref (z.1 1)) rfl rfl q34 dX2_isSame_439 ?_
    refine lv_iconst (v := 0) hx hb dX2_isSame_442 (by decide) ?_
    refine s_l8 C S (i := 0) (by decide) rfl dX2_isSame_443 ?_
    refine lv_imul hx hb dX2_isSame_444 ?_
    refine lv_bipush (v := 12) hx hb dX2_isSame_445 (by decide) ?_
    refine lv_aload_n hx hb dX2_isSame_447 rfl (lv_at hl 1 rfl) ?_
    refine s_gf C S 2 (by decide) (v := .ref (z.1 1)) rfl rfl q34 dX2_isSame_448 ?_
    refine lv_iconst (v := 1) hx hb dX2_isSame_451 (by decide) ?_
    refine s_l8 C S (i := 1) (by decide) rfl dX2_isSame_452 ?_
    refine lv_imul hx hb dX2_isSame_453 ?_
    refine lv_iadd hx hb dX2_isSame_454 ?_
    refine lv_aload_n hx hb dX2_isSame_455 rfl (lv_at hl 1 rfl) ?_
    refine s_gf C S 2 (by decide) (v := .ref (z.1 1)) rfl rfl q34 dX2_isSame_456 ?_
    refine lv_iconst (v := 2) hx hb dX2_isSame_459 (by decide) ?_
    refine s_l8 C S (i := 2) (by decide) rfl dX2_isSame_460 ?_
    refine lv_iadd hx hb dX2_isSame_461 ?_
    refine lv_imul hx hb dX2_isSame_462 ?_
    refine x_st C S 14 (n := 7) (f := (upd (upd (upd (upd (fun _ => 0) 0 u.2.2) 1 (nI u.2.1)) 2 (rf_sm (u.1 4) u.2.1)) 3 (rf_sm (u.1 5) u.2.1))) (i := 4) rfl (by omega) (by omega) rfl dX2_isSame_463 (fun H locs S => ?_)
    have S : sS D A s cI cR o z u (ra_w cI ob ad v ++ ((o2, .inr (2, rs_f z2 (rf_pay u))) :: (a19, .inl (cI, 7, .inl (upd (upd (upd (upd (upd (fun _ => 0) 0 u.2.2) 1 (nI u.2.1)) 2 (rf_sm (u.1 4) u.2.1)) 3 (rf_sm (u.1 5) u.2.1)) 4 (4 * (((30 * (u.1 8 0)) + (12 * (u.1 8 1))) + (u.1 8 2)))))) :: hw_w cI cB h u.2.1 r2 g2)) H locs := S
    refine lv_dup hx hb dX2_isSame_464 rfl ?_
    refine lv_iconst (v := 5) hx hb dX2_isSame_465 (by decide) ?_
    refine lv_aload_n hx hb dX2_isSame_466 rfl (lv_at hl 1 rfl) ?_
    refine m_ci (wa := []) (wb := rs_w cI cR o z u) (wd := ra_w cI ob ad v ++ ((o2, .inr (2, rs_f z2 (rf_pay u))) :: (a19, .inl (cI, 7, .inl (upd (upd (upd (upd (upd (fun _ => 0) 0 u.2.2) 1 (nI u.2.1)) 2 (rf_sm (u.1 4) u.2.1)) 3 (rf_sm (u.1 5) u.2.1)) 4 (4 * (((30 * (u.1 8 0)) + (12 * (u.1 8 1))) + (u.1 8 2)))))) :: hw_w cI cB h u.2.1 r2 g2)) (cells' := 33 + 2 * u.2.1 + 1) (slots' := 163 + 14 * u.2.1 + 7) rfl rfl C S.1 S.2.1 S.2.2 (fun hPb hDb => g_runVj (n := 0) (As := []) C (mX2_wages l D t cI cR cB o z H.size u T B) (rw_V q276 q277 q278 q29 q279) kd_X2_wages ⟨Nat.le_of_ble_eq_true rfl, Nat.le_of_ble_eq_true rfl⟩ (ci := 2) rfl rfl 0 rfl C.2.2.2.2.2.1 hPb hDb S.2.2 hl.1 rfl rfl (Nat.le_of_ble_eq_true rfl) dX2_isSame_467 ⟨(show 33 + 2 * u.2.1 + 1 + 0 ≤ 60 by omega), (show 163 + 14 * u.2.1 + 7 + 0 ≤ 300 by omega)⟩) (fun v w' H locs hv _ hP9 hD9 hS9 => ?_)
    obtain ⟨rfl, rfl⟩ := hv
    have S : sS D A s cI cR o z u (ra_w cI ob ad v ++ ((o2, .inr (2, rs_f z2 (rf_pay u))) :: (a19, .inl (cI, 7, .inl (upd (upd (upd (upd (upd (fun _ => 0) 0 u.2.2) 1 (nI u.2.1)) 2 (rf_sm (u.1 4) u.2.1)) 3 (rf_sm (u.1 5) u.2.1)) 4 (4 * (((30 * (u.1 8 0)) + (12 * (u.1 8 1))) + (u.1 8 2)))))) :: hw_w cI cB h u.2.1 r2 g2)) H locs := ⟨hP9, hD9, hS9⟩
    refine x_st C S 14 (n := 7) (f := (upd (upd (upd (upd (upd (fun _ => 0) 0 u.2.2) 1 (nI u.2.1)) 2 (rf_sm (u.1 4) u.2.1)) 3 (rf_sm (u.1 5) u.2.1)) 4 (4 * (((30 * (u.1 8 0)) + (12 * (u.1 8 1))) + (u.1 8 2))))) (i := 5) rfl (by omega) (by omega) rfl dX2_isSame_470 (fun H locs S => ?_)
    have S : sS D A s cI cR o z u (ra_w cI ob ad v ++ ((o2, .inr (2, rs_f z2 (rf_pay u))) :: (a19, .inl (cI, 7, .inl (upd (upd (upd (upd (upd (upd (fun _ => 0) 0 u.2.2) 1 (nI u.2.1)) 2 (rf_sm (u.1 4) u.2.1)) 3 (rf_sm (u.1 5) u.2.1)) 4 (4 * (((30 * (u.1 8 0)) + (12 * (u.1 8 1))) + (u.1 8 2)))) 5 (rf_sm (rf_ww u 7) u.2.1)))) :: hw_w cI cB h u.2.1 r2 g2)) H locs := S
    refine lv_dup hx hb dX2_isSame_471 rfl ?_
    refine lv_bipush (v := 6) hx hb dX2_isSame_472 (by decide) ?_
    refine lv_iload hx hb dX2_isSame_474 (lv_at hl 5 rfl) ?_
    refine x_st C S 14 (n := 7) (f := (upd (upd (upd (upd (upd (upd (fun _ => 0) 0 u.2.2) 1 (nI u.2.1)) 2 (rf_sm (u.1 4) u.2.1)) 3 (rf_sm (u.1 5) u.2.1)) 4 (4 * (((30 * (u.1 8 0)) + (12 * (u.1 8 1))) + (u.1 8 2)))) 5 (rf_sm (rf_ww u 7) u.2.1))) (i := 6) rfl (by omega) (by omega) rfl dX2_isSame_476 (fun H locs S => ?_)
    have S : sS D A s cI cR o z u (ra_w cI ob ad v ++ ((o2, .inr (2, rs_f z2 (rf_pay u))) :: (a19, .inl (cI, 7, .inl (upd (upd (upd (upd (upd (upd (upd (fun _ => 0) 0 u.2.2) 1 (nI u.2.1)) 2 (rf_sm (u.1 4) u.2.1)) 3 (rf_sm (u.1 5) u.2.1)) 4 (4 * (((30 * (u.1 8 0)) + (12 * (u.1 8 1))) + (u.1 8 2)))) 5 (rf_sm (rf_ww u 7) u.2.1)) 6 (rf_sm (u.1 6) u.2.1)))) :: hw_w cI cB h u.2.1 r2 g2)) H locs := S
    refine lv_astore (lv' := [(6, .ref a19), (0, .ref o), (1, .ref ob), (2, .int (rf_sm (u.1 4) u.2.1)), (3, .int (rf_sm (u.1 5) u.2.1)), (4, .int (rf_sm (u.1 6) u.2.1)), (5, .ref o2)]) hx hb dX2_isSame_477 hl (by decide) rfl (fun ls hl => ?_)
    refine lv_iconst (v := 0) hx hb dX2_isSame_479 (by decide) ?_
    refine lv_istore (lv' := [(7, .int 0), (6, .ref a19), (0, .ref o), (1, .ref ob), (2, .int (rf_sm (u.1 4) u.2.1)), (3, .int (rf_sm (u.1 5) u.2.1)), (4, .int (rf_sm (u.1 6) u.2.1)), (5, .ref o2)]) hx hb dX2_isSame_480 hl (by decide) rfl (fun ls hl => ?_)
    refine lv_iload hx hb dX2_isSame_482 (lv_at hl 0 rfl) ?_
    refine lv_bipush (v := 7) hx hb dX2_isSame_484 (by decide) ?_
    refine lv_icmp_ge (tgt := 511) hx hb dX2_isSame_486 (by decide) (fun c20 => absurd c20 (by decide)) (fun c20 => ?_)
    refine lv_aload_n hx hb dX2_isSame_489 rfl (lv_at hl 3 rfl) ?_
    refine lv_iload hx hb dX2_isSame_490 (lv_at hl 0 rfl) ?_
    refine m_ci (wa := rs_w cI cR o z u) (wb := ra_w cI ob ad v) (wd := ((o2, .inr (2, rs_f z2 (rf_pay u))) :: (a19, .inl (cI, 7, .inl (upd (upd (upd (upd (upd (upd (upd (fun _ => 0) 0 u.2.2) 1 (nI u.2.1)) 2 (rf_sm (u.1 4) u.2.1)) 3 (rf_sm (u.1 5) u.2.1)) 4 (4 * (((30 * (u.1 8 0)) + (12 * (u.1 8 1))) + (u.1 8 2)))) 5 (rf_sm (rf_ww u 7) u.2.1)) 6 (rf_sm (u.1 6) u.2.1)))) :: hw_w cI cB h u.2.1 r2 g2)) (cells' := 33 + 2 * u.2.1 + 1) (slots' := 163 + 14 * u.2.1 + 7) rfl rfl C S.1 S.2.1 S.2.2 (fun hPb hDb => g_runV (wr := ((o2, .inr (2, rs_f z2 (rf_pay u))) :: (a19, .inl (cI, 7, .inl (upd (upd (upd (upd (upd (upd (upd (fun _ => 0) 0 u.2.2) 1 (nI u.2.1)) 2 (rf_sm (u.1 4) u.2.1)) 3 (rf_sm (u.1 5) u.2.1)) 4 (4 * (((30 * (u.1 8 0)) + (12 * (u.1 8 1))) + (u.1 8 2)))) 5 (rf_sm (rf_ww u 7) u.2.1)) 6 (rf_sm (u.1 6) u.2.1)))) :: hw_w cI cB h u.2.1 r2 g2) ++ rs_w cI cR o z u) (n := 1) (As := [.int 0]) C (mX0_count l D t cI ob ad H.size v (by rw [hE.n]; exact hu8) 0 (by decide)) (rw_V q280 q193 q194 q2 q195) kd_X0_count ⟨Nat.le_of_ble_eq_true rfl, Nat.le_of_ble_eq_true rfl⟩ (ci := 0) rfl rfl rfl (C.2.2.2.2.2.1.sub (tys' := [(cI, .int)]) [0] rfl) hPb hDb S.2.2 hl.1 rfl rfl (Nat.le_of_ble_eq_true rfl) dX2_isSame_492 ⟨(show 33 + 2 * u.2.1 + 1 + 0 ≤ 60 by omega), (show 163 + 14 * u.2.1 + 7 + 0 ≤ 300 by omega)⟩) (fun v w' H locs hv _ hP9 hD9 hS9 => ?_)
    obtain ⟨rfl, rfl⟩ := hv
    have S : sS D A s cI cR o z u (ra_w cI ob ad v ++ ((o2, .inr (2, rs_f z2 (rf_pay u))) :: (a19, .inl (cI, 7, .inl (upd (upd (upd (upd (upd (upd (upd (fun _ => 0) 0 u.2.2) 1 (nI u.2.1)) 2 (rf_sm (u.1 4) u.2.1)) 3 (rf_sm (u.1 5) u.2.1)) 4 (4 * (((30 * (u.1 8 0)) + (12 * (u.1 8 1))) + (u.1 8 2)))) 5 (rf_sm (rf_ww u 7) u.2.1)) 6 (rf_sm (u.1 6) u.2.1)))) :: hw_w cI cB h u.2.1 r2 g2)) H locs := ⟨hP9, hD9, hS9⟩
    refine g_top (y := u.2.2) (e9_c0 hE) ?_
    refine lv_aload hx hb dX2_isSame_495 (lv_at hl 1 rfl) ?_
    refine lv_iload hx hb dX2_isSame_497 (lv_at hl 0 rfl) ?_
    refine x_ld C S 14 (n := 7) (f := (upd (upd (upd (upd (upd (upd (upd (fun _ => 0) 0 u.2.2) 1 (nI u.2.1)) 2 (rf_sm (u.1 4) u.2.1)) 3 (rf_sm (u.1 5) u.2.1)) 4 (4 * (((30 * (u.1 8 0)) + (12 * (u.1 8 1))) + (u.1 8 2)))) 5 (rf_sm (rf_ww u 7) u.2.1)) 6 (rf_sm (u.1 6) u.2.1))) (i := 0) rfl (by omega) (by omega) rfl dX2_isSame_499 ?_
    refine g_top (y := u.2.2) (rfl) ?_
    refine lv_icmp_eq (tgt := 505) hx hb dX2_isSame_500 (by decide) (fun c21 => ?_) (fun c21 => absurd (rfl) c21)
    refine lv_iinc (v := nI 1) (lv' := [(7, .int (nI 1)), (6, .ref a19), (0, .ref o), (1, .ref ob), (2, .int (rf_sm (u.1 4) u.2.1)), (3, .int (rf_sm (u.1 5) u.2.1)), (4, .int (rf_sm (u.1 6) u.2.1)), (5, .ref o2)]) hx hb dX2_isSame_505 hl (k := 0) rfl (nI_1 _) (by decide) rfl (fun ls hl => ?_)
    refine lv_goto (tgt := 482) hx hb dX2_isSame_508 (by decide) ?_
    refine lv_iload hx hb dX2_isSame_482 (lv_at hl 0 rfl) ?_
    refine lv_bipush (v := 7) hx hb dX2_isSame_484 (by decide) ?_
    refine lv_icmp_ge (tgt := 511) hx hb dX2_isSame_486 (by decide) (fun c22 => absurd c22 (by decide)) (fun c22 => ?_)
    refine lv_aload_n hx hb dX2_isSame_489 rfl (lv_at hl 3 rfl) ?_
    refine lv_iload hx hb dX2_isSame_490 (lv_at hl 0 rfl) ?_
    refine m_ci (wa := rs_w cI cR o z u) (wb := ra_w cI ob ad v) (wd := ((o2, .inr (2, rs_f z2 (rf_pay u))) :: (a19, .inl (cI, 7, .inl (upd (upd (upd (upd (upd (upd (upd (fun _ => 0) 0 u.2.2) 1 (nI u.2.1)) 2 (rf_sm (u.1 4) u.2.1)) 3 (rf_sm (u.1 5) u.2.1)) 4 (4 * (((30 * (u.1 8 0)) + (12 * (u.1 8 1))) + (u.1 8 2)))) 5 (rf_sm (rf_ww u 7) u.2.1)) 6 (rf_sm (u.1 6) u.2.1)))) :: hw_w cI cB h u.2.1 r2 g2)) (cells' := 33 + 2 * u.2.1 + 1) (slots' := 163 + 14 * u.2.1 + 7) rfl rfl C S.1 S.2.1 S.2.2 (fun hPb hDb => g_runV (wr := ((o2, .inr (2, rs_f z2 (rf_pay u))) :: (a19, .inl (cI, 7, .inl (upd (upd (upd (upd (upd (upd (upd (fun _ => 0) 0 u.2.2) 1 (nI u.2.1)) 2 (rf_sm (u.1 4) u.2.1)) 3 (rf_sm (u.1 5) u.2.1)) 4 (4 * (((30 * (u.1 8 0)) + (12 * (u.1 8 1))) + (u.1 8 2)))) 5 (rf_sm (rf_ww u 7) u.2.1)) 6 (rf_sm (u.1 6) u.2.1)))) :: hw_w cI cB h u.2.1 r2 g2) ++ rs_w cI cR o z u) (n := 1) (As := [.int (nI 1)]) C (mX0_count l D t cI ob ad H.size v (by rw [hE.n]; exact hu8) 1 (by decide)) (rw_V q280 q193 q194 q2 q195) kd_X0_count ⟨Nat.le_of_ble_eq_true rfl, Nat.le_of_ble_eq_true rfl⟩ (ci := 0) rfl rfl rfl (C.2.2.2.2.2.1.sub (tys' := [(cI, .int)]) [0] rfl) hPb hDb S.2.2 hl.1 rfl rfl (Nat.le_of_ble_eq_true rfl) dX2_isSame_492 ⟨(show 33 + 2 * u.2.1 + 1 + 0 ≤ 60 by omega), (show 163 + 14 * u.2.1 + 7 + 0 ≤ 300 by omega)⟩) (fun v w' H locs hv _ hP9 hD9 hS9 => ?_)
    obtain ⟨rfl, rfl⟩ := hv
    have S : sS D A s cI cR o z u (ra_w cI ob ad v ++ ((o2, .inr (2, rs_f z2 (rf_pay u))) :: (a19, .inl (cI, 7, .inl (upd (upd (upd (upd (upd (upd (upd (fun _ => 0) 0 u.2.2) 1 (nI u.2.1)) 2 (rf_sm (u.1 4) u.2.1)) 3 (rf_sm (u.1 5) u.2.1)) 4 (4 * (((30 * (u.1 8 0)) + (12 * (u.1 8 1))) + (u.1 8 2)))) 5 (rf_sm (rf_ww u 7) u.2.1)) 6 (rf_sm (u.1 6) u.2.1)))) :: hw_w cI cB h u.2.1 r2 g2)) H locs := ⟨hP9, hD9, hS9⟩
    refine g_top (y := nI u.2.1) (e9_c1 hE) ?_
    refine lv_aload hx hb dX2_isSame_495 (lv_at hl 1 rfl) ?_
    refine lv_iload hx hb dX2_isSame_497 (lv_at hl 0 rfl) ?_
    refine x_ld C S 14 (n := 7) (f := (upd (upd (upd (upd (upd (upd (upd (fun _ => 0) 0 u.2.2) 1 (nI u.2.1)) 2 (rf_sm (u.1 4) u.2.1)) 3 (rf_sm (u.1 5) u.2.1)) 4 (4 * (((30 * (u.1 8 0)) + (12 * (u.1 8 1))) + (u.1 8 2)))) 5 (rf_sm (rf_ww u 7) u.2.1)) 6 (rf_sm (u.1 6) u.2.1))) (i := 1) rfl (by omega) (by omega) rfl dX2_isSame_499 ?_
    refine g_top (y := nI u.2.1) (rfl) ?_
    refine lv_icmp_eq (tgt := 505) hx hb dX2_isSame_500 (by decide) (fun c23 => ?_) (fun c23 => absurd (rfl) c23)
    refine lv_iinc (v := nI 2) (lv' := [(7, .int (nI 2)), (6, .ref a19), (0, .ref o), (1, .ref ob), (2, .int (rf_sm (u.1 4) u.2.1)), (3, .int (rf_sm (u.1 5) u.2.1)), (4, .int (rf_sm (u.1 6) u.2.1)), (5, .ref o2)]) hx hb dX2_isSame_505 hl (k := 0) rfl (nI_1 _) (by decide) rfl (fun ls hl => ?_)
    refine lv_goto (tgt := 482) hx hb dX2_isSame_508 (by decide) ?_
    refine lv_iload hx hb dX2_isSame_482 (lv_at hl 0 rfl) ?_
    refine lv_bipush (v := 7) hx hb dX2_isSame_484 (by decide) ?_
    refine lv_icmp_ge (tgt := 511) hx hb dX2_isSame_486 (by decide) (fun c24 => absurd c24 (by decide)) (fun c24 => ?_)
    refine lv_aload_n hx hb dX2_isSame_489 rfl (lv_at hl 3 rfl) ?_
    refine lv_iload hx hb dX2_isSame_490 (lv_at hl 0 rfl) ?_
    refine m_ci (wa := rs_w cI cR o z u) (wb := ra_w cI ob ad v) (wd := ((o2, .inr (2, rs_f z2 (rf_pay u))) :: (a19, .inl (cI, 7, .inl (upd (upd (upd (upd (upd (upd (upd (fun _ => 0) 0 u.2.2) 1 (nI u.2.1)) 2 (rf_sm (u.1 4) u.2.1)) 3 (rf_sm (u.1 5) u.2.1)) 4 (4 * (((30 * (u.1 8 0)) + (12 * (u.1 8 1))) + (u.1 8 2)))) 5 (rf_sm (rf_ww u 7) u.2.1)) 6 (rf_sm (u.1 6) u.2.1)))) :: hw_w cI cB h u.2.1 r2 g2)) (cells' := 33 + 2 * u.2.1 + 1) (slots' := 163 + 14 * u.2.1 + 7) rfl rfl C S.1 S.2.1 S.2.2 (fun hPb hDb => g_runV (wr := ((o2, .inr (2, rs_f z2 (rf_pay u))) :: (a19, .inl (cI, 7, .inl (upd (upd (upd (upd (upd (upd (upd (fun _ => 0) 0 u.2.2) 1 (nI u.2.1)) 2 (rf_sm (u.1 4) u.2.1)) 3 (rf_sm (u.1 5) u.2.1)) 4 (4 * (((30 * (u.1 8 0)) + (12 * (u.1 8 1))) + (u.1 8 2)))) 5 (rf_sm (rf_ww u 7) u.2.1)) 6 (rf_sm (u.1 6) u.2.1)))) :: hw_w cI cB h u.2.1 r2 g2) ++ rs_w cI cR o z u) (n := 1) (As := [.int (nI 2)]) C (mX0_count l D t cI ob ad H.size v (by rw [hE.n]; exact hu8) 2 (by decide)) (rw_V q280 q193 q194 q2 q195) kd_X0_count ⟨Nat.le_of_ble_eq_true rfl, Nat.le_of_ble_eq_true rfl⟩ (ci := 0) rfl rfl rfl (C.2.2.2.2.2.1.sub (tys' := [(cI, .int)]) [0] rfl) hPb hDb S.2.2 hl.1 rfl rfl (Nat.le_of_ble_eq_true rfl) dX2_isSame_492 ⟨(show 33 + 2 * u.2.1 + 1 + 0 ≤ 60 by omega), (show 163 + 14 * u.2.1 + 7 + 0 ≤ 300 by omega)⟩) (fun v w' H locs hv _ hP9 hD9 hS9 => ?_)
    obtain ⟨rfl, rfl⟩ := hv
    have S : sS D A s cI cR o z u (ra_w cI ob ad v ++ ((o2, .inr (2, rs_f z2 (rf_pay u))) :: (a19, .inl (cI, 7, .inl (upd (upd (upd (upd (upd (upd (upd (fun _ => 0) 0 u.2.2) 1 (nI u.2.1)) 2 (rf_sm (u.1 4) u.2.1)) 3 (rf_sm (u.1 5) u.2.1)) 4 (4 * (((30 * (u.1 8 0)) + (12 * (u.1 8 1))) + (u.1 8 2)))) 5 (rf_sm (rf_ww u 7) u.2.1)) 6 (rf_sm (u.1 6) u.2.1)))) :: hw_w cI cB h u.2.1 r2 g2)) H locs := ⟨hP9, hD9, hS9⟩
    refine g_top (y := rf_sm (u.1 4) u.2.1) (e9_c2 hE) ?_
    refine lv_aload hx hb dX2_isSame_495 (lv_at hl 1 rfl) ?_
    refine lv_iload hx hb dX2_isSame_497 (lv_at hl 0 rfl) ?_
    refine x_ld C S 14 (n := 7) (f := (upd (upd (upd (upd (upd (upd (upd (fun _ => 0) 0 u.2.2) 1 (nI u.2.1)) 2 (rf_sm (u.1 4) u.2.1)) 3 (rf_sm (u.1 5) u.2.1)) 4 (4 * (((30 * (u.1 8 0)) + (12 * (u.1 8 1))) + (u.1 8 2)))) 5 (rf_sm (rf_ww u 7) u.2.1)) 6 (rf_sm (u.1 6) u.2.1))) (i := 2) rfl (by omega) (by omega) rfl dX2_isSame_499 ?_
    refine g_top (y := rf_sm (u.1 4) u.2.1) (rfl) ?_
    refine lv_icmp_eq (tgt := 505) hx hb dX2_isSame_500 (by decide) (fun c25 => ?_) (fun c25 => absurd (rfl) c25)
    refine lv_iinc (v := nI 3) (lv' := [(7, .int (nI 3)), (6, .ref a19), (0, .ref o), (1, .ref ob), (2, .int (rf_sm (u.1 4) u.2.1)), (3, .int (rf_sm (u.1 5) u.2.1)), (4, .int (rf_sm (u.1 6) u.2.1)), (5, .ref o2)]) hx hb dX2_isSame_505 hl (k := 0) rfl (nI_1 _) (by decide) rfl (fun ls hl => ?_)
    refine lv_goto (tgt := 482) hx hb dX2_isSame_508 (by decide) ?_
    refine lv_iload hx hb dX2_isSame_482 (lv_at hl 0 rfl) ?_
    refine lv_bipush (v := 7) hx hb dX2_isSame_484 (by decide) ?_
    refine lv_icmp_ge (tgt := 511) hx hb dX2_isSame_486 (by decide) (fun c26 => absurd c26 (by decide)) (fun c26 => ?_)
    refine lv_aload_n hx hb dX2_isSame_489 rfl (lv_at hl 3 rfl) ?_
    refine lv_iload hx hb dX2_isSame_490 (lv_at hl 0 rfl) ?_
    refine m_ci (wa := rs_w cI cR o z u) (wb := ra_w cI ob ad v) (wd := ((o2, .inr (2, rs_f z2 (rf_pay u))) :: (a19, .inl (cI, 7, .inl (upd (upd (upd (upd (upd (upd (upd (fun _ => 0) 0 u.2.2) 1 (nI u.2.1)) 2 (rf_sm (u.1 4) u.2.1)) 3 (rf_sm (u.1 5) u.2.1)) 4 (4 * (((30 * (u.1 8 0)) + (12 * (u.1 8 1))) + (u.1 8 2)))) 5 (rf_sm (rf_ww u 7) u.2.1)) 6 (rf_sm (u.1 6) u.2.1)))) :: hw_w cI cB h u.2.1 r2 g2)) (cells' := 33 + 2 * u.2.1 + 1) (slots' := 163 + 14 * u.2.1 + 7) rfl rfl C S.1 S.2.1 S.2.2 (fun hPb hDb => g_runV (wr := ((o2, .inr (2, rs_f z2 (rf_pay u))) :: (a19, .inl (cI, 7, .inl (upd (upd (upd (upd (upd (upd (upd (fun _ => 0) 0 u.2.2) 1 (nI u.2.1)) 2 (rf_sm (u.1 4) u.2.1)) 3 (rf_sm (u.1 5) u.2.1)) 4 (4 * (((30 * (u.1 8 0)) + (12 * (u.1 8 1))) + (u.1 8 2)))) 5 (rf_sm (rf_ww u 7) u.2.1)) 6 (rf_sm (u.1 6) u.2.1)))) :: hw_w cI cB h u.2.1 r2 g2) ++ rs_w cI cR o z u) (n := 1) (As := [.int (nI 3)]) C (mX0_count l D t cI ob ad H.size v (by rw [hE.n]; exact hu8) 3 (by decide)) (rw_V q280 q193 q194 q2 q195) kd_X0_count ⟨Nat.le_of_ble_eq_true rfl, Nat.le_of_ble_eq_true rfl⟩ (ci := 0) rfl rfl rfl (C.2.2.2.2.2.1.sub (tys' := [(cI, .int)]) [0] rfl) hPb hDb S.2.2 hl.1 rfl rfl (Nat.le_of_ble_eq_true rfl) dX2_isSame_492 ⟨(show 33 + 2 * u.2.1 + 1 + 0 ≤ 60 by omega), (show 163 + 14 * u.2.1 + 7 + 0 ≤ 300 by omega)⟩) (fun v w' H locs hv _ hP9 hD9 hS9 => ?_)
    obtain ⟨rfl, rfl⟩ := hv
    have S : sS D A s cI cR o z u (ra_w cI ob ad v ++ ((o2, .inr (2, rs_f z2 (rf_pay u))) :: (a19, .inl (cI, 7, .inl (upd (upd (upd (upd (upd (upd (upd (fun _ => 0) 0 u.2.2) 1 (nI u.2.1)) 2 (rf_sm (u.1 4) u.2.1)) 3 (rf_sm (u.1 5) u.2.1)) 4 (4 * (((30 * (u.1 8 0)) + (12 * (u.1 8 1))) + (u.1 8 2)))) 5 (rf_sm (rf_ww u 7) u.2.1)) 6 (rf_sm (u.1 6) u.2.1)))) :: hw_w cI cB h u.2.1 r2 g2)) H locs := ⟨hP9, hD9, hS9⟩
    refine g_top (y := rf_sm (u.1 5) u.2.1) (e9_c3 hE) ?_
    refine lv_aload hx hb dX2_isSame_495 (lv_at hl 1 rfl) ?_
    refine lv_iload hx hb dX2_isSame_497 (lv_at hl 0 rfl) ?_
    refine x_ld C S 14 (n := 7) (f := (upd (upd (upd (upd (upd (upd (upd (fun _ => 0) 0 u.2.2) 1 (nI u.2.1)) 2 (rf_sm (u.1 4) u.2.1)) 3 (rf_sm (u.1 5) u.2.1)) 4 (4 * (((30 * (u.1 8 0)) + (12 * (u.1 8 1))) + (u.1 8 2)))) 5 (rf_sm (rf_ww u 7) u.2.1)) 6 (rf_sm (u.1 6) u.2.1))) (i := 3) rfl (by omega) (by omega) rfl dX2_isSame_499 ?_
    refine g_top (y := rf_sm (u.1 5) u.2.1) (rfl) ?_
    refine lv_icmp_eq (tgt := 505) hx hb dX2_isSame_500 (by decide) (fun c27 => ?_) (fun c27 => absurd (rfl) c27)
    refine lv_iinc (v := nI 4) (lv' := [(7, .int (nI 4)), (6, .ref a19), (0, .ref o), (1, .ref ob), (2, .int (rf_sm (u.1 4) u.2.1)), (3, .int (rf_sm (u.1 5) u.2.1)), (4, .int (rf_sm (u.1 6) u.2.1)), (5, .ref o2)]) hx hb dX2_isSame_505 hl (k := 0) rfl (nI_1 _) (by decide) rfl (fun ls hl => ?_)
    refine lv_goto (tgt := 482) hx hb dX2_isSame_508 (by decide) ?_
    refine lv_iload hx hb dX2_isSame_482 (lv_at hl 0 rfl) ?_
    refine lv_bipush (v := 7) hx hb dX2_isSame_484 (by decide) ?_
    refine lv_icmp_ge (tgt := 511) hx hb dX2_isSame_486 (by decide) (fun c28 => absurd c28 (by decide)) (fun c28 => ?_)
    refine lv_aload_n hx hb dX2_isSame_489 rfl (lv_at hl 3 rfl) ?_
    refine lv_iload hx hb dX2_isSame_490 (lv_at hl 0 rfl) ?_
    refine m_ci (wa := rs_w cI cR o z u) (wb := ra_w cI ob ad v) (wd := ((o2, .inr (2, rs_f z2 (rf_pay u))) :: (a19, .inl (cI, 7, .inl (upd (upd (upd (upd (upd (upd (upd (fun _ => 0) 0 u.2.2) 1 (nI u.2.1)) 2 (rf_sm (u.1 4) u.2.1)) 3 (rf_sm (u.1 5) u.2.1)) 4 (4 * (((30 * (u.1 8 0)) + (12 * (u.1 8 1))) + (u.1 8 2)))) 5 (rf_sm (rf_ww u 7) u.2.1)) 6 (rf_sm (u.1 6) u.2.1)))) :: hw_w cI cB h u.2.1 r2 g2)) (cells' := 33 + 2 * u.2.1 + 1) (slots' := 163 + 14 * u.2.1 + 7) rfl rfl C S.1 S.2.1 S.2.2 (fun hPb hDb => g_runV (wr := ((o2, .inr (2, rs_f z2 (rf_pay u))) :: (a19, .inl (cI, 7, .inl (upd (upd (upd (upd (upd (upd (upd (fun _ => 0) 0 u.2.2) 1 (nI u.2.1)) 2 (rf_sm (u.1 4) u.2.1)) 3 (rf_sm (u.1 5) u.2.1)) 4 (4 * (((30 * (u.1 8 0)) + (12 * (u.1 8 1))) + (u.1 8 2)))) 5 (rf_sm (rf_ww u 7) u.2.1)) 6 (rf_sm (u.1 6) u.2.1)))) :: hw_w cI cB h u.2.1 r2 g2) ++ rs_w cI cR o z u) (n := 1) (As := [.int (nI 4)]) C (mX0_count l D t cI ob ad H.size v (by rw [hE.n]; exact hu8) 4 (by decide)) (rw_V q280 q193 q194 q2 q195) kd_X0_count ⟨Nat.le_of_ble_eq_true rfl, Nat.le_of_ble_eq_true rfl⟩ (ci := 0) rfl rfl rfl (C.2.2.2.2.2.1.sub (tys' := [(cI, .int)]) [0] rfl) hPb hDb S.2.2 hl.1 rfl rfl (Nat.le_of_ble_eq_true rfl) dX2_isSame_492 ⟨(show 33 + 2 * u.2.1 + 1 + 0 ≤ 60 by omega), (show 163 + 14 * u.2.1 + 7 + 0 ≤ 300 by omega)⟩) (fun v w' H locs hv _ hP9 hD9 hS9 => ?_)
    obtain ⟨rfl, rfl⟩ := hv
    have S : sS D A s cI cR o z u (ra_w cI ob ad v ++ ((o2, .inr (2, rs_f z2 (rf_pay u))) :: (a19, .inl (cI, 7, .inl (upd (upd (upd (upd (upd (upd (upd (fun _ => 0) 0 u.2.2) 1 (nI u.2.1)) 2 (rf_sm (u.1 4) u.2.1)) 3 (rf_sm (u.1 5) u.2.1)) 4 (4 * (((30 * (u.1 8 0)) + (12 * (u.1 8 1))) + (u.1 8 2)))) 5 (rf_sm (rf_ww u 7) u.2.1)) 6 (rf_sm (u.1 6) u.2.1)))) :: hw_w cI cB h u.2.1 r2 g2)) H locs := ⟨hP9, hD9, hS9⟩
    refine g_top (y := rf_sm (fun c => u.1 8 c * rt_RX0_COIN_WORTH c) 3) (e9_c4 hE) ?_
    refine g_top (y := 4 * (30 * u.1 8 0 + 12 * u.1 8 1 + u.1 8 2)) is_c4 ?_
    refine lv_aload hx hb dX2_isSame_495 (lv_at hl 1 rfl) ?_
    refine lv_iload hx hb dX2_isSame_497 (lv_at hl 0 rfl) ?_
    refine x_ld C S 14 (n := 7) (f := (upd (upd (upd (upd (upd (upd (upd (fun _ => 0) 0 u.2.2) 1 (nI u.2.1)) 2 (rf_sm (u.1 4) u.2.1)) 3 (rf_sm (u.1 5) u.2.1)) 4 (4 * (((30 * (u.1 8 0)) + (12 * (u.1 8 1))) + (u.1 8 2)))) 5 (rf_sm (rf_ww u 7) u.2.1)) 6 (rf_sm (u.1 6) u.2.1))) (i := 4) rfl (by omega) (by omega) rfl dX2_isSame_499 ?_
    refine g_top (y := 4 * (((30 * (u.1 8 0)) + (12 * (u.1 8 1))) + (u.1 8 2))) (rfl) ?_
    refine lv_icmp_eq (tgt := 505) hx hb dX2_isSame_500 (by decide) (fun c29 => ?_) (fun c29 => absurd (rfl) c29)
    refine lv_iinc (v := nI 5) (lv' := [(7, .int (nI 5)), (6, .ref a19), (0, .ref o), (1, .ref ob), (2, .int (rf_sm (u.1 4) u.2.1)), (3, .int (rf_sm (u.1 5) u.2.1)), (4, .int (rf_sm (u.1 6) u.2.1)), (5, .ref o2)]) hx hb dX2_isSame_505 hl (k := 0) rfl (nI_1 _) (by decide) rfl (fun ls hl => ?_)
    refine lv_goto (tgt := 482) hx hb dX2_isSame_508 (by decide) ?_
    refine lv_iload hx hb dX2_isSame_482 (lv_at hl 0 rfl) ?_
    refine lv_bipush (v := 7) hx hb dX2_isSame_484 (by decide) ?_
    refine lv_icmp_ge (tgt := 511) hx hb dX2_isSame_486 (by decide) (fun c30 => absurd c30 (by decide)) (fun c30 => ?_)
    refine lv_aload_n hx hb dX2_isSame_489 rfl (lv_at hl 3 rfl) ?_
    refine lv_iload hx hb dX2_isSame_490 (lv_at hl 0 rfl) ?_
    refine m_ci (wa := rs_w cI cR o z u) (wb := ra_w cI ob ad v) (wd := ((o2, .inr (2, rs_f z2 (rf_pay u))) :: (a19, .inl (cI, 7, .inl (upd (upd (upd (upd (upd (upd (upd (fun _ => 0) 0 u.2.2) 1 (nI u.2.1)) 2 (rf_sm (u.1 4) u.2.1)) 3 (rf_sm (u.1 5) u.2.1)) 4 (4 * (((30 * (u.1 8 0)) + (12 * (u.1 8 1))) + (u.1 8 2)))) 5 (rf_sm (rf_ww u 7) u.2.1)) 6 (rf_sm (u.1 6) u.2.1)))) :: hw_w cI cB h u.2.1 r2 g2)) (cells' := 33 + 2 * u.2.1 + 1) (slots' := 163 + 14 * u.2.1 + 7) rfl rfl C S.1 S.2.1 S.2.2 (fun hPb hDb => g_runV (wr := ((o2, .inr (2, rs_f z2 (rf_pay u))) :: (a19, .inl (cI, 7, .inl (upd (upd (upd (upd (upd (upd (upd (fun _ => 0) 0 u.2.2) 1 (nI u.2.1)) 2 (rf_sm (u.1 4) u.2.1)) 3 (rf_sm (u.1 5) u.2.1)) 4 (4 * (((30 * (u.1 8 0)) + (12 * (u.1 8 1))) + (u.1 8 2)))) 5 (rf_sm (rf_ww u 7) u.2.1)) 6 (rf_sm (u.1 6) u.2.1)))) :: hw_w cI cB h u.2.1 r2 g2) ++ rs_w cI cR o z u) (n := 1) (As := [.int (nI 5)]) C (mX0_count l D t cI ob ad H.size v (by rw [hE.n]; exact hu8) 5 (by decide)) (rw_V q280 q193 q194 q2 q195) kd_X0_count ⟨Nat.le_of_ble_eq_true rfl, Nat.le_of_ble_eq_true rfl⟩ (ci := 0) rfl rfl rfl (C.2.2.2.2.2.1.sub (tys' := [(cI, .int)]) [0] rfl) hPb hDb S.2.2 hl.1 rfl rfl (Nat.le_of_ble_eq_true rfl) dX2_isSame_492 ⟨(show 33 + 2 * u.2.1 + 1 + 0 ≤ 60 by omega), (show 163 + 14 * u.2.1 + 7 + 0 ≤ 300 by omega)⟩) (fun v w' H locs hv _ hP9 hD9 hS9 => ?_)
    obtain ⟨rfl, rfl⟩ := hv
    have S : sS D A s cI cR o z u (ra_w cI ob ad v ++ ((o2, .inr (2, rs_f z2 (rf_pay u))) :: (a19, .inl (cI, 7, .inl (upd (upd (upd (upd (upd (upd (upd (fun _ => 0) 0 u.2.2) 1 (nI u.2.1)) 2 (rf_sm (u.1 4) u.2.1)) 3 (rf_sm (u.1 5) u.2.1)) 4 (4 * (((30 * (u.1 8 0)) + (12 * (u.1 8 1))) + (u.1 8 2)))) 5 (rf_sm (rf_ww u 7) u.2.1)) 6 (rf_sm (u.1 6) u.2.1)))) :: hw_w cI cB h u.2.1 r2 g2)) H locs := ⟨hP9, hD9, hS9⟩
    refine g_top (y := rf_sm (rf_ww u 7) u.2.1) (e9_c5 hE) ?_
    refine lv_aload hx hb dX2_isSame_495 (lv_at hl 1 rfl) ?_
    refine lv_iload hx hb dX2_isSame_497 (lv_at hl 0 rfl) ?_
    refine x_ld C S 14 (n := 7) (f := (upd (upd (upd (upd (upd (upd (upd (fun _ => 0) 0 u.2.2) 1 (nI u.2.1)) 2 (rf_sm (u.1 4) u.2.1)) 3 (rf_sm (u.1 5) u.2.1)) 4 (4 * (((30 * (u.1 8 0)) + (12 * (u.1 8 1))) + (u.1 8 2)))) 5 (rf_sm (rf_ww u 7) u.2.1)) 6 (rf_sm (u.1 6) u.2.1))) (i := 5) rfl (by omega) (by omega) rfl dX2_isSame_499 ?_
    refine g_top (y := rf_sm (rf_ww u 7) u.2.1) (rfl) ?_
    refine lv_icmp_eq (tgt := 505) hx hb dX2_isSame_500 (by decide) (fun c31 => ?_) (fun c31 => absurd (rfl) c31)
    refine lv_iinc (v := nI 6) (lv' := [(7, .int (nI 6)), (6, .ref a19), (0, .ref o), (1, .ref ob), (2, .int (rf_sm (u.1 4) u.2.1)), (3, .int (rf_sm (u.1 5) u.2.1)), (4, .int (rf_sm (u.1 6) u.2.1)), (5, .ref o2)]) hx hb dX2_isSame_505 hl (k := 0) rfl (nI_1 _) (by decide) rfl (fun ls hl => ?_)
    refine lv_goto (tgt := 482) hx hb dX2_isSame_508 (by decide) ?_
    refine lv_iload hx hb dX2_isSame_482 (lv_at hl 0 rfl) ?_
    refine lv_bipush (v := 7) hx hb dX2_isSame_484 (by decide) ?_
    refine lv_icmp_ge (tgt := 511) hx hb dX2_isSame_486 (by decide) (fun c32 => absurd c32 (by decide)) (fun c32 => ?_)
    refine lv_aload_n hx hb dX2_isSame_489 rfl (lv_at hl 3 rfl) ?_
    refine lv_iload hx hb dX2_isSame_490 (lv_at hl 0 rfl) ?_
    refine m_ci (wa := rs_w cI cR o z u) (wb := ra_w cI ob ad v) (wd := ((o2, .inr (2, rs_f z2 (rf_pay u))) :: (a19, .inl (cI, 7, .inl (upd (upd (upd (upd (upd (upd (upd (fun _ => 0) 0 u.2.2) 1 (nI u.2.1)) 2 (rf_sm (u.1 4) u.2.1)) 3 (rf_sm (u.1 5) u.2.1)) 4 (4 * (((30 * (u.1 8 0)) + (12 * (u.1 8 1))) + (u.1 8 2)))) 5 (rf_sm (rf_ww u 7) u.2.1)) 6 (rf_sm (u.1 6) u.2.1)))) :: hw_w cI cB h u.2.1 r2 g2)) (cells' := 33 + 2 * u.2.1 + 1) (slots' := 163 + 14 * u.2.1 + 7) rfl rfl C S.1 S.2.1 S.2.2 (fun hPb hDb => g_runV (wr := ((o2, .inr (2, rs_f z2 (rf_pay u))) :: (a19, .inl (cI, 7, .inl (upd (upd (upd (upd (upd (upd (upd (fun _ => 0) 0 u.2.2) 1 (nI u.2.1)) 2 (rf_sm (u.1 4) u.2.1)) 3 (rf_sm (u.1 5) u.2.1)) 4 (4 * (((30 * (u.1 8 0)) + (12 * (u.1 8 1))) + (u.1 8 2)))) 5 (rf_sm (rf_ww u 7) u.2.1)) 6 (rf_sm (u.1 6) u.2.1)))) :: hw_w cI cB h u.2.1 r2 g2) ++ rs_w cI cR o z u) (n := 1) (As := [.int (nI 6)]) C (mX0_count l D t cI ob ad H.size v (by rw [hE.n]; exact hu8) 6 (by decide)) (rw_V q280 q193 q194 q2 q195) kd_X0_count ⟨Nat.le_of_ble_eq_true rfl, Nat.le_of_ble_eq_true rfl⟩ (ci := 0) rfl rfl rfl (C.2.2.2.2.2.1.sub (tys' := [(cI, .int)]) [0] rfl) hPb hDb S.2.2 hl.1 rfl rfl (Nat.le_of_ble_eq_true rfl) dX2_isSame_492 ⟨(show 33 + 2 * u.2.1 + 1 + 0 ≤ 60 by omega), (show 163 + 14 * u.2.1 + 7 + 0 ≤ 300 by omega)⟩) (fun v w' H locs hv _ hP9 hD9 hS9 => ?_)
    obtain ⟨rfl, rfl⟩ := hv
    have S : sS D A s cI cR o z u (ra_w cI ob ad v ++ ((o2, .inr (2, rs_f z2 (rf_pay u))) :: (a19, .inl (cI, 7, .inl (upd (upd (upd (upd (upd (upd (upd (fun _ => 0) 0 u.2.2) 1 (nI u.2.1)) 2 (rf_sm (u.1 4) u.2.1)) 3 (rf_sm (u.1 5) u.2.1)) 4 (4 * (((30 * (u.1 8 0)) + (12 * (u.1 8 1))) + (u.1 8 2)))) 5 (rf_sm (rf_ww u 7) u.2.1)) 6 (rf_sm (u.1 6) u.2.1)))) :: hw_w cI cB h u.2.1 r2 g2)) H locs := ⟨hP9, hD9, hS9⟩
    refine g_top (y := rf_sm (u.1 6) u.2.1) (e9_c6 hE) ?_
    refine lv_aload hx hb dX2_isSame_495 (lv_at hl 1 rfl) ?_
    refine lv_iload hx hb dX2_isSame_497 (lv_at hl 0 rfl) ?_
    refine x_ld C S 14 (n := 7) (f := (upd (upd (upd (upd (upd (upd (upd (fun _ => 0) 0 u.2.2) 1 (nI u.2.1)) 2 (rf_sm (u.1 4) u.2.1)) 3 (rf_sm (u.1 5) u.2.1)) 4 (4 * (((30 * (u.1 8 0)) + (12 * (u.1 8 1))) + (u.1 8 2)))) 5 (rf_sm (rf_ww u 7) u.2.1)) 6 (rf_sm (u.1 6) u.2.1))) (i := 6) rfl (by omega) (by omega) rfl dX2_isSame_499 ?_
    refine g_top (y := rf_sm (u.1 6) u.2.1) (rfl) ?_
    refine lv_icmp_eq (tgt := 505) hx hb dX2_isSame_500 (by decide) (fun c33 => ?_) (fun c33 => absurd (rfl) c33)
    refine lv_iinc (v := nI 7) (lv' := [(7, .int (nI 7)), (6, .ref a19), (0, .ref o), (1, .ref ob), (2, .int (rf_sm (u.1 4) u.2.1)), (3, .int (rf_sm (u.1 5) u.2.1)), (4, .int (rf_sm (u.1 6) u.2.1)), (5, .ref o2)]) hx hb dX2_isSame_505 hl (k := 0) rfl (nI_1 _) (by decide) rfl (fun ls hl => ?_)
    refine lv_goto (tgt := 482) hx hb dX2_isSame_508 (by decide) ?_
    refine lv_iload hx hb dX2_isSame_482 (lv_at hl 0 rfl) ?_
    refine lv_bipush (v := 7) hx hb dX2_isSame_484 (by decide) ?_
    refine lv_icmp_ge (tgt := 511) hx hb dX2_isSame_486 (by decide) (fun c34 => ?_) (fun c34 => absurd (by decide) c34)
    refine lv_aload_n hx hb dX2_isSame_511 rfl (lv_at hl 3 rfl) ?_
    refine m_cd (wa := rs_w cI cR o z u) (wb := ra_w cI ob ad v) (wd := ((o2, .inr (2, rs_f z2 (rf_pay u))) :: (a19, .inl (cI, 7, .inl (upd (upd (upd (upd (upd (upd (upd (fun _ => 0) 0 u.2.2) 1 (nI u.2.1)) 2 (rf_sm (u.1 4) u.2.1)) 3 (rf_sm (u.1 5) u.2.1)) 4 (4 * (((30 * (u.1 8 0)) + (12 * (u.1 8 1))) + (u.1 8 2)))) 5 (rf_sm (rf_ww u 7) u.2.1)) 6 (rf_sm (u.1 6) u.2.1)))) :: hw_w cI cB h u.2.1 r2 g2)) (cells' := 33 + 2 * u.2.1 + 1) (slots' := 163 + 14 * u.2.1 + 7) rfl rfl C S.1 S.2.1 S.2.2 (fun hPb hDb => g_runV (wr := ((o2, .inr (2, rs_f z2 (rf_pay u))) :: (a19, .inl (cI, 7, .inl (upd (upd (upd (upd (upd (upd (upd (fun _ => 0) 0 u.2.2) 1 (nI u.2.1)) 2 (rf_sm (u.1 4) u.2.1)) 3 (rf_sm (u.1 5) u.2.1)) 4 (4 * (((30 * (u.1 8 0)) + (12 * (u.1 8 1))) + (u.1 8 2)))) 5 (rf_sm (rf_ww u 7) u.2.1)) 6 (rf_sm (u.1 6) u.2.1)))) :: hw_w cI cB h u.2.1 r2 g2) ++ rs_w cI cR o z u) (n := 0) (As := []) C (mX0_mean l D t cI ob ad H.size v (by rw [hE.n]; exact hu8)) (rw_V q281 q228 q229 q2 q230) kd_X0_mean ⟨Nat.le_of_ble_eq_true rfl, Nat.le_of_ble_eq_true rfl⟩ (ci := 0) rfl rfl rfl (C.2.2.2.2.2.1.sub (tys' := [(cI, .int)]) [0] rfl) hPb hDb S.2.2 hl.1 rfl rfl (Nat.le_of_ble_eq_true rfl) dX2_isSame_512 ⟨(show 33 + 2 * u.2.1 + 1 + 0 ≤ 60 by omega), (show 163 + 14 * u.2.1 + 7 + 0 ≤ 300 by omega)⟩) (fun v w' H locs hv _ hP9 hD9 hS9 => ?_)
    obtain ⟨rfl, rfl⟩ := hv
    have S : sS D A s cI cR o z u (ra_w cI ob ad v ++ ((o2, .inr (2, rs_f z2 (rf_pay u))) :: (a19, .inl (cI, 7, .inl (upd (upd (upd (upd (upd (upd (upd (fun _ => 0) 0 u.2.2) 1 (nI u.2.1)) 2 (rf_sm (u.1 4) u.2.1)) 3 (rf_sm (u.1 5) u.2.1)) 4 (4 * (((30 * (u.1 8 0)) + (12 * (u.1 8 1))) + (u.1 8 2)))) 5 (rf_sm (rf_ww u 7) u.2.1)) 6 (rf_sm (u.1 6) u.2.1)))) :: hw_w cI cB h u.2.1 r2 g2)) H locs := ⟨hP9, hD9, hS9⟩
    refine g_topd (y := rf_mn u) (e9_mn hE) ?_
    refine lv_aload_n hx hb dX2_isSame_515 rfl (lv_at hl 2 rfl) ?_
    refine s_gf C S 3 (by decide) (v := .ref (z.1 2)) rfl rfl q36 dX2_isSame_516 ?_
    refine s_an C S dX2_isSame_519 ?_
    refine lv_if_ne (tgt := 527) hx hb dX2_isSame_520 (by decide) (fun c35 => absurd ((nI_eq (a := u.2.1) (b := 0) (by omega) (by omega)).mpr (by omega)) c35) (fun c35 => ?_)
    refine lv_dconst0 hx hb dX2_isSame_523 ?_
    refine lv_goto (tgt := 539) hx hb dX2_isSame_524 (by decide) ?_
    refine lv_dcmp hx hb dX2_isSame_539 ?_
    refine g_top (y := 0) (is_m0 hn _) ?_
    refine lv_if_ne (tgt := 547) hx hb dX2_isSame_540 (by decide) (fun c36 => absurd (by decide) c36) (fun c36 => ?_)
    refine lv_iconst (v := 1) hx hb dX2_isSame_543 (by decide) ?_
    refine lv_goto (tgt := 548) hx hb dX2_isSame_544 (by decide) ?_
    refine W.widen (k := 60) (n := 300) (by omega) (by omega) ?_
    exact g_zret (w' := []) C hrt rfl rd_nil ⟨fun i j p q h => by simp at h, fun k q h => by simp at h⟩ S.2.2 dX2_isSame_548 rfl
  · refine lv_iconst (v := 0) hx hb dX2_isSame_340 (by decide) ?_
    refine lv_istore (lv' := [(6, .int 0), (0, .ref o), (1, .ref ob), (2, .int (rf_sm (u.1 4) u.2.1)), (3, .int (rf_sm (u.1 5) u.2.1)), (4, .int (rf_sm (u.1 6) u.2.1)), (5, .ref o2)]) hx hb dX2_isSame_341 hl (by decide) rfl (fun ls hl => ?_)
    refine lv_iload hx hb dX2_isSame_343 (lv_at hl 0 rfl) ?_
    refine lv_iconst (v := 5) hx hb dX2_isSame_345 (by decide) ?_
    refine lv_icmp_ge (tgt := 373) hx hb dX2_isSame_346 (by decide) (fun c1 => absurd c1 (by decide)) (fun c1 => ?_)
    refine lv_aload_n hx hb dX2_isSame_349 rfl (lv_at hl 2 rfl) ?_
    refine lv_iload hx hb dX2_isSame_350 (lv_at hl 0 rfl) ?_
    refine m_ci (wa := rs_w cI cR o z u) (wb := ra_w cI ob ad v) (wd := ((o2, .inr (2, rs_f z2 (rf_pay u))) :: hw_w cI cB h u.2.1 r2 g2)) (cells' := 33 + 2 * u.2.1) (slots' := 163 + 14 * u.2.1) rfl rfl C S.1 S.2.1 S.2.2 (fun hPb hDb => g_runV (wr := ((o2, .inr (2, rs_f z2 (rf_pay u))) :: hw_w cI cB h u.2.1 r2 g2) ++ rs_w cI cR o z u) (n := 1) (As := [.int 0]) C (mX0_rate l D t cI ob ad H.size v 0 (by decide)) (rw_V q271 q272 q273 q2 q274) kd_X0_rate ⟨Nat.le_of_ble_eq_true rfl, Nat.le_of_ble_eq_true rfl⟩ (ci := 0) rfl rfl rfl (C.2.2.2.2.2.1.sub (tys' := [(cI, .int)]) [0] rfl) hPb hDb S.2.2 hl.1 rfl rfl (Nat.le_of_ble_eq_true rfl) dX2_isSame_352 ⟨(show 33 + 2 * u.2.1 + 0 ≤ 60 by omega), (show 163 + 14 * u.2.1 + 0 ≤ 300 by omega)⟩) (fun v w' H locs hv _ hP9 hD9 hS9 => ?_)
    obtain ⟨rfl, rfl⟩ := hv
    have S : sS D A s cI cR o z u (ra_w cI ob ad v ++ ((o2, .inr (2, rs_f z2 (rf_pay u))) :: hw_w cI cB h u.2.1 r2 g2)) H locs := ⟨hP9, hD9, hS9⟩
    refine g_top (y := u.1 7 0) (congrFun (hE.2 7 (by decide)) 0) ?_
    refine lv_aload_n hx hb dX2_isSame_355 rfl (lv_at hl 1 rfl) ?_
    refine s_gf C S 1 (by decide) (v := .ref (z.1 0)) rfl rfl q33 dX2_isSame_356 ?_
    refine lv_iload hx hb dX2_isSame_359 (lv_at hl 0 rfl) ?_
    refine s_l7 C S (i := 0) (by decide) rfl dX2_isSame_361 ?_
    refine lv_icmp_eq (tgt := 367) hx hb dX2_isSame_362 (by decide) (fun c2 => ?_) (fun c2 => absurd (rfl) c2)
    refine lv_iinc (v := nI 1) (lv' := [(6, .int (nI 1)), (0, .ref o), (1, .ref ob), (2, .int (rf_sm (u.1 4) u.2.1)), (3, .int (rf_sm (u.1 5) u.2.1)), (4, .int (rf_sm (u.1 6) u.2.1)), (5, .ref o2)]) hx hb dX2_isSame_367 hl (k := 0) rfl (nI_1 _) (by decide) rfl (fun ls hl => ?_)
    refine lv_goto (tgt := 343) hx hb dX2_isSame_370 (by decide) ?_
    refine lv_iload hx hb dX2_isSame_343 (lv_at hl 0 rfl) ?_
    refine lv_iconst (v := 5) hx hb dX2_isSame_345 (by decide) ?_
    refine lv_icmp_ge (tgt := 373) hx hb dX2_isSame_346 (by decide) (fun c3 => absurd c3 (by decide)) (fun c3 => ?_)
    refine lv_aload_n hx hb dX2_isSame_349 rfl (lv_at hl 2 rfl) ?_
    refine lv_iload hx hb dX2_isSame_350 (lv_at hl 0 rfl) ?_
    refine m_ci (wa := rs_w cI cR o z u) (wb := ra_w cI ob ad v) (wd := ((o2, .inr (2, rs_f z2 (rf_pay u))) :: hw_w cI cB h u.2.1 r2 g2)) (cells' := 33 + 2 * u.2.1) (slots' := 163 + 14 * u.2.1) rfl rfl C S.1 S.2.1 S.2.2 (fun hPb hDb => g_runV (wr := ((o2, .inr (2, rs_f z2 (rf_pay u))) :: hw_w cI cB h u.2.1 r2 g2) ++ rs_w cI cR o z u) (n := 1) (As := [.int (nI 1)]) C (mX0_rate l D t cI ob ad H.size v 1 (by decide)) (rw_V q271 q272 q273 q2 q274) kd_X0_rate ⟨Nat.le_of_ble_eq_true rfl, Nat.le_of_ble_eq_true rfl⟩ (ci := 0) rfl rfl rfl (C.2.2.2.2.2.1.sub (tys' := [(cI, .int)]) [0] rfl) hPb hDb S.2.2 hl.1 rfl rfl (Nat.le_of_ble_eq_true rfl) dX2_isSame_352 ⟨(show 33 + 2 * u.2.1 + 0 ≤ 60 by omega), (show 163 + 14 * u.2.1 + 0 ≤ 300 by omega)⟩) (fun v w' H locs hv _ hP9 hD9 hS9 => ?_)
    obtain ⟨rfl, rfl⟩ := hv
    have S : sS D A s cI cR o z u (ra_w cI ob ad v ++ ((o2, .inr (2, rs_f z2 (rf_pay u))) :: hw_w cI cB h u.2.1 r2 g2)) H locs := ⟨hP9, hD9, hS9⟩
    refine g_top (y := u.1 7 1) (congrFun (hE.2 7 (by decide)) 1) ?_
    refine lv_aload_n hx hb dX2_isSame_355 rfl (lv_at hl 1 rfl) ?_
    refine s_gf C S 1 (by decide) (v := .ref (z.1 0)) rfl rfl q33 dX2_isSame_356 ?_
    refine lv_iload hx hb dX2_isSame_359 (lv_at hl 0 rfl) ?_
    refine s_l7 C S (i := 1) (by decide) rfl dX2_isSame_361 ?_
    refine lv_icmp_eq (tgt := 367) hx hb dX2_isSame_362 (by decide) (fun c4 => ?_) (fun c4 => absurd (rfl) c4)
    refine lv_iinc (v := nI 2) (lv' := [(6, .int (nI 2)), (0, .ref o), (1, .ref ob), (2, .int (rf_sm (u.1 4) u.2.1)), (3, .int (rf_sm (u.1 5) u.2.1)), (4, .int (rf_sm (u.1 6) u.2.1)), (5, .ref o2)]) hx hb dX2_isSame_367 hl (k := 0) rfl (nI_1 _) (by decide) rfl (fun ls hl => ?_)
    refine lv_goto (tgt := 343) hx hb dX2_isSame_370 (by decide) ?_
    refine lv_iload hx hb dX2_isSame_343 (lv_at hl 0 rfl) ?_
    refine lv_iconst (v := 5) hx hb dX2_isSame_345 (by decide) ?_
    refine lv_icmp_ge (tgt := 373) hx hb dX2_isSame_346 (by decide) (fun c5 => absurd c5 (by decide)) (fun c5 => ?_)
    refine lv_aload_n hx hb dX2_isSame_349 rfl (lv_at hl 2 rfl) ?_
    refine lv_iload hx hb dX2_isSame_350 (lv_at hl 0 rfl) ?_
    refine m_ci (wa := rs_w cI cR o z u) (wb := ra_w cI ob ad v) (wd := ((o2, .inr (2, rs_f z2 (rf_pay u))) :: hw_w cI cB h u.2.1 r2 g2)) (cells' := 33 + 2 * u.2.1) (slots' := 163 + 14 * u.2.1) rfl rfl C S.1 S.2.1 S.2.2 (fun hPb hDb => g_runV (wr := ((o2, .inr (2, rs_f z2 (rf_pay u))) :: hw_w cI cB h u.2.1 r2 g2) ++ rs_w cI cR o z u) (n := 1) (As := [.int (nI 2)]) C (mX0_rate l D t cI ob ad H.size v 2 (by decide)) (rw_V q271 q272 q273 q2 q274) kd_X0_rate ⟨Nat.le_of_ble_eq_true rfl, Nat.le_of_ble_eq_true rfl⟩ (ci := 0) rfl rfl rfl (C.2.2.2.2.2.1.sub (tys' := [(cI, .int)]) [0] rfl) hPb hDb S.2.2 hl.1 rfl rfl (Nat.le_of_ble_eq_true rfl) dX2_isSame_352 ⟨(show 33 + 2 * u.2.1 + 0 ≤ 60 by omega), (show 163 + 14 * u.2.1 + 0 ≤ 300 by omega)⟩) (fun v w' H locs hv _ hP9 hD9 hS9 => ?_)
    obtain ⟨rfl, rfl⟩ := hv
    have S : sS D A s cI cR o z u (ra_w cI ob ad v ++ ((o2, .inr (2, rs_f z2 (rf_pay u))) :: hw_w cI cB h u.2.1 r2 g2)) H locs := ⟨hP9, hD9, hS9⟩
    refine g_top (y := u.1 7 2) (congrFun (hE.2 7 (by decide)) 2) ?_
    refine lv_aload_n hx hb dX2_isSame_355 rfl (lv_at hl 1 rfl) ?_
    refine s_gf C S 1 (by decide) (v := .ref (z.1 0)) rfl rfl q33 dX2_isSame_356 ?_
    refine lv_iload hx hb dX2_isSame_359 (lv_at hl 0 rfl) ?_
    refine s_l7 C S (i := 2) (by decide) rfl dX2_isSame_361 ?_
    refine lv_icmp_eq (tgt := 367) hx hb dX2_isSame_362 (by decide) (fun c6 => ?_) (fun c6 => absurd (rfl) c6)
    refine lv_iinc (v := nI 3) (lv' := [(6, .int (nI 3)), (0, .ref o), (1, .ref ob), (2, .int (rf_sm (u.1 4) u.2.1)), (3, .int (rf_sm (u.1 5) u.2.1)), (4, .int (rf_sm (u.1 6) u.2.1)), (5, .ref o2)]) hx hb dX2_isSame_367 hl (k := 0) rfl (nI_1 _) (by decide) rfl (fun ls hl => ?_)
    refine lv_goto (tgt := 343) hx hb dX2_isSame_370 (by decide) ?_
    refine lv_iload hx hb dX2_isSame_343 (lv_at hl 0 rfl) ?_
    refine lv_iconst (v := 5) hx hb dX2_isSame_345 (by decide) ?_
    refine lv_icmp_ge (tgt := 373) hx hb dX2_isSame_346 (by decide) (fun c7 => absurd c7 (by decide)) (fun c7 => ?_)
    refine lv_aload_n hx hb dX2_isSame_349 rfl (lv_at hl 2 rfl) ?_
    refine lv_iload hx hb dX2_isSame_350 (lv_at hl 0 rfl) ?_
    refine m_ci (wa := rs_w cI cR o z u) (wb := ra_w cI ob ad v) (wd := ((o2, .inr (2, rs_f z2 (rf_pay u))) :: hw_w cI cB h u.2.1 r2 g2)) (cells' := 33 + 2 * u.2.1) (slots' := 163 + 14 * u.2.1) rfl rfl C S.1 S.2.1 S.2.2 (fun hPb hDb => g_runV (wr := ((o2, .inr (2, rs_f z2 (rf_pay u))) :: hw_w cI cB h u.2.1 r2 g2) ++ rs_w cI cR o z u) (n := 1) (As := [.int (nI 3)]) C (mX0_rate l D t cI ob ad H.size v 3 (by decide)) (rw_V q271 q272 q273 q2 q274) kd_X0_rate ⟨Nat.le_of_ble_eq_true rfl, Nat.le_of_ble_eq_true rfl⟩ (ci := 0) rfl rfl rfl (C.2.2.2.2.2.1.sub (tys' := [(cI, .int)]) [0] rfl) hPb hDb S.2.2 hl.1 rfl rfl (Nat.le_of_ble_eq_true rfl) dX2_isSame_352 ⟨(show 33 + 2 * u.2.1 + 0 ≤ 60 by omega), (show 163 + 14 * u.2.1 + 0 ≤ 300 by omega)⟩) (fun v w' H locs hv _ hP9 hD9 hS9 => ?_)
    obtain ⟨rfl, rfl⟩ := hv
    have S : sS D A s cI cR o z u (ra_w cI ob ad v ++ ((o2, .inr (2, rs_f z2 (rf_pay u))) :: hw_w cI cB h u.2.1 r2 g2)) H locs := ⟨hP9, hD9, hS9⟩
    refine g_top (y := u.1 7 3) (congrFun (hE.2 7 (by decide)) 3) ?_
    refine lv_aload_n hx hb dX2_isSame_355 rfl (lv_at hl 1 rfl) ?_
    refine s_gf C S 1 (by decide) (v := .ref (z.1 0)) rfl rfl q33 dX2_isSame_356 ?_
    refine lv_iload hx hb dX2_isSame_359 (lv_at hl 0 rfl) ?_
    refine s_l7 C S (i := 3) (by decide) rfl dX2_isSame_361 ?_
    refine lv_icmp_eq (tgt := 367) hx hb dX2_isSame_362 (by decide) (fun c8 => ?_) (fun c8 => absurd (rfl) c8)
    refine lv_iinc (v := nI 4) (lv' := [(6, .int (nI 4)), (0, .ref o), (1, .ref ob), (2, .int (rf_sm (u.1 4) u.2.1)), (3, .int (rf_sm (u.1 5) u.2.1)), (4, .int (rf_sm (u.1 6) u.2.1)), (5, .ref o2)]) hx hb dX2_isSame_367 hl (k := 0) rfl (nI_1 _) (by decide) rfl (fun ls hl => ?_)
    refine lv_goto (tgt := 343) hx hb dX2_isSame_370 (by decide) ?_
    refine lv_iload hx hb dX2_isSame_343 (lv_at hl 0 rfl) ?_
    refine lv_iconst (v := 5) hx hb dX2_isSame_345 (by decide) ?_
    refine lv_icmp_ge (tgt := 373) hx hb dX2_isSame_346 (by decide) (fun c9 => absurd c9 (by decide)) (fun c9 => ?_)
    refine lv_aload_n hx hb dX2_isSame_349 rfl (lv_at hl 2 rfl) ?_
    refine lv_iload hx hb dX2_isSame_350 (lv_at hl 0 rfl) ?_
    refine m_ci (wa := rs_w cI cR o z u) (wb := ra_w cI ob ad v) (wd := ((o2, .inr (2, rs_f z2 (rf_pay u))) :: hw_w cI cB h u.2.1 r2 g2)) (cells' := 33 + 2 * u.2.1) (slots' := 163 + 14 * u.2.1) rfl rfl C S.1 S.2.1 S.2.2 (fun hPb hDb => g_runV (wr := ((o2, .inr (2, rs_f z2 (rf_pay u))) :: hw_w cI cB h u.2.1 r2 g2) ++ rs_w cI cR o z u) (n := 1) (As := [.int (nI 4)]) C (mX0_rate l D t cI ob ad H.size v 4 (by decide)) (rw_V q271 q272 q273 q2 q274) kd_X0_rate ⟨Nat.le_of_ble_eq_true rfl, Nat.le_of_ble_eq_true rfl⟩ (ci := 0) rfl rfl rfl (C.2.2.2.2.2.1.sub (tys' := [(cI, .int)]) [0] rfl) hPb hDb S.2.2 hl.1 rfl rfl (Nat.le_of_ble_eq_true rfl) dX2_isSame_352 ⟨(show 33 + 2 * u.2.1 + 0 ≤ 60 by omega), (show 163 + 14 * u.2.1 + 0 ≤ 300 by omega)⟩) (fun v w' H locs hv _ hP9 hD9 hS9 => ?_)
    obtain ⟨rfl, rfl⟩ := hv
    have S : sS D A s cI cR o z u (ra_w cI ob ad v ++ ((o2, .inr (2, rs_f z2 (rf_pay u))) :: hw_w cI cB h u.2.1 r2 g2)) H locs := ⟨hP9, hD9, hS9⟩
    refine g_top (y := u.1 7 4) (congrFun (hE.2 7 (by decide)) 4) ?_
    refine lv_aload_n hx hb dX2_isSame_355 rfl (lv_at hl 1 rfl) ?_
    refine s_gf C S 1 (by decide) (v := .ref (z.1 0)) rfl rfl q33 dX2_isSame_356 ?_
    refine lv_iload hx hb dX2_isSame_359 (lv_at hl 0 rfl) ?_
    refine s_l7 C S (i := 4) (by decide) rfl dX2_isSame_361 ?_
    refine lv_icmp_eq (tgt := 367) hx hb dX2_isSame_362 (by decide) (fun c10 => ?_) (fun c10 => absurd (rfl) c10)
    refine lv_iinc (v := nI 5) (lv' := [(6, .int (nI 5)), (0, .ref o), (1, .ref ob), (2, .int (rf_sm (u.1 4) u.2.1)), (3, .int (rf_sm (u.1 5) u.2.1)), (4, .int (rf_sm (u.1 6) u.2.1)), (5, .ref o2)]) hx hb dX2_isSame_367 hl (k := 0) rfl (nI_1 _) (by decide) rfl (fun ls hl => ?_)
    refine lv_goto (tgt := 343) hx hb dX2_isSame_370 (by decide) ?_
    refine lv_iload hx hb dX2_isSame_343 (lv_at hl 0 rfl) ?_
    refine lv_iconst (v := 5) hx hb dX2_isSame_345 (by decide) ?_
    refine lv_icmp_ge (tgt := 373) hx hb dX2_isSame_346 (by decide) (fun c11 => ?_) (fun c11 => absurd (by decide) c11)
    refine lv_iconst (v := 0) hx hb dX2_isSame_373 (by decide) ?_
    refine lv_istore (lv' := [(6, .int 0), (0, .ref o), (1, .ref ob), (2, .int (rf_sm (u.1 4) u.2.1)), (3, .int (rf_sm (u.1 5) u.2.1)), (4, .int (rf_sm (u.1 6) u.2.1)), (5, .ref o2)]) hx hb dX2_isSame_374 hl (by decide) rfl (fun ls hl => ?_)
    refine lv_iload hx hb dX2_isSame_376 (lv_at hl 0 rfl) ?_
    refine lv_iconst (v := 3) hx hb dX2_isSame_378 (by decide) ?_
    refine lv_icmp_ge (tgt := 406) hx hb dX2_isSame_379 (by decide) (fun c12 => absurd c12 (by decide)) (fun c12 => ?_)
    refine lv_aload_n hx hb dX2_isSame_382 rfl (lv_at hl 2 rfl) ?_
    refine lv_iload hx hb dX2_isSame_383 (lv_at hl 0 rfl) ?_
    refine m_ci (wa := rs_w cI cR o z u) (wb := ra_w cI ob ad v) (wd := ((o2, .inr (2, rs_f z2 (rf_pay u))) :: hw_w cI cB h u.2.1 r2 g2)) (cells' := 33 + 2 * u.2.1) (slots' := 163 + 14 * u.2.1) rfl rfl C S.1 S.2.1 S.2.2 (fun hPb hDb => g_runV (wr := ((o2, .inr (2, rs_f z2 (rf_pay u))) :: hw_w cI cB h u.2.1 r2 g2) ++ rs_w cI cR o z u) (n := 1) (As := [.int 0]) C (mX0_chest l D t cI ob ad H.size v 0 (by decide)) (rw_V q275 q232 q233 q2 q234) kd_X0_chest ⟨Nat.le_of_ble_eq_true rfl, Nat.le_of_ble_eq_true rfl⟩ (ci := 0) rfl rfl rfl (C.2.2.2.2.2.1.sub (tys' := [(cI, .int)]) [0] rfl) hPb hDb S.2.2 hl.1 rfl rfl (Nat.le_of_ble_eq_true rfl) dX2_isSame_385 ⟨(show 33 + 2 * u.2.1 + 0 ≤ 60 by omega), (show 163 + 14 * u.2.1 + 0 ≤ 300 by omega)⟩) (fun v w' H locs hv _ hP9 hD9 hS9 => ?_)
    obtain ⟨rfl, rfl⟩ := hv
    have S : sS D A s cI cR o z u (ra_w cI ob ad v ++ ((o2, .inr (2, rs_f z2 (rf_pay u))) :: hw_w cI cB h u.2.1 r2 g2)) H locs := ⟨hP9, hD9, hS9⟩
    refine g_top (y := u.1 8 0) (congrFun (hE.2 8 (by decide)) 0) ?_
    refine lv_aload_n hx hb dX2_isSame_388 rfl (lv_at hl 1 rfl) ?_
    refine s_gf C S 2 (by decide) (v := .ref (z.1 1)) rfl rfl q34 dX2_isSame_389 ?_
    refine lv_iload hx hb dX2_isSame_392 (lv_at hl 0 rfl) ?_
    refine s_l8 C S (i := 0) (by decide) rfl dX2_isSame_394 ?_
    refine lv_icmp_eq (tgt := 400) hx hb dX2_isSame_395 (by decide) (fun c13 => ?_) (fun c13 => absurd (rfl) c13)
    refine lv_iinc (v := nI 1) (lv' := [(6, .int (nI 1)), (0, .ref o), (1, .ref ob), (2, .int (rf_sm (u.1 4) u.2.1)), (3, .int (rf_sm (u.1 5) u.2.1)), (4, .int (rf_sm (u.1 6) u.2.1)), (5, .ref o2)]) hx hb dX2_isSame_400 hl (k := 0) rfl (nI_1 _) (by decide) rfl (fun ls hl => ?_)
    refine lv_goto (tgt := 376) hx hb dX2_isSame_403 (by decide) ?_
    refine lv_iload hx hb dX2_isSame_376 (lv_at hl 0 rfl) ?_
    refine lv_iconst (v := 3) hx hb dX2_isSame_378 (by decide) ?_
    refine lv_icmp_ge (tgt := 406) hx hb dX2_isSame_379 (by decide) (fun c14 => absurd c14 (by decide)) (fun c14 => ?_)
    refine lv_aload_n hx hb dX2_isSame_382 rfl (lv_at hl 2 rfl) ?_
    refine lv_iload hx hb dX2_isSame_383 (lv_at hl 0 rfl) ?_
    refine m_ci (wa := rs_w cI cR o z u) (wb := ra_w cI ob ad v) (wd := ((o2, .inr (2, rs_f z2 (rf_pay u))) :: hw_w cI cB h u.2.1 r2 g2)) (cells' := 33 + 2 * u.2.1) (slots' := 163 + 14 * u.2.1) rfl rfl C S.1 S.2.1 S.2.2 (fun hPb hDb => g_runV (wr := ((o2, .inr (2, rs_f z2 (rf_pay u))) :: hw_w cI cB h u.2.1 r2 g2) ++ rs_w cI cR o z u) (n := 1) (As := [.int (nI 1)]) C (mX0_chest l D t cI ob ad H.size v 1 (by decide)) (rw_V q275 q232 q233 q2 q234) kd_X0_chest ⟨Nat.le_of_ble_eq_true rfl, Nat.le_of_ble_eq_true rfl⟩ (ci := 0) rfl rfl rfl (C.2.2.2.2.2.1.sub (tys' := [(cI, .int)]) [0] rfl) hPb hDb S.2.2 hl.1 rfl rfl (Nat.le_of_ble_eq_true rfl) dX2_isSame_385 ⟨(show 33 + 2 * u.2.1 + 0 ≤ 60 by omega), (show 163 + 14 * u.2.1 + 0 ≤ 300 by omega)⟩) (fun v w' H locs hv _ hP9 hD9 hS9 => ?_)
    obtain ⟨rfl, rfl⟩ := hv
    have S : sS D A s cI cR o z u (ra_w cI ob ad v ++ ((o2, .inr (2, rs_f z2 (rf_pay u))) :: hw_w cI cB h u.2.1 r2 g2)) H locs := ⟨hP9, hD9, hS9⟩
    refine g_top (y := u.1 8 1) (congrFun (hE.2 8 (by decide)) 1) ?_
    refine lv_aload_n hx hb dX2_isSame_388 rfl (lv_at hl 1 rfl) ?_
    refine s_gf C S 2 (by decide) (v := .ref (z.1 1)) rfl rfl q34 dX2_isSame_389 ?_
    refine lv_iload hx hb dX2_isSame_392 (lv_at hl 0 rfl) ?_
    refine s_l8 C S (i := 1) (by decide) rfl dX2_isSame_394 ?_
    refine lv_icmp_eq (tgt := 400) hx hb dX2_isSame_395 (by decide) (fun c15 => ?_) (fun c15 => absurd (rfl) c15)
    refine lv_iinc (v := nI 2) (lv' := [(6, .int (nI 2)), (0, .ref o), (1, .ref ob), (2, .int (rf_sm (u.1 4) u.2.1)), (3, .int (rf_sm (u.1 5) u.2.1)), (4, .int (rf_sm (u.1 6) u.2.1)), (5, .ref o2)]) hx hb dX2_isSame_400 hl (k := 0) rfl (nI_1 _) (by decide) rfl (fun ls hl => ?_)
    refine lv_goto (tgt := 376) hx hb dX2_isSame_403 (by decide) ?_
    refine lv_iload hx hb dX2_isSame_376 (lv_at hl 0 rfl) ?_
    refine lv_iconst (v := 3) hx hb dX2_isSame_378 (by decide) ?_
    refine lv_icmp_ge (tgt := 406) hx hb dX2_isSame_379 (by decide) (fun c16 => absurd c16 (by decide)) (fun c16 => ?_)
    refine lv_aload_n hx hb dX2_isSame_382 rfl (lv_at hl 2 rfl) ?_
    refine lv_iload hx hb dX2_isSame_383 (lv_at hl 0 rfl) ?_
    refine m_ci (wa := rs_w cI cR o z u) (wb := ra_w cI ob ad v) (wd := ((o2, .inr (2, rs_f z2 (rf_pay u))) :: hw_w cI cB h u.2.1 r2 g2)) (cells' := 33 + 2 * u.2.1) (slots' := 163 + 14 * u.2.1) rfl rfl C S.1 S.2.1 S.2.2 (fun hPb hDb => g_runV (wr := ((o2, .inr (2, rs_f z2 (rf_pay u))) :: hw_w cI cB h u.2.1 r2 g2) ++ rs_w cI cR o z u) (n := 1) (As := [.int (nI 2)]) C (mX0_chest l D t cI ob ad H.size v 2 (by decide)) (rw_V q275 q232 q233 q2 q234) kd_X0_chest ⟨Nat.le_of_ble_eq_true rfl, Nat.le_of_ble_eq_true rfl⟩ (ci := 0) rfl rfl rfl (C.2.2.2.2.2.1.sub (tys' := [(cI, .int)]) [0] rfl) hPb hDb S.2.2 hl.1 rfl rfl (Nat.le_of_ble_eq_true rfl) dX2_isSame_385 ⟨(show 33 + 2 * u.2.1 + 0 ≤ 60 by omega), (show 163 + 14 * u.2.1 + 0 ≤ 300 by omega)⟩) (fun v w' H locs hv _ hP9 hD9 hS9 => ?_)
    obtain ⟨rfl, rfl⟩ := hv
    have S : sS D A s cI cR o z u (ra_w cI ob ad v ++ ((o2, .inr (2, rs_f z2 (rf_pay u))) :: hw_w cI cB h u.2.1 r2 g2)) H locs := ⟨hP9, hD9, hS9⟩
    refine g_top (y := u.1 8 2) (congrFun (hE.2 8 (by decide)) 2) ?_
    refine lv_aload_n hx hb dX2_isSame_388 rfl (lv_at hl 1 rfl) ?_
    refine s_gf C S 2 (by decide) (v := .ref (z.1 1)) rfl rfl q34 dX2_isSame_389 ?_
    refine lv_iload hx hb dX2_isSame_392 (lv_at hl 0 rfl) ?_
    refine s_l8 C S (i := 2) (by decide) rfl dX2_isSame_394 ?_
    refine lv_icmp_eq (tgt := 400) hx hb dX2_isSame_395 (by decide) (fun c17 => ?_) (fun c17 => absurd (rfl) c17)
    refine lv_iinc (v := nI 3) (lv' := [(6, .int (nI 3)), (0, .ref o), (1, .ref ob), (2, .int (rf_sm (u.1 4) u.2.1)), (3, .int (rf_sm (u.1 5) u.2.1)), (4, .int (rf_sm (u.1 6) u.2.1)), (5, .ref o2)]) hx hb dX2_isSame_400 hl (k := 0) rfl (nI_1 _) (by decide) rfl (fun ls hl => ?_)
    refine lv_goto (tgt := 376) hx hb dX2_isSame_403 (by decide) ?_
    refine lv_iload hx hb dX2_isSame_376 (lv_at hl 0 rfl) ?_
    refine lv_iconst (v := 3) hx hb dX2_isSame_378 (by decide) ?_
    refine lv_icmp_ge (tgt := 406) hx hb dX2_isSame_379 (by decide) (fun c18 => ?_) (fun c18 => absurd (by decide) c18)
    refine lv_bipush (v := 7) hx hb dX2_isSame_406 (by decide) ?_
    refine x_new C S (N := 7) rfl (by omega) q4 (cells' := 33 + 2 * u.2.1 + 1) (slots' := 163 + 14 * u.2.1 + 7) rfl rfl (show 33 + 2 * u.2.1 + 1 ≤ 60 by omega) (show 163 + 14 * u.2.1 + 7 ≤ 300 by omega) dX2_isSame_408 (fun a19 H S => ?_)
    have S : sS D A s cI cR o z u (ra_w cI ob ad v ++ ((o2, .inr (2, rs_f z2 (rf_pay u))) :: (a19, .inl (cI, 7, .inl (fun _ => 0))) :: hw_w cI cB h u.2.1 r2 g2)) H locs := S.re (fun q hq => by simp only [List.mem_append, List.mem_cons, List.not_mem_nil, or_false, false_or] at hq ⊢; first | exact hq | grind) (fun a => by simp only [List.map_append, List.map_cons, List.map_nil, List.count_append, List.count_cons, List.count_nil]; omega)
    refine lv_dup hx hb dX2_isSame_410 rfl ?_
    refine lv_iconst (v := 0) hx hb dX2_isSame_411 (by decide) ?_
    refine lv_aload_n hx hb dX2_isSame_412 rfl (lv_at hl 1 rfl) ?_
    refine s_gf C S 0 (by decide) (v := .int u.2.2) rfl rfl q167 dX2_isSame_413 ?_
    refine x_st C S 14 (n := 7) (f := (fun _ => 0)) (i := 0) rfl (by omega) (by omega) rfl dX2_isSame_416 (fun H locs S => ?_)
    have S : sS D A s cI cR o z u (ra_w cI ob ad v ++ ((o2, .inr (2, rs_f z2 (rf_pay u))) :: (a19, .inl (cI, 7, .inl (upd (fun _ => 0) 0 u.2.2))) :: hw_w cI cB h u.2.1 r2 g2)) H locs := S
    refine lv_dup hx hb dX2_isSame_417 rfl ?_
    refine lv_iconst (v := 1) hx hb dX2_isSame_418 (by decide) ?_
    refine lv_aload_n hx hb dX2_isSame_419 rfl (lv_at hl 1 rfl) ?_
    refine s_gf C S 3 (by decide) (v := .ref (z.1 2)) rfl rfl q36 dX2_isSame_420 ?_
    refine s_an C S dX2_isSame_423 ?_
    refine x_st C S 14 (n := 7) (f := (upd (fun _ => 0) 0 u.2.2)) (i := 1) rfl (by omega) (by omega) rfl dX2_isSame_424 (fun H locs S => ?_)
    have S : sS D A s cI cR o z u (ra_w cI ob ad v ++ ((o2, .inr (2, rs_f z2 (rf_pay u))) :: (a19, .inl (cI, 7, .inl (upd (upd (fun _ => 0) 0 u.2.2) 1 (nI u.2.1)))) :: hw_w cI cB h u.2.1 r2 g2)) H locs := S
    refine lv_dup hx hb dX2_isSame_425 rfl ?_
    refine lv_iconst (v := 2) hx hb dX2_isSame_426 (by decide) ?_
    refine lv_iload_n hx hb dX2_isSame_427 rfl (lv_at hl 3 rfl) ?_
    refine x_st C S 14 (n := 7) (f := (upd (upd (fun _ => 0) 0 u.2.2) 1 (nI u.2.1))) (i := 2) rfl (by omega) (by omega) rfl dX2_isSame_428 (fun H locs S => ?_)
    have S : sS D A s cI cR o z u (ra_w cI ob ad v ++ ((o2, .inr (2, rs_f z2 (rf_pay u))) :: (a19, .inl (cI, 7, .inl (upd (upd (upd (fun _ => 0) 0 u.2.2) 1 (nI u.2.1)) 2 (rf_sm (u.1 4) u.2.1)))) :: hw_w cI cB h u.2.1 r2 g2)) H locs := S
    refine lv_dup hx hb dX2_isSame_429 rfl ?_
    refine lv_iconst (v := 3) hx hb dX2_isSame_430 (by decide) ?_
    refine lv_iload_n hx hb dX2_isSame_431 rfl (lv_at hl 4 rfl) ?_
    refine x_st C S 14 (n := 7) (f := (upd (upd (upd (fun _ => 0) 0 u.2.2) 1 (nI u.2.1)) 2 (rf_sm (u.1 4) u.2.1))) (i := 3) rfl (by omega) (by omega) rfl dX2_isSame_432 (fun H locs S => ?_)
    have S : sS D A s cI cR o z u (ra_w cI ob ad v ++ ((o2, .inr (2, rs_f z2 (rf_pay u))) :: (a19, .inl (cI, 7, .inl (upd (upd (upd (upd (fun _ => 0) 0 u.2.2) 1 (nI u.2.1)) 2 (rf_sm (u.1 4) u.2.1)) 3 (rf_sm (u.1 5) u.2.1)))) :: hw_w cI cB h u.2.1 r2 g2)) H locs := S
    refine lv_dup hx hb dX2_isSame_433 rfl ?_
    refine lv_iconst (v := 4) hx hb dX2_isSame_434 (by decide) ?_
    refine lv_iconst (v := 4) hx hb dX2_isSame_435 (by decide) ?_
    refine lv_bipush (v := 30) hx hb dX2_isSame_436 (by decide) ?_
    refine lv_aload_n hx hb dX2_isSame_438 rfl (lv_at hl 1 rfl) ?_
    refine s_gf C S 2 (by decide) (v := .ref (z.1 1)) rfl rfl q34 dX2_isSame_439 ?_
    refine lv_iconst (v := 0) hx hb dX2_isSame_442 (by decide) ?_
    refine s_l8 C S (i := 0) (by decide) rfl dX2_isSame_443 ?_
    refine lv_imul hx hb dX2_isSame_444 ?_
    refine lv_bipush (v := 12) hx hb dX2_isSame_445 (by decide) ?_
    refine lv_aload_n hx hb dX2_isSame_447 rfl (lv_at hl 1 rfl) ?_
    refine s_gf C S 2 (by decide) (v := .ref (z.1 1)) rfl rfl q34 dX2_isSame_448 ?_
    refine lv_iconst (v := 1) hx hb dX2_isSame_451 (by decide) ?_
    refine s_l8 C S (i := 1) (by decide) rfl dX2_isSame_452 ?_
    refine lv_imul hx hb dX2_isSame_453 ?_
    refine lv_iadd hx hb dX2_isSame_454 ?_
    refine lv_aload_n hx hb dX2_isSame_455 rfl (lv_at hl 1 rfl) ?_
    refine s_gf C S 2 (by decide) (v := .ref (z.1 1)) rfl rfl q34 dX2_isSame_456 ?_
    refine lv_iconst (v := 2) hx hb dX2_isSame_459 (by decide) ?_
    refine s_l8 C S (i := 2) (by decide) rfl dX2_isSame_460 ?_
    refine lv_iadd hx hb dX2_isSame_461 ?_
    refine lv_imul hx hb dX2_isSame_462 ?_
    refine x_st C S 14 (n := 7) (f := (upd (upd (upd (upd (fun _ => 0) 0 u.2.2) 1 (nI u.2.1)) 2 (rf_sm (u.1 4) u.2.1)) 3 (rf_sm (u.1 5) u.2.1))) (i := 4) rfl (by omega) (by omega) rfl dX2_isSame_463 (fun H locs S => ?_)
    have S : sS D A s cI cR o z u (ra_w cI ob ad v ++ ((o2, .inr (2, rs_f z2 (rf_pay u))) :: (a19, .inl (cI, 7, .inl (upd (upd (upd (upd (upd (fun _ => 0) 0 u.2.2) 1 (nI u.2.1)) 2 (rf_sm (u.1 4) u.2.1)) 3 (rf_sm (u.1 5) u.2.1)) 4 (4 * (((30 * (u.1 8 0)) + (12 * (u.1 8 1))) + (u.1 8 2)))))) :: hw_w cI cB h u.2.1 r2 g2)) H locs := S
    refine lv_dup hx hb dX2_isSame_464 rfl ?_
    refine lv_iconst (v := 5) hx hb dX2_isSame_465 (by decide) ?_
    refine lv_aload_n hx hb dX2_isSame_466 rfl (lv_at hl 1 rfl) ?_
    refine m_ci (wa := []) (wb := rs_w cI cR o z u) (wd := ra_w cI ob ad v ++ ((o2, .inr (2, rs_f z2 (rf_pay u))) :: (a19, .inl (cI, 7, .inl (upd (upd (upd (upd (upd (fun _ => 0) 0 u.2.2) 1 (nI u.2.1)) 2 (rf_sm (u.1 4) u.2.1)) 3 (rf_sm (u.1 5) u.2.1)) 4 (4 * (((30 * (u.1 8 0)) + (12 * (u.1 8 1))) + (u.1 8 2)))))) :: hw_w cI cB h u.2.1 r2 g2)) (cells' := 33 + 2 * u.2.1 + 1) (slots' := 163 + 14 * u.2.1 + 7) rfl rfl C S.1 S.2.1 S.2.2 (fun hPb hDb => g_runVj (n := 0) (As := []) C (mX2_wages l D t cI cR cB o z H.size u T B) (rw_V q276 q277 q278 q29 q279) kd_X2_wages ⟨Nat.le_of_ble_eq_true rfl, Nat.le_of_ble_eq_true rfl⟩ (ci := 2) rfl rfl 0 rfl C.2.2.2.2.2.1 hPb hDb S.2.2 hl.1 rfl rfl (Nat.le_of_ble_eq_true rfl) dX2_isSame_467 ⟨(show 33 + 2 * u.2.1 + 1 + 0 ≤ 60 by omega), (show 163 + 14 * u.2.1 + 7 + 0 ≤ 300 by omega)⟩) (fun v w' H locs hv _ hP9 hD9 hS9 => ?_)
    obtain ⟨rfl, rfl⟩ := hv
    have S : sS D A s cI cR o z u (ra_w cI ob ad v ++ ((o2, .inr (2, rs_f z2 (rf_pay u))) :: (a19, .inl (cI, 7, .inl (upd (upd (upd (upd (upd (fun _ => 0) 0 u.2.2) 1 (nI u.2.1)) 2 (rf_sm (u.1 4) u.2.1)) 3 (rf_sm (u.1 5) u.2.1)) 4 (4 * (((30 * (u.1 8 0)) + (12 * (u.1 8 1))) + (u.1 8 2)))))) :: hw_w cI cB h u.2.1 r2 g2)) H locs := ⟨hP9, hD9, hS9⟩
    refine x_st C S 14 (n := 7) (f := (upd (upd (upd (upd (upd (fun _ => 0) 0 u.2.2) 1 (nI u.2.1)) 2 (rf_sm (u.1 4) u.2.1)) 3 (rf_sm (u.1 5) u.2.1)) 4 (4 * (((30 * (u.1 8 0)) + (12 * (u.1 8 1))) + (u.1 8 2))))) (i := 5) rfl (by omega) (by omega) rfl dX2_isSame_470 (fun H locs S => ?_)
    have S : sS D A s cI cR o z u (ra_w cI ob ad v ++ ((o2, .inr (2, rs_f z2 (rf_pay u))) :: (a19, .inl (cI, 7, .inl (upd (upd (upd (upd (upd (upd (fun _ => 0) 0 u.2.2) 1 (nI u.2.1)) 2 (rf_sm (u.1 4) u.2.1)) 3 (rf_sm (u.1 5) u.2.1)) 4 (4 * (((30 * (u.1 8 0)) + (12 * (u.1 8 1))) + (u.1 8 2)))) 5 (rf_sm (rf_ww u 7) u.2.1)))) :: hw_w cI cB h u.2.1 r2 g2)) H locs := S
    refine lv_dup hx hb dX2_isSame_471 rfl ?_
    refine lv_bipush (v := 6) hx hb dX2_isSame_472 (by decide) ?_
    refine lv_iload hx hb dX2_isSame_474 (lv_at hl 5 rfl) ?_
    refine x_st C S 14 (n := 7) (f := (upd (upd (upd (upd (upd (upd (fun _ => 0) 0 u.2.2) 1 (nI u.2.1)) 2 (rf_sm (u.1 4) u.2.1)) 3 (rf_sm (u.1 5) u.2.1)) 4 (4 * (((30 * (u.1 8 0)) + (12 * (u.1 8 1))) + (u.1 8 2)))) 5 (rf_sm (rf_ww u 7) u.2.1))) (i := 6) rfl (by omega) (by omega) rfl dX2_isSame_476 (fun H locs S => ?_)
    have S : sS D A s cI cR o z u (ra_w cI ob ad v ++ ((o2, .inr (2, rs_f z2 (rf_pay u))) :: (a19, .inl (cI, 7, .inl (upd (upd (upd (upd (upd (upd (upd (fun _ => 0) 0 u.2.2) 1 (nI u.2.1)) 2 (rf_sm (u.1 4) u.2.1)) 3 (rf_sm (u.1 5) u.2.1)) 4 (4 * (((30 * (u.1 8 0)) + (12 * (u.1 8 1))) + (u.1 8 2)))) 5 (rf_sm (rf_ww u 7) u.2.1)) 6 (rf_sm (u.1 6) u.2.1)))) :: hw_w cI cB h u.2.1 r2 g2)) H locs := S
    refine lv_astore (lv' := [(6, .ref a19), (0, .ref o), (1, .ref ob), (2, .int (rf_sm (u.1 4) u.2.1)), (3, .int (rf_sm (u.1 5) u.2.1)), (4, .int (rf_sm (u.1 6) u.2.1)), (5, .ref o2)]) hx hb dX2_isSame_477 hl (by decide) rfl (fun ls hl => ?_)
    refine lv_iconst (v := 0) hx hb dX2_isSame_479 (by decide) ?_
    refine lv_istore (lv' := [(7, .int 0), (6, .ref a19), (0, .ref o), (1, .ref ob), (2, .int (rf_sm (u.1 4) u.2.1)), (3, .int (rf_sm (u.1 5) u.2.1)), (4, .int (rf_sm (u.1 6) u.2.1)), (5, .ref o2)]) hx hb dX2_isSame_480 hl (by decide) rfl (fun ls hl => ?_)
    refine lv_iload hx hb dX2_isSame_482 (lv_at hl 0 rfl) ?_
    refine lv_bipush (v := 7) hx hb dX2_isSame_484 (by decide) ?_
    refine lv_icmp_ge (tgt := 511) hx hb dX2_isSame_486 (by decide) (fun c20 => absurd c20 (by decide)) (fun c20 => ?_)
    refine lv_aload_n hx hb dX2_isSame_489 rfl (lv_at hl 3 rfl) ?_
    refine lv_iload hx hb dX2_isSame_490 (lv_at hl 0 rfl) ?_
    refine m_ci (wa := rs_w cI cR o z u) (wb := ra_w cI ob ad v) (wd := ((o2, .inr (2, rs_f z2 (rf_pay u))) :: (a19, .inl (cI, 7, .inl (upd (upd (upd (upd (upd (upd (upd (fun _ => 0) 0 u.2.2) 1 (nI u.2.1)) 2 (rf_sm (u.1 4) u.2.1)) 3 (rf_sm (u.1 5) u.2.1)) 4 (4 * (((30 * (u.1 8 0)) + (12 * (u.1 8 1))) + (u.1 8 2)))) 5 (rf_sm (rf_ww u 7) u.2.1)) 6 (rf_sm (u.1 6) u.2.1)))) :: hw_w cI cB h u.2.1 r2 g2)) (cells' := 33 + 2 * u.2.1 + 1) (slots' := 163 + 14 * u.2.1 + 7) rfl rfl C S.1 S.2.1 S.2.2 (fun hPb hDb => g_runV (wr := ((o2, .inr (2, rs_f z2 (rf_pay u))) :: (a19, .inl (cI, 7, .inl (upd (upd (upd (upd (upd (upd (upd (fun _ => 0) 0 u.2.2) 1 (nI u.2.1)) 2 (rf_sm (u.1 4) u.2.1)) 3 (rf_sm (u.1 5) u.2.1)) 4 (4 * (((30 * (u.1 8 0)) + (12 * (u.1 8 1))) + (u.1 8 2)))) 5 (rf_sm (rf_ww u 7) u.2.1)) 6 (rf_sm (u.1 6) u.2.1)))) :: hw_w cI cB h u.2.1 r2 g2) ++ rs_w cI cR o z u) (n := 1) (As := [.int 0]) C (mX0_count l D t cI ob ad H.size v (by rw [hE.n]; exact hu8) 0 (by decide)) (rw_V q280 q193 q194 q2 q195) kd_X0_count ⟨Nat.le_of_ble_eq_true rfl, Nat.le_of_ble_eq_true rfl⟩ (ci := 0) rfl rfl rfl (C.2.2.2.2.2.1.sub (tys' := [(cI, .int)]) [0] rfl) hPb hDb S.2.2 hl.1 rfl rfl (Nat.le_of_ble_eq_true rfl) dX2_isSame_492 ⟨(show 33 + 2 * u.2.1 + 1 + 0 ≤ 60 by omega), (show 163 + 14 * u.2.1 + 7 + 0 ≤ 300 by omega)⟩) (fun v w' H locs hv _ hP9 hD9 hS9 => ?_)
    obtain ⟨rfl, rfl⟩ := hv
    have S : sS D A s cI cR o z u (ra_w cI ob ad v ++ ((o2, .inr (2, rs_f z2 (rf_pay u))) :: (a19, .inl (cI, 7, .inl (upd (upd (upd (upd (upd (upd (upd (fun _ => 0) 0 u.2.2) 1 (nI u.2.1)) 2 (rf_sm (u.1 4) u.2.1)) 3 (rf_sm (u.1 5) u.2.1)) 4 (4 * (((30 * (u.1 8 0)) + (12 * (u.1 8 1))) + (u.1 8 2)))) 5 (rf_sm (rf_ww u 7) u.2.1)) 6 (rf_sm (u.1 6) u.2.1)))) :: hw_w cI cB h u.2.1 r2 g2)) H locs := ⟨hP9, hD9, hS9⟩
    refine g_top (y := u.2.2) (e9_c0 hE) ?_
    refine lv_aload hx hb dX2_isSame_495 (lv_at hl 1 rfl) ?_
    refine lv_iload hx hb dX2_isSame_497 (lv_at hl 0 rfl) ?_
    refine x_ld C S 14 (n := 7) (f := (upd (upd (upd (upd (upd (upd (upd (fun _ => 0) 0 u.2.2) 1 (nI u.2.1)) 2 (rf_sm (u.1 4) u.2.1)) 3 (rf_sm (u.1 5) u.2.1)) 4 (4 * (((30 * (u.1 8 0)) + (12 * (u.1 8 1))) + (u.1 8 2)))) 5 (rf_sm (rf_ww u 7) u.2.1)) 6 (rf_sm (u.1 6) u.2.1))) (i := 0) rfl (by omega) (by omega) rfl dX2_isSame_499 ?_
    refine g_top (y := u.2.2) (rfl) ?_
    refine lv_icmp_eq (tgt := 505) hx hb dX2_isSame_500 (by decide) (fun c21 => ?_) (fun c21 => absurd (rfl) c21)
    refine lv_iinc (v := nI 1) (lv' := [(7, .int (nI 1)), (6, .ref a19), (0, .ref o), (1, .ref ob), (2, .int (rf_sm (u.1 4) u.2.1)), (3, .int (rf_sm (u.1 5) u.2.1)), (4, .int (rf_sm (u.1 6) u.2.1)), (5, .ref o2)]) hx hb dX2_isSame_505 hl (k := 0) rfl (nI_1 _) (by decide) rfl (fun ls hl => ?_)
    refine lv_goto (tgt := 482) hx hb dX2_isSame_508 (by decide) ?_
    refine lv_iload hx hb dX2_isSame_482 (lv_at hl 0 rfl) ?_
    refine lv_bipush (v := 7) hx hb dX2_isSame_484 (by decide) ?_
    refine lv_icmp_ge (tgt := 511) hx hb dX2_isSame_486 (by decide) (fun c22 => absurd c22 (by decide)) (fun c22 => ?_)
    refine lv_aload_n hx hb dX2_isSame_489 rfl (lv_at hl 3 rfl) ?_
    refine lv_iload hx hb dX2_isSame_490 (lv_at hl 0 rfl) ?_
    refine m_ci (wa := rs_w cI cR o z u) (wb := ra_w cI ob ad v) (wd := ((o2, .inr (2, rs_f z2 (rf_pay u))) :: (a19, .inl (cI, 7, .inl (upd (upd (upd (upd (upd (upd (upd (fun _ => 0) 0 u.2.2) 1 (nI u.2.1)) 2 (rf_sm (u.1 4) u.2.1)) 3 (rf_sm (u.1 5) u.2.1)) 4 (4 * (((30 * (u.1 8 0)) + (12 * (u.1 8 1))) + (u.1 8 2)))) 5 (rf_sm (rf_ww u 7) u.2.1)) 6 (rf_sm (u.1 6) u.2.1)))) :: hw_w cI cB h u.2.1 r2 g2)) (cells' := 33 + 2 * u.2.1 + 1) (slots' := 163 + 14 * u.2.1 + 7) rfl rfl C S.1 S.2.1 S.2.2 (fun hPb hDb => g_runV (wr := ((o2, .inr (2, rs_f z2 (rf_pay u))) :: (a19, .inl (cI, 7, .inl (upd (upd (upd (upd (upd (upd (upd (fun _ => 0) 0 u.2.2) 1 (nI u.2.1)) 2 (rf_sm (u.1 4) u.2.1)) 3 (rf_sm (u.1 5) u.2.1)) 4 (4 * (((30 * (u.1 8 0)) + (12 * (u.1 8 1))) + (u.1 8 2)))) 5 (rf_sm (rf_ww u 7) u.2.1)) 6 (rf_sm (u.1 6) u.2.1)))) :: hw_w cI cB h u.2.1 r2 g2) ++ rs_w cI cR o z u) (n := 1) (As := [.int (nI 1)]) C (mX0_count l D t cI ob ad H.size v (by rw [hE.n]; exact hu8) 1 (by decide)) (rw_V q280 q193 q194 q2 q195) kd_X0_count ⟨Nat.le_of_ble_eq_true rfl, Nat.le_of_ble_eq_true rfl⟩ (ci := 0) rfl rfl rfl (C.2.2.2.2.2.1.sub (tys' := [(cI, .int)]) [0] rfl) hPb hDb S.2.2 hl.1 rfl rfl (Nat.le_of_ble_eq_true rfl) dX2_isSame_492 ⟨(show 33 + 2 * u.2.1 + 1 + 0 ≤ 60 by omega), (show 163 + 14 * u.2.1 + 7 + 0 ≤ 300 by omega)⟩) (fun v w' H locs hv _ hP9 hD9 hS9 => ?_)
    obtain ⟨rfl, rfl⟩ := hv
    have S : sS D A s cI cR o z u (ra_w cI ob ad v ++ ((o2, .inr (2, rs_f z2 (rf_pay u))) :: (a19, .inl (cI, 7, .inl (upd (upd (upd (upd (upd (upd (upd (fun _ => 0) 0 u.2.2) 1 (nI u.2.1)) 2 (rf_sm (u.1 4) u.2.1)) 3 (rf_sm (u.1 5) u.2.1)) 4 (4 * (((30 * (u.1 8 0)) + (12 * (u.1 8 1))) + (u.1 8 2)))) 5 (rf_sm (rf_ww u 7) u.2.1)) 6 (rf_sm (u.1 6) u.2.1)))) :: hw_w cI cB h u.2.1 r2 g2)) H locs := ⟨hP9, hD9, hS9⟩
    refine g_top (y := nI u.2.1) (e9_c1 hE) ?_
    refine lv_aload hx hb dX2_isSame_495 (lv_at hl 1 rfl) ?_
    refine lv_iload hx hb dX2_isSame_497 (lv_at hl 0 rfl) ?_
    refine x_ld C S 14 (n := 7) (f := (upd (upd (upd (upd (upd (upd (upd (fun _ => 0) 0 u.2.2) 1 (nI u.2.1)) 2 (rf_sm (u.1 4) u.2.1)) 3 (rf_sm (u.1 5) u.2.1)) 4 (4 * (((30 * (u.1 8 0)) + (12 * (u.1 8 1))) + (u.1 8 2)))) 5 (rf_sm (rf_ww u 7) u.2.1)) 6 (rf_sm (u.1 6) u.2.1))) (i := 1) rfl (by omega) (by omega) rfl dX2_isSame_499 ?_
    refine g_top (y := nI u.2.1) (rfl) ?_
    refine lv_icmp_eq (tgt := 505) hx hb dX2_isSame_500 (by decide) (fun c23 => ?_) (fun c23 => absurd (rfl) c23)
    refine lv_iinc (v := nI 2) (lv' := [(7, .int (nI 2)), (6, .ref a19), (0, .ref o), (1, .ref ob), (2, .int (rf_sm (u.1 4) u.2.1)), (3, .int (rf_sm (u.1 5) u.2.1)), (4, .int (rf_sm (u.1 6) u.2.1)), (5, .ref o2)]) hx hb dX2_isSame_505 hl (k := 0) rfl (nI_1 _) (by decide) rfl (fun ls hl => ?_)
    refine lv_goto (tgt := 482) hx hb dX2_isSame_508 (by decide) ?_
    refine lv_iload hx hb dX2_isSame_482 (lv_at hl 0 rfl) ?_
    refine lv_bipush (v := 7) hx hb dX2_isSame_484 (by decide) ?_
    refine lv_icmp_ge (tgt := 511) hx hb dX2_isSame_486 (by decide) (fun c24 => absurd c24 (by decide)) (fun c24 => ?_)
    refine lv_aload_n hx hb dX2_isSame_489 rfl (lv_at hl 3 rfl) ?_
    refine lv_iload hx hb dX2_isSame_490 (lv_at hl 0 rfl) ?_
    refine m_ci (wa := rs_w cI cR o z u) (wb := ra_w cI ob ad v) (wd := ((o2, .inr (2, rs_f z2 (rf_pay u))) :: (a19, .inl (cI, 7, .inl (upd (upd (upd (upd (upd (upd (upd (fun _ => 0) 0 u.2.2) 1 (nI u.2.1)) 2 (rf_sm (u.1 4) u.2.1)) 3 (rf_sm (u.1 5) u.2.1)) 4 (4 * (((30 * (u.1 8 0)) + (12 * (u.1 8 1))) + (u.1 8 2)))) 5 (rf_sm (rf_ww u 7) u.2.1)) 6 (rf_sm (u.1 6) u.2.1)))) :: hw_w cI cB h u.2.1 r2 g2)) (cells' := 33 + 2 * u.2.1 + 1) (slots' := 163 + 14 * u.2.1 + 7) rfl rfl C S.1 S.2.1 S.2.2 (fun hPb hDb => g_runV (wr := ((o2, .inr (2, rs_f z2 (rf_pay u))) :: (a19, .inl (cI, 7, .inl (upd (upd (upd (upd (upd (upd (upd (fun _ => 0) 0 u.2.2) 1 (nI u.2.1)) 2 (rf_sm (u.1 4) u.2.1)) 3 (rf_sm (u.1 5) u.2.1)) 4 (4 * (((30 * (u.1 8 0)) + (12 * (u.1 8 1))) + (u.1 8 2)))) 5 (rf_sm (rf_ww u 7) u.2.1)) 6 (rf_sm (u.1 6) u.2.1)))) :: hw_w cI cB h u.2.1 r2 g2) ++ rs_w cI cR o z u) (n := 1) (As := [.int (nI 2)]) C (mX0_count l D t cI ob ad H.size v (by rw [hE.n]; exact hu8) 2 (by decide)) (rw_V q280 q193 q194 q2 q195) kd_X0_count ⟨Nat.le_of_ble_eq_true rfl, Nat.le_of_ble_eq_true rfl⟩ (ci := 0) rfl rfl rfl (C.2.2.2.2.2.1.sub (tys' := [(cI, .int)]) [0] rfl) hPb hDb S.2.2 hl.1 rfl rfl (Nat.le_of_ble_eq_true rfl) dX2_isSame_492 ⟨(show 33 + 2 * u.2.1 + 1 + 0 ≤ 60 by omega), (show 163 + 14 * u.2.1 + 7 + 0 ≤ 300 by omega)⟩) (fun v w' H locs hv _ hP9 hD9 hS9 => ?_)
    obtain ⟨rfl, rfl⟩ := hv
    have S : sS D A s cI cR o z u (ra_w cI ob ad v ++ ((o2, .inr (2, rs_f z2 (rf_pay u))) :: (a19, .inl (cI, 7, .inl (upd (upd (upd (upd (upd (upd (upd (fun _ => 0) 0 u.2.2) 1 (nI u.2.1)) 2 (rf_sm (u.1 4) u.2.1)) 3 (rf_sm (u.1 5) u.2.1)) 4 (4 * (((30 * (u.1 8 0)) + (12 * (u.1 8 1))) + (u.1 8 2)))) 5 (rf_sm (rf_ww u 7) u.2.1)) 6 (rf_sm (u.1 6) u.2.1)))) :: hw_w cI cB h u.2.1 r2 g2)) H locs := ⟨hP9, hD9, hS9⟩
    refine g_top (y := rf_sm (u.1 4) u.2.1) (e9_c2 hE) ?_
    refine lv_aload hx hb dX2_isSame_495 (lv_at hl 1 rfl) ?_
    refine lv_iload hx hb dX2_isSame_497 (lv_at hl 0 rfl) ?_
    refine x_ld C S 14 (n := 7) (f := (upd (upd (upd (upd (upd (upd (upd (fun _ => 0) 0 u.2.2) 1 (nI u.2.1)) 2 (rf_sm (u.1 4) u.2.1)) 3 (rf_sm (u.1 5) u.2.1)) 4 (4 * (((30 * (u.1 8 0)) + (12 * (u.1 8 1))) + (u.1 8 2)))) 5 (rf_sm (rf_ww u 7) u.2.1)) 6 (rf_sm (u.1 6) u.2.1))) (i := 2) rfl (by omega) (by omega) rfl dX2_isSame_499 ?_
    refine g_top (y := rf_sm (u.1 4) u.2.1) (rfl) ?_
    refine lv_icmp_eq (tgt := 505) hx hb dX2_isSame_500 (by decide) (fun c25 => ?_) (fun c25 => absurd (rfl) c25)
    refine lv_iinc (v := nI 3) (lv' := [(7, .int (nI 3)), (6, .ref a19), (0, .ref o), (1, .ref ob), (2, .int (rf_sm (u.1 4) u.2.1)), (3, .int (rf_sm (u.1 5) u.2.1)), (4, .int (rf_sm (u.1 6) u.2.1)), (5, .ref o2)]) hx hb dX2_isSame_505 hl (k := 0) rfl (nI_1 _) (by decide) rfl (fun ls hl => ?_)
    refine lv_goto (tgt := 482) hx hb dX2_isSame_508 (by decide) ?_
    refine lv_iload hx hb dX2_isSame_482 (lv_at hl 0 rfl) ?_
    refine lv_bipush (v := 7) hx hb dX2_isSame_484 (by decide) ?_
    refine lv_icmp_ge (tgt := 511) hx hb dX2_isSame_486 (by decide) (fun c26 => absurd c26 (by decide)) (fun c26 => ?_)
    refine lv_aload_n hx hb dX2_isSame_489 rfl (lv_at hl 3 rfl) ?_
    refine lv_iload hx hb dX2_isSame_490 (lv_at hl 0 rfl) ?_
    refine m_ci (wa := rs_w cI cR o z u) (wb := ra_w cI ob ad v) (wd := ((o2, .inr (2, rs_f z2 (rf_pay u))) :: (a19, .inl (cI, 7, .inl (upd (upd (upd (upd (upd (upd (upd (fun _ => 0) 0 u.2.2) 1 (nI u.2.1)) 2 (rf_sm (u.1 4) u.2.1)) 3 (rf_sm (u.1 5) u.2.1)) 4 (4 * (((30 * (u.1 8 0)) + (12 * (u.1 8 1))) + (u.1 8 2)))) 5 (rf_sm (rf_ww u 7) u.2.1)) 6 (rf_sm (u.1 6) u.2.1)))) :: hw_w cI cB h u.2.1 r2 g2)) (cells' := 33 + 2 * u.2.1 + 1) (slots' := 163 + 14 * u.2.1 + 7) rfl rfl C S.1 S.2.1 S.2.2 (fun hPb hDb => g_runV (wr := ((o2, .inr (2, rs_f z2 (rf_pay u))) :: (a19, .inl (cI, 7, .inl (upd (upd (upd (upd (upd (upd (upd (fun _ => 0) 0 u.2.2) 1 (nI u.2.1)) 2 (rf_sm (u.1 4) u.2.1)) 3 (rf_sm (u.1 5) u.2.1)) 4 (4 * (((30 * (u.1 8 0)) + (12 * (u.1 8 1))) + (u.1 8 2)))) 5 (rf_sm (rf_ww u 7) u.2.1)) 6 (rf_sm (u.1 6) u.2.1)))) :: hw_w cI cB h u.2.1 r2 g2) ++ rs_w cI cR o z u) (n := 1) (As := [.int (nI 3)]) C (mX0_count l D t cI ob ad H.size v (by rw [hE.n]; exact hu8) 3 (by decide)) (rw_V q280 q193 q194 q2 q195) kd_X0_count ⟨Nat.le_of_ble_eq_true rfl, Nat.le_of_ble_eq_true rfl⟩ (ci := 0) rfl rfl rfl (C.2.2.2.2.2.1.sub (tys' := [(cI, .int)]) [0] rfl) hPb hDb S.2.2 hl.1 rfl rfl (Nat.le_of_ble_eq_true rfl) dX2_isSame_492 ⟨(show 33 + 2 * u.2.1 + 1 + 0 ≤ 60 by omega), (show 163 + 14 * u.2.1 + 7 + 0 ≤ 300 by omega)⟩) (fun v w' H locs hv _ hP9 hD9 hS9 => ?_)
    obtain ⟨rfl, rfl⟩ := hv
    have S : sS D A s cI cR o z u (ra_w cI ob ad v ++ ((o2, .inr (2, rs_f z2 (rf_pay u))) :: (a19, .inl (cI, 7, .inl (upd (upd (upd (upd (upd (upd (upd (fun _ => 0) 0 u.2.2) 1 (nI u.2.1)) 2 (rf_sm (u.1 4) u.2.1)) 3 (rf_sm (u.1 5) u.2.1)) 4 (4 * (((30 * (u.1 8 0)) + (12 * (u.1 8 1))) + (u.1 8 2)))) 5 (rf_sm (rf_ww u 7) u.2.1)) 6 (rf_sm (u.1 6) u.2.1)))) :: hw_w cI cB h u.2.1 r2 g2)) H locs := ⟨hP9, hD9, hS9⟩
    refine g_top (y := rf_sm (u.1 5) u.2.1) (e9_c3 hE) ?_
    refine lv_aload hx hb dX2_isSame_495 (lv_at hl 1 rfl) ?_
    refine lv_iload hx hb dX2_isSame_497 (lv_at hl 0 rfl) ?_
    refine x_ld C S 14 (n := 7) (f := (upd (upd (upd (upd (upd (upd (upd (fun _ => 0) 0 u.2.2) 1 (nI u.2.1)) 2 (rf_sm (u.1 4) u.2.1)) 3 (rf_sm (u.1 5) u.2.1)) 4 (4 * (((30 * (u.1 8 0)) + (12 * (u.1 8 1))) + (u.1 8 2)))) 5 (rf_sm (rf_ww u 7) u.2.1)) 6 (rf_sm (u.1 6) u.2.1))) (i := 3) rfl (by omega) (by omega) rfl dX2_isSame_499 ?_
    refine g_top (y := rf_sm (u.1 5) u.2.1) (rfl) ?_
    refine lv_icmp_eq (tgt := 505) hx hb dX2_isSame_500 (by decide) (fun c27 => ?_) (fun c27 => absurd (rfl) c27)
    refine lv_iinc (v := nI 4) (lv' := [(7, .int (nI 4)), (6, .ref a19), (0, .ref o), (1, .ref ob), (2, .int (rf_sm (u.1 4) u.2.1)), (3, .int (rf_sm (u.1 5) u.2.1)), (4, .int (rf_sm (u.1 6) u.2.1)), (5, .ref o2)]) hx hb dX2_isSame_505 hl (k := 0) rfl (nI_1 _) (by decide) rfl (fun ls hl => ?_)
    refine lv_goto (tgt := 482) hx hb dX2_isSame_508 (by decide) ?_
    refine lv_iload hx hb dX2_isSame_482 (lv_at hl 0 rfl) ?_
    refine lv_bipush (v := 7) hx hb dX2_isSame_484 (by decide) ?_
    refine lv_icmp_ge (tgt := 511) hx hb dX2_isSame_486 (by decide) (fun c28 => absurd c28 (by decide)) (fun c28 => ?_)
    refine lv_aload_n hx hb dX2_isSame_489 rfl (lv_at hl 3 rfl) ?_
    refine lv_iload hx hb dX2_isSame_490 (lv_at hl 0 rfl) ?_
    refine m_ci (wa := rs_w cI cR o z u) (wb := ra_w cI ob ad v) (wd := ((o2, .inr (2, rs_f z2 (rf_pay u))) :: (a19, .inl (cI, 7, .inl (upd (upd (upd (upd (upd (upd (upd (fun _ => 0) 0 u.2.2) 1 (nI u.2.1)) 2 (rf_sm (u.1 4) u.2.1)) 3 (rf_sm (u.1 5) u.2.1)) 4 (4 * (((30 * (u.1 8 0)) + (12 * (u.1 8 1))) + (u.1 8 2)))) 5 (rf_sm (rf_ww u 7) u.2.1)) 6 (rf_sm (u.1 6) u.2.1)))) :: hw_w cI cB h u.2.1 r2 g2)) (cells' := 33 + 2 * u.2.1 + 1) (slots' := 163 + 14 * u.2.1 + 7) rfl rfl C S.1 S.2.1 S.2.2 (fun hPb hDb => g_runV (wr := ((o2, .inr (2, rs_f z2 (rf_pay u))) :: (a19, .inl (cI, 7, .inl (upd (upd (upd (upd (upd (upd (upd (fun _ => 0) 0 u.2.2) 1 (nI u.2.1)) 2 (rf_sm (u.1 4) u.2.1)) 3 (rf_sm (u.1 5) u.2.1)) 4 (4 * (((30 * (u.1 8 0)) + (12 * (u.1 8 1))) + (u.1 8 2)))) 5 (rf_sm (rf_ww u 7) u.2.1)) 6 (rf_sm (u.1 6) u.2.1)))) :: hw_w cI cB h u.2.1 r2 g2) ++ rs_w cI cR o z u) (n := 1) (As := [.int (nI 4)]) C (mX0_count l D t cI ob ad H.size v (by rw [hE.n]; exact hu8) 4 (by decide)) (rw_V q280 q193 q194 q2 q195) kd_X0_count ⟨Nat.le_of_ble_eq_true rfl, Nat.le_of_ble_eq_true rfl⟩ (ci := 0) rfl rfl rfl (C.2.2.2.2.2.1.sub (tys' := [(cI, .int)]) [0] rfl) hPb hDb S.2.2 hl.1 rfl rfl (Nat.le_of_ble_eq_true rfl) dX2_isSame_492 ⟨(show 33 + 2 * u.2.1 + 1 + 0 ≤ 60 by omega), (show 163 + 14 * u.2.1 + 7 + 0 ≤ 300 by omega)⟩) (fun v w' H locs hv _ hP9 hD9 hS9 => ?_)
    obtain ⟨rfl, rfl⟩ := hv
    have S : sS D A s cI cR o z u (ra_w cI ob ad v ++ ((o2, .inr (2, rs_f z2 (rf_pay u))) :: (a19, .inl (cI, 7, .inl (upd (upd (upd (upd (upd (upd (upd (fun _ => 0) 0 u.2.2) 1 (nI u.2.1)) 2 (rf_sm (u.1 4) u.2.1)) 3 (rf_sm (u.1 5) u.2.1)) 4 (4 * (((30 * (u.1 8 0)) + (12 * (u.1 8 1))) + (u.1 8 2)))) 5 (rf_sm (rf_ww u 7) u.2.1)) 6 (rf_sm (u.1 6) u.2.1)))) :: hw_w cI cB h u.2.1 r2 g2)) H locs := ⟨hP9, hD9, hS9⟩
    refine g_top (y := rf_sm (fun c => u.1 8 c * rt_RX0_COIN_WORTH c) 3) (e9_c4 hE) ?_
    refine g_top (y := 4 * (30 * u.1 8 0 + 12 * u.1 8 1 + u.1 8 2)) is_c4 ?_
    refine lv_aload hx hb dX2_isSame_495 (lv_at hl 1 rfl) ?_
    refine lv_iload hx hb dX2_isSame_497 (lv_at hl 0 rfl) ?_
    refine x_ld C S 14 (n := 7) (f := (upd (upd (upd (upd (upd (upd (upd (fun _ => 0) 0 u.2.2) 1 (nI u.2.1)) 2 (rf_sm (u.1 4) u.2.1)) 3 (rf_sm (u.1 5) u.2.1)) 4 (4 * (((30 * (u.1 8 0)) + (12 * (u.1 8 1))) + (u.1 8 2)))) 5 (rf_sm (rf_ww u 7) u.2.1)) 6 (rf_sm (u.1 6) u.2.1))) (i := 4) rfl (by omega) (by omega) rfl dX2_isSame_499 ?_
    refine g_top (y := 4 * (((30 * (u.1 8 0)) + (12 * (u.1 8 1))) + (u.1 8 2))) (rfl) ?_
    refine lv_icmp_eq (tgt := 505) hx hb dX2_isSame_500 (by decide) (fun c29 => ?_) (fun c29 => absurd (rfl) c29)
    refine lv_iinc (v := nI 5) (lv' := [(7, .int (nI 5)), (6, .ref a19), (0, .ref o), (1, .ref ob), (2, .int (rf_sm (u.1 4) u.2.1)), (3, .int (rf_sm (u.1 5) u.2.1)), (4, .int (rf_sm (u.1 6) u.2.1)), (5, .ref o2)]) hx hb dX2_isSame_505 hl (k := 0) rfl (nI_1 _) (by decide) rfl (fun ls hl => ?_)
    refine lv_goto (tgt := 482) hx hb dX2_isSame_508 (by decide) ?_
    refine lv_iload hx hb dX2_isSame_482 (lv_at hl 0 rfl) ?_
    refine lv_bipush (v := 7) hx hb dX2_isSame_484 (by decide) ?_
    refine lv_icmp_ge (tgt := 511) hx hb dX2_isSame_486 (by decide) (fun c30 => absurd c30 (by decide)) (fun c30 => ?_)
    refine lv_aload_n hx hb dX2_isSame_489 rfl (lv_at hl 3 rfl) ?_
    refine lv_iload hx hb dX2_isSame_490 (lv_at hl 0 rfl) ?_
    refine m_ci (wa := rs_w cI cR o z u) (wb := ra_w cI ob ad v) (wd := ((o2, .inr (2, rs_f z2 (rf_pay u))) :: (a19, .inl (cI, 7, .inl (upd (upd (upd (upd (upd (upd (upd (fun _ => 0) 0 u.2.2) 1 (nI u.2.1)) 2 (rf_sm (u.1 4) u.2.1)) 3 (rf_sm (u.1 5) u.2.1)) 4 (4 * (((30 * (u.1 8 0)) + (12 * (u.1 8 1))) + (u.1 8 2)))) 5 (rf_sm (rf_ww u 7) u.2.1)) 6 (rf_sm (u.1 6) u.2.1)))) :: hw_w cI cB h u.2.1 r2 g2)) (cells' := 33 + 2 * u.2.1 + 1) (slots' := 163 + 14 * u.2.1 + 7) rfl rfl C S.1 S.2.1 S.2.2 (fun hPb hDb => g_runV (wr := ((o2, .inr (2, rs_f z2 (rf_pay u))) :: (a19, .inl (cI, 7, .inl (upd (upd (upd (upd (upd (upd (upd (fun _ => 0) 0 u.2.2) 1 (nI u.2.1)) 2 (rf_sm (u.1 4) u.2.1)) 3 (rf_sm (u.1 5) u.2.1)) 4 (4 * (((30 * (u.1 8 0)) + (12 * (u.1 8 1))) + (u.1 8 2)))) 5 (rf_sm (rf_ww u 7) u.2.1)) 6 (rf_sm (u.1 6) u.2.1)))) :: hw_w cI cB h u.2.1 r2 g2) ++ rs_w cI cR o z u) (n := 1) (As := [.int (nI 5)]) C (mX0_count l D t cI ob ad H.size v (by rw [hE.n]; exact hu8) 5 (by decide)) (rw_V q280 q193 q194 q2 q195) kd_X0_count ⟨Nat.le_of_ble_eq_true rfl, Nat.le_of_ble_eq_true rfl⟩ (ci := 0) rfl rfl rfl (C.2.2.2.2.2.1.sub (tys' := [(cI, .int)]) [0] rfl) hPb hDb S.2.2 hl.1 rfl rfl (Nat.le_of_ble_eq_true rfl) dX2_isSame_492 ⟨(show 33 + 2 * u.2.1 + 1 + 0 ≤ 60 by omega), (show 163 + 14 * u.2.1 + 7 + 0 ≤ 300 by omega)⟩) (fun v w' H locs hv _ hP9 hD9 hS9 => ?_)
    obtain ⟨rfl, rfl⟩ := hv
    have S : sS D A s cI cR o z u (ra_w cI ob ad v ++ ((o2, .inr (2, rs_f z2 (rf_pay u))) :: (a19, .inl (cI, 7, .inl (upd (upd (upd (upd (upd (upd (upd (fun _ => 0) 0 u.2.2) 1 (nI u.2.1)) 2 (rf_sm (u.1 4) u.2.1)) 3 (rf_sm (u.1 5) u.2.1)) 4 (4 * (((30 * (u.1 8 0)) + (12 * (u.1 8 1))) + (u.1 8 2)))) 5 (rf_sm (rf_ww u 7) u.2.1)) 6 (rf_sm (u.1 6) u.2.1)))) :: hw_w cI cB h u.2.1 r2 g2)) H locs := ⟨hP9, hD9, hS9⟩
    refine g_top (y := rf_sm (rf_ww u 7) u.2.1) (e9_c5 hE) ?_
    refine lv_aload hx hb dX2_isSame_495 (lv_at hl 1 rfl) ?_
    refine lv_iload hx hb dX2_isSame_497 (lv_at hl 0 rfl) ?_
    refine x_ld C S 14 (n := 7) (f := (upd (upd (upd (upd (upd (upd (upd (fun _ => 0) 0 u.2.2) 1 (nI u.2.1)) 2 (rf_sm (u.1 4) u.2.1)) 3 (rf_sm (u.1 5) u.2.1)) 4 (4 * (((30 * (u.1 8 0)) + (12 * (u.1 8 1))) + (u.1 8 2)))) 5 (rf_sm (rf_ww u 7) u.2.1)) 6 (rf_sm (u.1 6) u.2.1))) (i := 5) rfl (by omega) (by omega) rfl dX2_isSame_499 ?_
    refine g_top (y := rf_sm (rf_ww u 7) u.2.1) (rfl) ?_
    refine lv_icmp_eq (tgt := 505) hx hb dX2_isSame_500 (by decide) (fun c31 => ?_) (fun c31 => absurd (rfl) c31)
    refine lv_iinc (v := nI 6) (lv' := [(7, .int (nI 6)), (6, .ref a19), (0, .ref o), (1, .ref ob), (2, .int (rf_sm (u.1 4) u.2.1)), (3, .int (rf_sm (u.1 5) u.2.1)), (4, .int (rf_sm (u.1 6) u.2.1)), (5, .ref o2)]) hx hb dX2_isSame_505 hl (k := 0) rfl (nI_1 _) (by decide) rfl (fun ls hl => ?_)
    refine lv_goto (tgt := 482) hx hb dX2_isSame_508 (by decide) ?_
    refine lv_iload hx hb dX2_isSame_482 (lv_at hl 0 rfl) ?_
    refine lv_bipush (v := 7) hx hb dX2_isSame_484 (by decide) ?_
    refine lv_icmp_ge (tgt := 511) hx hb dX2_isSame_486 (by decide) (fun c32 => absurd c32 (by decide)) (fun c32 => ?_)
    refine lv_aload_n hx hb dX2_isSame_489 rfl (lv_at hl 3 rfl) ?_
    refine lv_iload hx hb dX2_isSame_490 (lv_at hl 0 rfl) ?_
    refine m_ci (wa := rs_w cI cR o z u) (wb := ra_w cI ob ad v) (wd := ((o2, .inr (2, rs_f z2 (rf_pay u))) :: (a19, .inl (cI, 7, .inl (upd (upd (upd (upd (upd (upd (upd (fun _ => 0) 0 u.2.2) 1 (nI u.2.1)) 2 (rf_sm (u.1 4) u.2.1)) 3 (rf_sm (u.1 5) u.2.1)) 4 (4 * (((30 * (u.1 8 0)) + (12 * (u.1 8 1))) + (u.1 8 2)))) 5 (rf_sm (rf_ww u 7) u.2.1)) 6 (rf_sm (u.1 6) u.2.1)))) :: hw_w cI cB h u.2.1 r2 g2)) (cells' := 33 + 2 * u.2.1 + 1) (slots' := 163 + 14 * u.2.1 + 7) rfl rfl C S.1 S.2.1 S.2.2 (fun hPb hDb => g_runV (wr := ((o2, .inr (2, rs_f z2 (rf_pay u))) :: (a19, .inl (cI, 7, .inl (upd (upd (upd (upd (upd (upd (upd (fun _ => 0) 0 u.2.2) 1 (nI u.2.1)) 2 (rf_sm (u.1 4) u.2.1)) 3 (rf_sm (u.1 5) u.2.1)) 4 (4 * (((30 * (u.1 8 0)) + (12 * (u.1 8 1))) + (u.1 8 2)))) 5 (rf_sm (rf_ww u 7) u.2.1)) 6 (rf_sm (u.1 6) u.2.1)))) :: hw_w cI cB h u.2.1 r2 g2) ++ rs_w cI cR o z u) (n := 1) (As := [.int (nI 6)]) C (mX0_count l D t cI ob ad H.size v (by rw [hE.n]; exact hu8) 6 (by decide)) (rw_V q280 q193 q194 q2 q195) kd_X0_count ⟨Nat.le_of_ble_eq_true rfl, Nat.le_of_ble_eq_true rfl⟩ (ci := 0) rfl rfl rfl (C.2.2.2.2.2.1.sub (tys' := [(cI, .int)]) [0] rfl) hPb hDb S.2.2 hl.1 rfl rfl (Nat.le_of_ble_eq_true rfl) dX2_isSame_492 ⟨(show 33 + 2 * u.2.1 + 1 + 0 ≤ 60 by omega), (show 163 + 14 * u.2.1 + 7 + 0 ≤ 300 by omega)⟩) (fun v w' H locs hv _ hP9 hD9 hS9 => ?_)
    obtain ⟨rfl, rfl⟩ := hv
    have S : sS D A s cI cR o z u (ra_w cI ob ad v ++ ((o2, .inr (2, rs_f z2 (rf_pay u))) :: (a19, .inl (cI, 7, .inl (upd (upd (upd (upd (upd (upd (upd (fun _ => 0) 0 u.2.2) 1 (nI u.2.1)) 2 (rf_sm (u.1 4) u.2.1)) 3 (rf_sm (u.1 5) u.2.1)) 4 (4 * (((30 * (u.1 8 0)) + (12 * (u.1 8 1))) + (u.1 8 2)))) 5 (rf_sm (rf_ww u 7) u.2.1)) 6 (rf_sm (u.1 6) u.2.1)))) :: hw_w cI cB h u.2.1 r2 g2)) H locs := ⟨hP9, hD9, hS9⟩
    refine g_top (y := rf_sm (u.1 6) u.2.1) (e9_c6 hE) ?_
    refine lv_aload hx hb dX2_isSame_495 (lv_at hl 1 rfl) ?_
    refine lv_iload hx hb dX2_isSame_497 (lv_at hl 0 rfl) ?_
    refine x_ld C S 14 (n := 7) (f := (upd (upd (upd (upd (upd (upd (upd (fun _ => 0) 0 u.2.2) 1 (nI u.2.1)) 2 (rf_sm (u.1 4) u.2.1)) 3 (rf_sm (u.1 5) u.2.1)) 4 (4 * (((30 * (u.1 8 0)) + (12 * (u.1 8 1))) + (u.1 8 2)))) 5 (rf_sm (rf_ww u 7) u.2.1)) 6 (rf_sm (u.1 6) u.2.1))) (i := 6) rfl (by omega) (by omega) rfl dX2_isSame_499 ?_
    refine g_top (y := rf_sm (u.1 6) u.2.1) (rfl) ?_
    refine lv_icmp_eq (tgt := 505) hx hb dX2_isSame_500 (by decide) (fun c33 => ?_) (fun c33 => absurd (rfl) c33)
    refine lv_iinc (v := nI 7) (lv' := [(7, .int (nI 7)), (6, .ref a19), (0, .ref o), (1, .ref ob), (2, .int (rf_sm (u.1 4) u.2.1)), (3, .int (rf_sm (u.1 5) u.2.1)), (4, .int (rf_sm (u.1 6) u.2.1)), (5, .ref o2)]) hx hb dX2_isSame_505 hl (k := 0) rfl (nI_1 _) (by decide) rfl (fun ls hl => ?_)
    refine lv_goto (tgt := 482) hx hb dX2_isSame_508 (by decide) ?_
    refine lv_iload hx hb dX2_isSame_482 (lv_at hl 0 rfl) ?_
    refine lv_bipush (v := 7) hx hb dX2_isSame_484 (by decide) ?_
    refine lv_icmp_ge (tgt := 511) hx hb dX2_isSame_486 (by decide) (fun c34 => ?_) (fun c34 => absurd (by decide) c34)
    refine lv_aload_n hx hb dX2_isSame_511 rfl (lv_at hl 3 rfl) ?_
    refine m_cd (wa := rs_w cI cR o z u) (wb := ra_w cI ob ad v) (wd := ((o2, .inr (2, rs_f z2 (rf_pay u))) :: (a19, .inl (cI, 7, .inl (upd (upd (upd (upd (upd (upd (upd (fun _ => 0) 0 u.2.2) 1 (nI u.2.1)) 2 (rf_sm (u.1 4) u.2.1)) 3 (rf_sm (u.1 5) u.2.1)) 4 (4 * (((30 * (u.1 8 0)) + (12 * (u.1 8 1))) + (u.1 8 2)))) 5 (rf_sm (rf_ww u 7) u.2.1)) 6 (rf_sm (u.1 6) u.2.1)))) :: hw_w cI cB h u.2.1 r2 g2)) (cells' := 33 + 2 * u.2.1 + 1) (slots' := 163 + 14 * u.2.1 + 7) rfl rfl C S.1 S.2.1 S.2.2 (fun hPb hDb => g_runV (wr := ((o2, .inr (2, rs_f z2 (rf_pay u))) :: (a19, .inl (cI, 7, .inl (upd (upd (upd (upd (upd (upd (upd (fun _ => 0) 0 u.2.2) 1 (nI u.2.1)) 2 (rf_sm (u.1 4) u.2.1)) 3 (rf_sm (u.1 5) u.2.1)) 4 (4 * (((30 * (u.1 8 0)) + (12 * (u.1 8 1))) + (u.1 8 2)))) 5 (rf_sm (rf_ww u 7) u.2.1)) 6 (rf_sm (u.1 6) u.2.1)))) :: hw_w cI cB h u.2.1 r2 g2) ++ rs_w cI cR o z u) (n := 0) (As := []) C (mX0_mean l D t cI ob ad H.size v (by rw [hE.n]; exact hu8)) (rw_V q281 q228 q229 q2 q230) kd_X0_mean ⟨Nat.le_of_ble_eq_true rfl, Nat.le_of_ble_eq_true rfl⟩ (ci := 0) rfl rfl rfl (C.2.2.2.2.2.1.sub (tys' := [(cI, .int)]) [0] rfl) hPb hDb S.2.2 hl.1 rfl rfl (Nat.le_of_ble_eq_true rfl) dX2_isSame_512 ⟨(show 33 + 2 * u.2.1 + 1 + 0 ≤ 60 by omega), (show 163 + 14 * u.2.1 + 7 + 0 ≤ 300 by omega)⟩) (fun v w' H locs hv _ hP9 hD9 hS9 => ?_)
    obtain ⟨rfl, rfl⟩ := hv
    have S : sS D A s cI cR o z u (ra_w cI ob ad v ++ ((o2, .inr (2, rs_f z2 (rf_pay u))) :: (a19, .inl (cI, 7, .inl (upd (upd (upd (upd (upd (upd (upd (fun _ => 0) 0 u.2.2) 1 (nI u.2.1)) 2 (rf_sm (u.1 4) u.2.1)) 3 (rf_sm (u.1 5) u.2.1)) 4 (4 * (((30 * (u.1 8 0)) + (12 * (u.1 8 1))) + (u.1 8 2)))) 5 (rf_sm (rf_ww u 7) u.2.1)) 6 (rf_sm (u.1 6) u.2.1)))) :: hw_w cI cB h u.2.1 r2 g2)) H locs := ⟨hP9, hD9, hS9⟩
    refine g_topd (y := rf_mn u) (e9_mn hE) ?_
    refine lv_aload_n hx hb dX2_isSame_515 rfl (lv_at hl 2 rfl) ?_
    refine s_gf C S 3 (by decide) (v := .ref (z.1 2)) rfl rfl q36 dX2_isSame_516 ?_
    refine s_an C S dX2_isSame_519 ?_
    refine lv_if_ne (tgt := 527) hx hb dX2_isSame_520 (by decide) (fun c35 => ?_) (fun c35 => absurd c35 (fun h9 => absurd ((nI_eq (a := u.2.1) (b := 0) (by omega) (by omega)).mp h9) (by omega)))
    refine lv_aload_n hx hb dX2_isSame_527 rfl (lv_at hl 2 rfl) ?_
    refine m_ci (wa := []) (wb := rs_w cI cR o z u) (wd := ra_w cI ob ad v ++ ((o2, .inr (2, rs_f z2 (rf_pay u))) :: (a19, .inl (cI, 7, .inl (upd (upd (upd (upd (upd (upd (upd (fun _ => 0) 0 u.2.2) 1 (nI u.2.1)) 2 (rf_sm (u.1 4) u.2.1)) 3 (rf_sm (u.1 5) u.2.1)) 4 (4 * (((30 * (u.1 8 0)) + (12 * (u.1 8 1))) + (u.1 8 2)))) 5 (rf_sm (rf_ww u 7) u.2.1)) 6 (rf_sm (u.1 6) u.2.1)))) :: hw_w cI cB h u.2.1 r2 g2)) (cells' := 33 + 2 * u.2.1 + 1) (slots' := 163 + 14 * u.2.1 + 7) rfl rfl C S.1 S.2.1 S.2.2 (fun hPb hDb => g_runVj (n := 0) (As := []) C (mX2_wages l D t cI cR cB o z H.size u T B) (rw_V q276 q277 q278 q29 q279) kd_X2_wages ⟨Nat.le_of_ble_eq_true rfl, Nat.le_of_ble_eq_true rfl⟩ (ci := 2) rfl rfl 0 rfl C.2.2.2.2.2.1 hPb hDb S.2.2 hl.1 rfl rfl (Nat.le_of_ble_eq_true rfl) dX2_isSame_528 ⟨(show 33 + 2 * u.2.1 + 1 + 0 ≤ 60 by omega), (show 163 + 14 * u.2.1 + 7 + 0 ≤ 300 by omega)⟩) (fun v w' H locs hv _ hP9 hD9 hS9 => ?_)
    obtain ⟨rfl, rfl⟩ := hv
    have S : sS D A s cI cR o z u (ra_w cI ob ad v ++ ((o2, .inr (2, rs_f z2 (rf_pay u))) :: (a19, .inl (cI, 7, .inl (upd (upd (upd (upd (upd (upd (upd (fun _ => 0) 0 u.2.2) 1 (nI u.2.1)) 2 (rf_sm (u.1 4) u.2.1)) 3 (rf_sm (u.1 5) u.2.1)) 4 (4 * (((30 * (u.1 8 0)) + (12 * (u.1 8 1))) + (u.1 8 2)))) 5 (rf_sm (rf_ww u 7) u.2.1)) 6 (rf_sm (u.1 6) u.2.1)))) :: hw_w cI cB h u.2.1 r2 g2)) H locs := ⟨hP9, hD9, hS9⟩
    refine lv_i2d hx hb dX2_isSame_531 ?_
    refine lv_aload_n hx hb dX2_isSame_532 rfl (lv_at hl 2 rfl) ?_
    refine s_gf C S 3 (by decide) (v := .ref (z.1 2)) rfl rfl q36 dX2_isSame_533 ?_
    refine s_an C S dX2_isSame_536 ?_
    refine lv_i2d hx hb dX2_isSame_537 ?_
    refine lv_ddiv hx hb dX2_isSame_538 (mn_nn _ (nI_ne0 (by omega) (by omega))) ?_
    refine lv_dcmp hx hb dX2_isSame_539 ?_
    refine g_top (y := 0) (is_m1 hu8 hn _) ?_
    refine lv_if_ne (tgt := 547) hx hb dX2_isSame_540 (by decide) (fun c36 => absurd (by decide) c36) (fun c36 => ?_)
    refine lv_iconst (v := 1) hx hb dX2_isSame_543 (by decide) ?_
    refine lv_goto (tgt := 548) hx hb dX2_isSame_544 (by decide) ?_
    refine W.widen (k := 60) (n := 300) (by omega) (by omega) ?_
    exact g_zret (w' := []) C hrt rfl rd_nil ⟨fun i j p q h => by simp at h, fun k q h => by simp at h⟩ S.2.2 dX2_isSame_548 rfl
