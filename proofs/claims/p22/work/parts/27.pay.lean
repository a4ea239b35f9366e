theorem i32_g (a w : Int32) : a + nI 0 * w = a := by
  rw [nI_0]
  grind
theorem i32_h (a : Int32) : a - nI 0 = a := by
  rw [nI_0]
  grind
theorem i32_i (a w : Int32) : a - nI 0 * w = a := by
  rw [nI_0]
  grind
theorem hw_qs {cI cB : ClassId} {h n : Nat} {r : Nat → Nat} {g : Nat → Nat → Int32} {q q' : Nat × va_E} : (hw_w cI cB h n r g ++ [q]).set (1 + n) q' = hw_w cI cB h n r g ++ [q'] := by
  have hl : (hw_w cI cB h n r g).length = 1 + n := by
    show ((h, _) :: fam n (hw_e cI r g)).length = _
    rw [List.length_cons, fam_len]
    omega
  rw [List.set_append_right _ _ (by omega), hl, Nat.sub_self]
  rfl
theorem st_sv {u : S0} {r : Nat} : rf_sv u r = rl_L u r - ks (rl_L u r) (u.1 8) 3 := st_rows.2.2.2.2.2.2.2.2.2.2.2.2
theorem kd_X2_pay : yX2_pay.cls = yX2_pay.cls ∧ yX2_pay.cls ≠ "java/lang/invoke/MethodHandle" ∧ yX2_pay.cls ≠ "java/lang/invoke/VarHandle" ∧ (parseMethodDescriptor yX2_pay.desc).map (fun d => d.parameters.length) = some 0 := by decide +kernel
set_option maxHeartbeats 4000000 in
set_option maxRecDepth 100000 in
theorem lpX2_payc {p : Program} {l : Launch} {e : Env} {s : State} {m : MethodId} {args : Array Value} {below : List Frame} {meth : Method} {c : Code} {Q : State → Prop} {D : va_G} {t : Nat → Nat} {A : Nat → Prop} {cI cR cB : ClassId} {o : Nat} {z : SA} {H : Heap} {locs : List Loc} {ls : Array Slot} {v : S0} {sm its : Int32} {ci rr h wq T kc nc KC NC FF LL : Nat} {r : Nat → Nat} {g : Nat → Nat → Int32} {wf : Nat → Int32} (C : gC p s m args meth c cX2_pay 8 RX2 D (ty3 cI cR cB) t A) (hz : z.2.2 = some h) (hu8 : v.2.1 ≤ 8) (hrr : rr < v.2.1) (hci : ci < 3) (hwf : wf ci = rt_RX0_COIN_WORTH ci) (hg : g rr ci = 0) (V : rV v) (hT : T ≤ 400) (R : rR T v rr) (Cc : rC T v)
    (S : sS D A s cI cR o z (sm_y v rr ci) (hw_w cI cB h v.2.1 r g ++ [(wq, .inl (cI, 3, .inl wf))]) H locs) (hl : lv_has ls 8 [(0, .ref o), (1, .int (sm + (rl_L v rr - ks (rl_L v rr) (v.1 8) ci))), (2, .int (nI rr)), (3, .ref (z.2.1 rr)), (4, .int its), (5, .int (ks (rl_L v rr) (v.1 8) ci)), (6, .ref wq), (7, .int (nI ci))]) (kk : ∀ (H : Heap) (locs : List Loc) (ls : Array Slot), sS D A s cI cR o z (sm_y v rr (ci + 1)) (hw_w cI cB h v.2.1 r (gw g rr ci (km (rl_L v rr) (v.1 8) ci)) ++ [(wq, .inl (cI, 3, .inl wf))]) H locs → lv_has ls 8 [(0, .ref o), (1, .int (sm + (rl_L v rr - ks (rl_L v rr) (v.1 8) (ci + 1)))), (2, .int (nI rr)), (3, .ref (z.2.1 rr)), (4, .int its), (5, .int (ks (rl_L v rr) (v.1 8) (ci + 1))), (6, .ref wq), (7, .int (nI ci))] → W p l e (rm_ FF KC NC LL) s m args below meth c H locs kc nc Q (F0 m 177 ls [])) : W p l e (rm_ FF KC NC LL) s m args below meth c H locs kc nc Q (F0 m 98 ls []) := by
  have hp3 : ∀ c : Nat, c < 3 → 0 ≤ (v.1 8 c).toInt := fun c hc => (Cc c hc).1
  have Lt := L_t V R hT
  have kn := ks_n Lt.2 hp3
  have hL : 0 ≤ (ks (rl_L v rr) (v.1 8) ci).toInt := by
    rcases (show ci = 0 ∨ ci = 1 ∨ ci = 2 by omega) with rfl | rfl | rfl
    · exact Lt.2
    · exact kn.1
    · exact kn.2.1
  have kt := km_t hp3 hci hL
  have e8 : (sm_y v rr ci).1 8 ci = v.1 8 ci := by rw [sm_8, if_neg (Nat.lt_irrefl ci)]
  have en : (sm_y v rr ci).2.1 = v.2.1 := congrArg Prod.fst (sm_2 ci)
  have hw := cw_b hci
  rw [← hwf] at hw kt
  have eM : ((km (rl_L v rr) (v.1 8) ci).toInt.toNat : Int) = (km (rl_L v rr) (v.1 8) ci).toInt := Int.toNat_of_nonneg kt.2.1
  have rk := tI_rng (km (rl_L v rr) (v.1 8) ci)
  have eK : nI (km (rl_L v rr) (v.1 8) ci).toInt.toNat = km (rl_L v rr) (v.1 8) ci := by
    rw [tI_eq, tI_nI (by omega), eM]
  have key := lpX2_payw (z := z) (o := o) (u := v) (y := sm_y v rr ci) (L := ks (rl_L v rr) (v.1 8) ci) (S9 := sm + (rl_L v rr - ks (rl_L v rr) (v.1 8) ci)) (its := its) (ci := ci) (rr := rr) (h := h) (wq := wq) (M := (km (rl_L v rr) (v.1 8) ci).toInt.toNat) (r := r) (g := g) (wf := wf) (kc := kc) (nc := nc) (KC := KC) (NC := NC) (FF := FF) (LL := LL) (l := l) (e := e) (Q := Q) (below := below) C hz (by rw [en]; exact hu8) (by rw [en]; exact hrr) hci hw hL (by rw [e8]; exact hp3 ci hci) (by rw [e8, eM]; exact kt.1)
  rw [eK, en] at key
  refine key (fun H locs ls S hl => ?_) _ 0 (Nat.zero_add _) _ _ _ ?_ ?_
  · rw [hwf] at S hl
    exact kk _ _ _ S (by rw [i32_b] at hl; exact hl)
  · rw [sw_0 (i32_h _) (i32_g _ _), gw_0 (by rw [nI_0]; exact hg)]
    exact S
  · rw [i32_g, i32_i]
    exact hl

set_option maxHeartbeats 4000000 in
set_option maxRecDepth 100000 in
theorem lpX2_pay {p : Program} {l : Launch} {e : Env} {s : State} {m : MethodId} {args : Array Value} {below : List Frame} {meth : Method} {c : Code} {Q : State → Prop} {D : va_G} {t : Nat → Nat} {A : Nat → Prop} {cI cR cB : ClassId} {o : Nat} {z : SA} {u : S0} {T h : Nat} {r : Nat → Nat} (C : gC p s m args meth c cX2_pay 8 RX2 D (ty3 cI cR cB) t A) (hz : z.2.2 = some h) (B0 : rB T u) (hT1 : T + 1 ≤ 400) (kk : ∀ (v : S0) (sm : Int32) (g : Nat → Nat → Int32) (H : Heap) (locs : List Loc) (ls : Array Slot), rf_py u u.2.1 = (sm, v) → (∀ k c : Nat, k < u.2.1 → c < 3 → g k c = (rf_py u (k + 1)).2.1 13 c) → (∀ k c : Nat, u.2.1 ≤ k → g k c = 0) → sS D A s cI cR o z v (hw_w cI cB h v.2.1 r g) H locs → lv_has ls 8 [(0, .ref o), (1, .int sm), (2, .int (nI u.2.1))] → W p l e (rm_ 3 17 56 67) s m args below meth c H locs (9 + u.2.1) (32 + 3 * u.2.1) Q (F0 m 210 ls [])) :
    ∀ (n i : Nat), i + n = u.2.1 → ∀ (v : S0) (sm : Int32) (g : Nat → Nat → Int32) (H : Heap) (locs : List Loc) (ls : Array Slot), rf_py u i = (sm, v) → (∀ k c : Nat, k < i → c < 3 → g k c = (rf_py u (k + 1)).2.1 13 c) → (∀ k c : Nat, i ≤ k → g k c = 0) → sS D A s cI cR o z v (hw_w cI cB h v.2.1 r g) H locs → lv_has ls 8 [(0, .ref o), (1, .int sm), (2, .int (nI i))] → W p l e (rm_ 3 17 56 67) s m args below meth c H locs (9 + i) (32 + 3 * i) Q (F0 m 18 ls []) := by
  have hx := C.1
  have hb := C.2.1
  have hown := C.2.2.2.1
  have hts := C.2.2.2.2.1
  intro n
  induction n with
  | zero =>
    intro i hi v sm g H locs ls hpy g1 g2 S hl
    have hiN : i = u.2.1 := by omega
    have en : v.2.1 = u.2.1 := by have := (pyI_py B0 i (by omega)).1; rw [hpy] at this; exact congrArg Prod.fst this
    have hv8 : v.2.1 ≤ 8 := by have := B0.1; omega
    refine lv_iload_n hx hb dX2_pay_18 rfl (lv_at hl 2 rfl) ?_
    refine lv_aload_n hx hb dX2_pay_19 rfl (lv_at hl 0 rfl) ?_
    refine s_gf C S 3 (by decide) (v := .ref (z.1 2)) rfl rfl q36 dX2_pay_20 ?_
    refine s_an C S dX2_pay_23 ?_
    refine lv_icmp_ge (tgt := 210) hx hb dX2_pay_24 (by decide) (fun c1 => ?_) (fun c1 => absurd ((nI_leI (a := v.2.1) (b := i) (by omega) (by omega)).mpr (by omega)) c1)
    rw [hiN] at hpy g1 g2 hl ⊢
    exact kk _ _ _ _ _ _ hpy g1 g2 S (lv_sub hl [0, 1, 2] rfl)
  | succ n ih =>
    intro i hi v sm g H locs ls hpy g1 g2 S hl
    have hin : i < u.2.1 := by omega
    have hIv : pyI T u i v := by have := pyI_py B0 i (by omega); rw [hpy] at this; exact this
    have en : v.2.1 = u.2.1 := congrArg Prod.fst hIv.1
    have hv8 : v.2.1 ≤ 8 := by have := B0.1; omega
    have hiv : i < v.2.1 := by omega
    have Bv : rB (T + 1) v := pyI_B B0 hT1 (by omega) hIv
    have Ri : rR (T + 1) v i := Bv.2.2.2.2.1 i (by omega)
    have B := Bv
    refine lv_iload_n hx hb dX2_pay_18 rfl (lv_at hl 2 rfl) ?_
    refine lv_aload_n hx hb dX2_pay_19 rfl (lv_at hl 0 rfl) ?_
    refine s_gf C S 3 (by decide) (v := .ref (z.1 2)) rfl rfl q36 dX2_pay_20 ?_
    refine s_an C S dX2_pay_23 ?_
    refine lv_icmp_ge (tgt := 210) hx hb dX2_pay_24 (by decide) (fun c1 => absurd c1 (fun h9 => absurd ((nI_leI (a := v.2.1) (b := i) (by omega) (by omega)).mp h9) (by omega))) (fun c1 => ?_)
    refine lv_aload_n hx hb dX2_pay_27 rfl (lv_at hl 0 rfl) ?_
    refine s_gf C S 3 (by decide) (v := .ref (z.1 2)) rfl rfl q36 dX2_pay_28 ?_
    refine lv_iload_n hx hb dX2_pay_31 rfl (lv_at hl 2 rfl) ?_
    refine s_al C S hv8 hiv rfl dX2_pay_32 ?_
    refine lv_astore_n (lv' := [(3, .ref (z.2.1 i)), (0, .ref o), (1, .int sm), (2, .int (nI i))]) hx hb dX2_pay_33 rfl hl (by decide) rfl (fun ls hl => ?_)
    refine lv_aload_n hx hb dX2_pay_34 rfl (lv_at hl 1 rfl) ?_
    refine lv_aload_n hx hb dX2_pay_35 rfl (lv_at hl 0 rfl) ?_
    refine m_ci (wa := []) (wb := rs_w cI cR o z v) (wd := hw_w cI cB h v.2.1 r g) (cells' := 9 + i) (slots' := 32 + 3 * i) rfl rfl C S.1 S.2.1 S.2.2 (fun hPb hDb => g_runVj (n := 1) (As := [.ref (z.2.1 i)]) C (mX2_back l D t cI cR cB o z H.size v (T + 1) B i hiv) (rw_V q168 q169 q170 q29 q171) kd_X2_back ⟨Nat.le_of_ble_eq_true rfl, Nat.le_of_ble_eq_true rfl⟩ (ci := 2) rfl rfl 0 rfl C.2.2.2.2.2.1 hPb hDb S.2.2 hl.1 rfl rfl (Nat.le_of_ble_eq_true rfl) dX2_pay_36 ⟨(show 9 + i + 0 ≤ 17 by omega), (show 32 + 3 * i + 0 ≤ 56 by omega)⟩) (fun v w' H locs hv _ hP9 hD9 hS9 => ?_)
    obtain ⟨rfl, rfl⟩ := hv
    have S : sS D A s cI cR o z v (hw_w cI cB h v.2.1 r g) H locs := ⟨hP9, hD9, hS9⟩
    refine lv_istore (lv' := [(4, .int (rf_tk v i)), (3, .ref (z.2.1 i)), (0, .ref o), (1, .int sm), (2, .int (nI i))]) hx hb dX2_pay_39 hl (by decide) rfl (fun ls hl => ?_)
    refine lv_aload_n hx hb dX2_pay_41 rfl (lv_at hl 1 rfl) ?_
    refine lv_aload_n hx hb dX2_pay_42 rfl (lv_at hl 2 rfl) ?_
    refine s_gf C S 1 (by decide) (v := .ref (z.1 0)) rfl rfl q33 dX2_pay_43 ?_
    refine m_ci (wa := []) (wb := rs_w cI cR o z v) (wd := hw_w cI cB h v.2.1 r g) (cells' := 9 + i) (slots' := 32 + 3 * i) rfl rfl C S.1 S.2.1 S.2.2 (fun hPb hDb => g_runVj (n := 1) (As := [.ref (z.1 0)]) C (mX1_wage l D t cI cR cB o z H.size v (T + 1) B i hiv) (rw_V q172 q173 q174 q51 q175) kd_X1_wage ⟨Nat.le_of_ble_eq_true rfl, Nat.le_of_ble_eq_true rfl⟩ (ci := 1) rfl rfl (4 + i) (rs_rp hiv) C.2.2.2.2.2.1 hPb hDb S.2.2 hl.1 rfl rfl (Nat.le_of_ble_eq_true rfl) dX2_pay_46 ⟨(show 9 + i + 0 ≤ 17 by omega), (show 32 + 3 * i + 0 ≤ 56 by omega)⟩) (fun v w' H locs hv _ hP9 hD9 hS9 => ?_)
    obtain ⟨rfl, rfl⟩ := hv
    have S : sS D A s cI cR o z v (hw_w cI cB h v.2.1 r g) H locs := ⟨hP9, hD9, hS9⟩
    refine lv_aload_n hx hb dX2_pay_49 rfl (lv_at hl 1 rfl) ?_
    refine r_gf C S 5 i (by decide) hiv (v := .int (v.1 5 i)) rfl rfl q161 dX2_pay_50 ?_
    refine lv_iadd hx hb dX2_pay_53 ?_
    refine lv_iload hx hb dX2_pay_54 (lv_at hl 0 rfl) ?_
    refine lv_isub hx hb dX2_pay_56 ?_
    refine g_top (y := rl_L v i) rfl ?_
    refine lv_istore (lv' := [(5, .int (rl_L v i)), (4, .int (rf_tk v i)), (3, .ref (z.2.1 i)), (0, .ref o), (1, .int sm), (2, .int (nI i))]) hx hb dX2_pay_57 hl (by decide) rfl (fun ls hl => ?_)
    refine lv_aload_n hx hb dX2_pay_59 rfl (lv_at hl 2 rfl) ?_
    refine lv_dup hx hb dX2_pay_60 rfl ?_
    refine r_gf C S 4 i (by decide) hiv (v := .int (v.1 4 i)) rfl rfl q162 dX2_pay_61 ?_
    refine lv_iload hx hb dX2_pay_64 (lv_at hl 1 rfl) ?_
    refine lv_isub hx hb dX2_pay_66 ?_
    refine r_pf C S 4 i (by decide) hiv rfl rfl (by decide +kernel) q162 dX2_pay_67 (fun H locs S => ?_)
    have S : sS D A s cI cR o z (sm_y v i 0) (hw_w cI cB h v.2.1 r g) H locs := S
    refine lv_iconst (v := 3) hx hb dX2_pay_70 (by decide) ?_
    refine x_new C S (N := 3) rfl (by omega) q4 (cells' := 9 + i + 1) (slots' := 32 + 3 * i + 3) rfl rfl (show 9 + i + 1 ≤ 17 by omega) (show 32 + 3 * i + 3 ≤ 56 by omega) dX2_pay_71 (fun wq H S => ?_)
    refine lv_dup hx hb dX2_pay_73 rfl ?_
    refine lv_iconst (v := 0) hx hb dX2_pay_74 (by decide) ?_
    refine lv_bipush (v := 120) hx hb dX2_pay_75 (by decide) ?_
    refine x_st C S (1 + v.2.1) (n := 3) (f := (fun _ => 0)) (i := 0) hw_q (by omega) (by decide) rfl dX2_pay_77 (fun H locs S => ?_)
    rw [hw_qs] at S
    refine lv_dup hx hb dX2_pay_78 rfl ?_
    refine lv_iconst (v := 1) hx hb dX2_pay_79 (by decide) ?_
    refine lv_bipush (v := 48) hx hb dX2_pay_80 (by decide) ?_
    refine x_st C S (1 + v.2.1) (n := 3) (f := (upd (fun _ => 0) 0 120)) (i := 1) hw_q (by omega) (by decide) rfl dX2_pay_82 (fun H locs S => ?_)
    rw [hw_qs] at S
    refine lv_dup hx hb dX2_pay_83 rfl ?_
    refine lv_iconst (v := 2) hx hb dX2_pay_84 (by decide) ?_
    refine lv_iconst (v := 4) hx hb dX2_pay_85 (by decide) ?_
    refine x_st C S (1 + v.2.1) (n := 3) (f := (upd (upd (fun _ => 0) 0 120) 1 48)) (i := 2) hw_q (by omega) (by decide) rfl dX2_pay_86 (fun H locs S => ?_)
    rw [hw_qs] at S
    refine lv_astore (lv' := [(6, .ref wq), (5, .int (rl_L v i)), (4, .int (rf_tk v i)), (3, .ref (z.2.1 i)), (0, .ref o), (1, .int sm), (2, .int (nI i))]) hx hb dX2_pay_87 hl (by decide) rfl (fun ls hl => ?_)
    obtain ⟨wf, ewf⟩ : ∃ f : Nat → Int32, f = (upd (upd (upd (fun _ => 0) 0 120) 1 48) 2 4) := ⟨_, rfl⟩
    rw [← ewf] at S
    have w0 : wf 0 = rt_RX0_COIN_WORTH 0 := by rw [ewf]; rfl
    have w1 : wf 1 = rt_RX0_COIN_WORTH 1 := by rw [ewf]; rfl
    have w2 : wf 2 = rt_RX0_COIN_WORTH 2 := by rw [ewf]; rfl
    refine lv_iconst (v := 0) hx hb dX2_pay_89 (by decide) ?_
    refine lv_istore (lv' := [(7, .int 0), (6, .ref wq), (5, .int (rl_L v i)), (4, .int (rf_tk v i)), (3, .ref (z.2.1 i)), (0, .ref o), (1, .int sm), (2, .int (nI i))]) hx hb dX2_pay_90 hl (by decide) rfl (fun ls hl => ?_)
    refine lv_iload hx hb dX2_pay_92 (lv_at hl 0 rfl) ?_
    refine lv_iconst (v := 3) hx hb dX2_pay_94 (by decide) ?_
    refine lv_icmp_ge (tgt := 183) hx hb dX2_pay_95 (by decide) (fun c2 => absurd c2 (by decide)) (fun c2 => ?_)
    have hl : lv_has ls 8 [(0, .ref o), (1, .int (sm + (rl_L v i - ks (rl_L v i) (v.1 8) 0))), (2, .int (nI i)), (3, .ref (z.2.1 i)), (4, .int (rf_tk v i)), (5, .int (ks (rl_L v i) (v.1 8) 0)), (6, .ref wq), (7, .int (nI 0))] := by have h9 : lv_has ls 8 [(0, .ref o), (1, .int sm), (2, .int (nI i)), (3, .ref (z.2.1 i)), (4, .int (rf_tk v i)), (5, .int (rl_L v i)), (6, .ref wq), (7, .int (nI 0))] := lv_sub hl [5, 6, 7, 4, 3, 2, 1, 0] rfl; rw [i32_c sm (rl_L v i)] at h9; exact h9
    refine lpX2_payc (v := v) (sm := sm) (its := rf_tk v i) (ci := 0) (rr := i) (h := h) (wq := wq) (T := T + 1) (r := r) (g := g) (wf := wf) C hz hv8 hiv (by decide) w0 (by skip; exact g2 i 0 (Nat.le_refl i)) Bv.2.2.1 hT1 Ri Bv.2.2.2.1 S hl (fun H locs ls S hl => ?_)
    refine lv_iinc (v := nI 1) (lv' := [(7, .int (nI 1)), (0, .ref o), (1, .int (sm + (rl_L v i - ks (rl_L v i) (v.1 8) 1))), (2, .int (nI i)), (3, .ref (z.2.1 i)), (4, .int (rf_tk v i)), (5, .int (ks (rl_L v i) (v.1 8) 1)), (6, .ref wq)]) hx hb dX2_pay_177 hl (k := 7) rfl (nI_1 _) (by decide) rfl (fun ls hl => ?_)
    refine lv_goto (tgt := 92) hx hb dX2_pay_180 (by decide) ?_
    refine lv_iload hx hb dX2_pay_92 (lv_at hl 0 rfl) ?_
    refine lv_iconst (v := 3) hx hb dX2_pay_94 (by decide) ?_
    refine lv_icmp_ge (tgt := 183) hx hb dX2_pay_95 (by decide) (fun c3 => absurd c3 (by decide)) (fun c3 => ?_)
    have hl : lv_has ls 8 [(0, .ref o), (1, .int (sm + (rl_L v i - ks (rl_L v i) (v.1 8) 1))), (2, .int (nI i)), (3, .ref (z.2.1 i)), (4, .int (rf_tk v i)), (5, .int (ks (rl_L v i) (v.1 8) 1)), (6, .ref wq), (7, .int (nI 1))] := lv_sub hl [1, 2, 3, 4, 5, 6, 7, 0] rfl
    refine lpX2_payc (v := v) (sm := sm) (its := rf_tk v i) (ci := 1) (rr := i) (h := h) (wq := wq) (T := T + 1) (r := r) (g := (gw g i 0 (km (rl_L v i) (v.1 8) 0))) (wf := wf) C hz hv8 hiv (by decide) w1 (by rw [gw_v, if_neg (fun h9 => absurd h9.2 (by decide))]; exact g2 i 1 (Nat.le_refl i)) Bv.2.2.1 hT1 Ri Bv.2.2.2.1 S hl (fun H locs ls S hl => ?_)
    refine lv_iinc (v := nI 2) (lv' := [(7, .int (nI 2)), (0, .ref o), (1, .int (sm + (rl_L v i - ks (rl_L v i) (v.1 8) 2))), (2, .int (nI i)), (3, .ref (z.2.1 i)), (4, .int (rf_tk v i)), (5, .int (ks (rl_L v i) (v.1 8) 2)), (6, .ref wq)]) hx hb dX2_pay_177 hl (k := 7) rfl (nI_1 _) (by decide) rfl (fun ls hl => ?_)
    refine lv_goto (tgt := 92) hx hb dX2_pay_180 (by decide) ?_
    refine lv_iload hx hb dX2_pay_92 (lv_at hl 0 rfl) ?_
    refine lv_iconst (v := 3) hx hb dX2_pay_94 (by decide) ?_
    refine lv_icmp_ge (tgt := 183) hx hb dX2_pay_95 (by decide) (fun c4 => absurd c4 (by decide)) (fun c4 => ?_)
    have hl : lv_has ls 8 [(0, .ref o), (1, .int (sm + (rl_L v i - ks (rl_L v i) (v.1 8) 2))), (2, .int (nI i)), (3, .ref (z.2.1 i)), (4, .int (rf_tk v i)), (5, .int (ks (rl_L v i) (v.1 8) 2)), (6, .ref wq), (7, .int (nI 2))] := lv_sub hl [1, 2, 3, 4, 5, 6, 7, 0] rfl
    refine lpX2_payc (v := v) (sm := sm) (its := rf_tk v i) (ci := 2) (rr := i) (h := h) (wq := wq) (T := T + 1) (r := r) (g := (gw (gw g i 0 (km (rl_L v i) (v.1 8) 0)) i 1 (km (rl_L v i) (v.1 8) 1))) (wf := wf) C hz hv8 hiv (by decide) w2 (by rw [gw_v, if_neg (fun h9 => absurd h9.2 (by decide)), gw_v, if_neg (fun h9 => absurd h9.2 (by decide))]; exact g2 i 2 (Nat.le_refl i)) Bv.2.2.1 hT1 Ri Bv.2.2.2.1 S hl (fun H locs ls S hl => ?_)
    refine lv_iinc (v := nI 3) (lv' := [(7, .int (nI 3)), (0, .ref o), (1, .int (sm + (rl_L v i - ks (rl_L v i) (v.1 8) 3))), (2, .int (nI i)), (3, .ref (z.2.1 i)), (4, .int (rf_tk v i)), (5, .int (ks (rl_L v i) (v.1 8) 3)), (6, .ref wq)]) hx hb dX2_pay_177 hl (k := 7) rfl (nI_1 _) (by decide) rfl (fun ls hl => ?_)
    refine lv_goto (tgt := 92) hx hb dX2_pay_180 (by decide) ?_
    refine lv_iload hx hb dX2_pay_92 (lv_at hl 0 rfl) ?_
    refine lv_iconst (v := 3) hx hb dX2_pay_94 (by decide) ?_
    refine lv_icmp_ge (tgt := 183) hx hb dX2_pay_95 (by decide) (fun c5 => ?_) (fun c5 => absurd (by decide) c5)
    refine lv_aload_n hx hb dX2_pay_183 rfl (lv_at hl 4 rfl) ?_
    refine lv_iload hx hb dX2_pay_184 (lv_at hl 6 rfl) ?_
    refine r_pf C S 5 i (by decide) hiv rfl rfl (by decide +kernel) q161 dX2_pay_186 (fun H locs S => ?_)
    refine lv_aload_n hx hb dX2_pay_189 rfl (lv_at hl 4 rfl) ?_
    refine lv_iconst (v := 0) hx hb dX2_pay_190 (by decide) ?_
    refine r_pf C S 1 i (by decide) hiv rfl rfl (by decide +kernel) q164 dX2_pay_191 (fun H locs S => ?_)
    refine lv_aload_n hx hb dX2_pay_194 rfl (lv_at hl 4 rfl) ?_
    refine lv_iconst (v := 0) hx hb dX2_pay_195 (by decide) ?_
    refine r_pf C S 2 i (by decide) hiv rfl rfl (by decide +kernel) q165 dX2_pay_196 (fun H locs S => ?_)
    refine lv_aload_n hx hb dX2_pay_199 rfl (lv_at hl 4 rfl) ?_
    refine lv_iconst (v := 0) hx hb dX2_pay_200 (by decide) ?_
    refine r_pf C S 3 i (by decide) hiv rfl rfl (by decide +kernel) q166 dX2_pay_201 (fun H locs S => ?_)
    have S : sS D A s cI cR o z (sm_st v i (sm_y v i 3) (ks (rl_L v i) (v.1 8) 3)) (hw_w cI cB h v.2.1 r (gw (gw (gw g i 0 (km (rl_L v i) (v.1 8) 0)) i 1 (km (rl_L v i) (v.1 8) 1)) i 2 (km (rl_L v i) (v.1 8) 2)) ++ [(wq, .inl (cI, 3, .inl wf))]) H locs := S
    have S := (S.E sm_sim).drop
    refine lv_iinc (v := nI (i + 1)) (lv' := [(2, .int (nI (i + 1))), (7, .int (nI 3)), (0, .ref o), (1, .int (sm + (rl_L v i - ks (rl_L v i) (v.1 8) 3))), (3, .ref (z.2.1 i)), (4, .int (rf_tk v i)), (5, .int (ks (rl_L v i) (v.1 8) 3)), (6, .ref wq)]) hx hb dX2_pay_204 hl (k := 3) rfl (nI_1 _) (by decide) rfl (fun ls hl => ?_)
    refine lv_goto (tgt := 18) hx hb dX2_pay_207 (by decide) ?_
    refine W.widen (k := 9 + (i + 1)) (n := 32 + 3 * (i + 1)) (by omega) (by omega) ?_
    have epy : rf_py u (i + 1) = (sm + (rl_L v i - ks (rl_L v i) (v.1 8) 3), rf_st v i) := by
      show ((rf_py u i).1 + rf_sv (rf_py u i).2 i, rf_st (rf_py u i).2 i) = _
      rw [hpy, st_sv]
    refine ih (i + 1) (by omega) (rf_st v i) _ _ _ _ _ epy (fun k c hk hc => ?_) (fun k c hk => ?_) S (lv_sub hl [2, 3, 0] rfl)
    · by_cases ek : k = i
      · subst ek
        rw [epy]
        show _ = (rf_st v k).1 13 c
        rw [st_rows.2.2.1 c, if_pos hc]
        rcases (show c = 0 ∨ c = 1 ∨ c = 2 by omega) with rfl | rfl | rfl
        · rw [gw_v, if_neg (fun h9 => absurd h9.2 (by decide)), gw_v, if_neg (fun h9 => absurd h9.2 (by decide)), gw_s]
        · rw [gw_v, if_neg (fun h9 => absurd h9.2 (by decide)), gw_s]
        · rw [gw_s]
      · rw [gw_v, if_neg (fun h9 => ek h9.1), gw_v, if_neg (fun h9 => ek h9.1), gw_v, if_neg (fun h9 => ek h9.1)]
        exact g1 k c (by omega) hc
    · rw [gw_v, if_neg (fun h9 => absurd h9.1 (by omega)), gw_v, if_neg (fun h9 => absurd h9.1 (by omega)), gw_v, if_neg (fun h9 => absurd h9.1 (by omega))]
      exact g2 k c (by omega)
set_option maxHeartbeats 4000000 in
set_option maxRecDepth 100000 in
theorem mX2_pay (l : Launch) (D : va_G) (t : Nat → Nat) (cI cR cB : ClassId) (o : Nat) (z : SA) (sz : Nat) (u : S0) (T : Nat) (B : rB T u) (hT1 : T + 1 ≤ 400) : gMi l yX2_pay (rw_ yX2_pay cX2_pay 8 (some .int)) (rm_ 3 17 56 67) [.ref o] D (ty3 cI cR cB) t (rs_w cI cR o z u) sz (fun x w' => x = (rf_py u u.2.1).1 ∧ ∃ (h : Nat) (r : Nat → Nat) (g : Nat → Nat → Int32), (∀ k c : Nat, k < u.2.1 → c < 3 → g k c = (rf_py u (k + 1)).2.1 13 c) ∧ w' = rs_w cI cR o (z.1, z.2.1, some h) (rf_pay u) ++ hw_w cI cB h u.2.1 r g) := by
  refine g_of (cc := cX2_pay) (nL := 8) (rt := (some .int)) (Q := fun A => va_Qi _ (fun w' U => gQ D A w' U) A) (by decide) (Nat.le_of_ble_eq_true rfl) (fun p e s m args below meth c A ls H C hrt hnm hS hP hD hl => ?_)
  have hx := C.1
  have hb := C.2.1
  have hown := C.2.2.2.1
  have hts := C.2.2.2.2.1
  have hl : lv_has ls 8 [(0, .ref o)] := hl
  have S : sS D A s cI cR o z u [] H [] := ⟨by rw [List.append_nil]; exact hP, by rw [List.append_nil]; exact hD, hS⟩
  obtain ⟨locs, elocs⟩ : ∃ z : List Loc, z = [] := ⟨_, rfl⟩
  rw [← elocs] at S ⊢
  refine lv_iconst (v := 0) hx hb dX2_pay_0 (by decide) ?_
  refine lv_istore_n (lv' := [(1, .int 0), (0, .ref o)]) hx hb dX2_pay_1 rfl hl (by decide) rfl (fun ls hl => ?_)
  refine lv_aload_n hx hb dX2_pay_2 rfl (lv_at hl 1 rfl) ?_
  refine lv_aload_n hx hb dX2_pay_3 rfl (lv_at hl 1 rfl) ?_
  refine s_gf C S 3 (by decide) (v := .ref (z.1 2)) rfl rfl q36 dX2_pay_4 ?_
  refine s_an C S dX2_pay_7 ?_
  refine lv_iconst (v := 3) hx hb dX2_pay_8 (by decide) ?_
  refine x_mna C S (N := u.2.1) rfl (by have := B.1; omega) q159 (C.2.2.2.2.2.2.2.1.2.2.2.2.2.2.2.2.2.2.1) (cells' := 0 + (1 + u.2.1)) (slots' := 0 + (u.2.1 + u.2.1 * 3)) rfl rfl (show 0 + (1 + u.2.1) ≤ 17 by have := B.1; omega) (show 0 + (u.2.1 + u.2.1 * 3) ≤ 56 by have := B.1; omega) dX2_pay_9 (fun h r H locs S => ?_)
  refine s_pz C S q160 dX2_pay_13 (fun H locs S => ?_)
  refine lv_iconst (v := 0) hx hb dX2_pay_16 (by decide) ?_
  refine lv_istore_n (lv' := [(2, .int 0), (1, .int 0), (0, .ref o)]) hx hb dX2_pay_17 rfl hl (by decide) rfl (fun ls hl => ?_)
  refine W.widen (k := 9 + 0) (n := 32 + 3 * 0) (by have := B.1; omega) (by have := B.1; omega) ?_
  rw [List.nil_append] at S
  refine lpX2_pay (z := (z.1, z.2.1, some h)) C rfl B hT1 (fun v sm g H locs ls hpy g1 g2 S hl => ?_) u.2.1 0 (by omega) u 0 (fun _ _ => 0) _ _ _ rfl (fun k c hk => absurd hk (Nat.not_lt_zero k)) (fun _ _ _ => rfl) S (lv_sub hl [2, 1, 0] rfl)
  have epv : (rf_py u u.2.1).2 = v := by rw [hpy]
  have eps : (rf_py u u.2.1).1 = sm := by rw [hpy]
  have en : v.2 = u.2 := by rw [← epv]; exact (pyI_py B u.2.1 (Nat.le_refl _)).1
  refine W.widen (k := 17) (n := 56) (by have := B.1; omega) (by have := B.1; omega) ?_
  refine lv_aload_n hx hb dX2_pay_210 rfl (lv_at hl 0 rfl) ?_
  refine lv_dup hx hb dX2_pay_211 rfl ?_
  refine s_gf C S 0 (by decide) (v := .int v.2.2) rfl rfl q167 dX2_pay_212 ?_
  refine lv_iconst (v := 1) hx hb dX2_pay_215 (by decide) ?_
  refine lv_iadd hx hb dX2_pay_216 ?_
  refine s_pw C S q167 dX2_pay_217 (fun H locs S => ?_)
  refine lv_iload_n hx hb dX2_pay_220 rfl (lv_at hl 1 rfl) ?_
  exact g_iret C hrt S.1 S.2.1 S.2.2 dX2_pay_221 ⟨eps.symm, h, r, g, g1, by unfold rf_pay; rw [epv, ← en]⟩
