theorem hw_s0 {cI cB : ClassId} {h n : Nat} {r : Nat → Nat} {g : Nat → Nat → Int32} {k i : Nat} {x : Int32} (hk : k < n) : (hw_w cI cB h n r g).set (1 + k) (r k, .inl (cI, 3, .inl (upd (g k) i x))) = hw_w cI cB h n r (va_up g k (upd (g k) i x)) := by
  have := hw_s (Y := []) (cI := cI) (cB := cB) (h := h) (r := r) (g := g) (i := i) (x := x) hk
  rwa [List.append_nil, List.append_nil] at this
theorem up_1 {f : Nat → Int32} {i : Nat} {F : Nat → Int32} (h : ∀ k : Nat, k < i → f k = F k) : ∀ k : Nat, k < i + 1 → (upd f i (F i)) k = F k := by
  intro k hk
  unfold upd
  by_cases e : k = i
  · subst e
    simp
  · simp only [e, if_false]
    exact h k (by omega)
theorem up_3 {g : Nat → Nat → Int32} {i : Nat} {F : Nat → Nat → Int32} (h : ∀ k c : Nat, k < i → c < 3 → g k c = F k c) : ∀ k c : Nat, k < i + 1 → c < 3 → (gw (gw (gw g i 0 (F i 0)) i 1 (F i 1)) i 2 (F i 2)) k c = F k c := by
  intro k c hk hc
  by_cases e : k = i
  · subst e
    rcases (show c = 0 ∨ c = 1 ∨ c = 2 by omega) with rfl | rfl | rfl
    · rw [gw_v, if_neg (fun h9 => absurd h9.2 (by decide)), gw_v, if_neg (fun h9 => absurd h9.2 (by decide)), gw_s]
    · rw [gw_v, if_neg (fun h9 => absurd h9.2 (by decide)), gw_s]
    · rw [gw_s]
  · rw [gw_v, if_neg (fun h9 => e h9.1), gw_v, if_neg (fun h9 => e h9.1), gw_v, if_neg (fun h9 => e h9.1)]
    exact h k c (by omega) hc
set_option maxHeartbeats 4000000 in
set_option maxRecDepth 100000 in
theorem lpL_r1 {p : Program} {l : Launch} {e : Env} {s : State} {m : MethodId} {args : Array Value} {below : List Frame} {meth : Method} {c : Code} {Q : State → Prop} {D : va_G} {t : Nat → Nat} {A : Nat → Prop} {cI cR cB : ClassId} {o ob T ti h6 a7 a8 a9 a10 kc nc : Nat} {r6 : Nat → Nat} {ad : Nat → Nat} {z : SA} {u : S0} (C : gC p s m args meth c code 23 RL D (ty3 cI cR cB) t A) (B : rB T u) (hkc : kc ≤ 700000) (hnc : nc ≤ 6900000) (kk : ∀ (v : S0) (f7 f8 f9 f10 : Nat → Int32) (g : Nat → Nat → Int32) (H : Heap) (locs : List Loc) (ls : Array Slot), E9 u v → (∀ k : Nat, k < u.2.1 → f7 k = u.1 4 k) → (∀ k : Nat, k < u.2.1 → f8 k = rf_tk u k) → (∀ k : Nat, k < u.2.1 → f9 k = rf_cm u k) → (∀ k : Nat, k < u.2.1 → f10 k = u.1 6 k) → (∀ k c : Nat, k < u.2.1 → c < 3 → g k c = km (rl_L u k) (pu u k) c) → sS D A s cI cR o z u (ra_w cI ob ad v ++ ((a7, .inl (cI, u.2.1, .inl (f7))) :: (a8, .inl (cI, u.2.1, .inl (f8))) :: (a9, .inl (cI, u.2.1, .inl (f9))) :: (a10, .inl (cI, u.2.1, .inl (f10))) :: hw_w cI cB h6 u.2.1 r6 g)) H locs → lv_has ls 23 [(0, .ref (t 9)), (1, .ref ob), (2, .ref o), (3, .int (nI ti)), (5, .int (nI u.2.1)), (6, .ref h6), (7, .ref a7), (8, .ref a8), (9, .ref a9), (10, .ref a10), (11, .int (rf_sm (rf_ww u 7) u.2.1)), (12, .int (nI u.2.1))] → W p l e room_1 s m args below meth c H locs kc nc Q (F0 m 458 ls [])) :
    ∀ (n i : Nat), i + n = u.2.1 → ∀ (v : S0) (f7 f8 f9 f10 : Nat → Int32) (g : Nat → Nat → Int32) (H : Heap) (locs : List Loc) (ls : Array Slot), E9 u v → (∀ k : Nat, k < i → f7 k = u.1 4 k) → (∀ k : Nat, k < i → f8 k = rf_tk u k) → (∀ k : Nat, k < i → f9 k = rf_cm u k) → (∀ k : Nat, k < i → f10 k = u.1 6 k) → (∀ k c : Nat, k < i → c < 3 → g k c = km (rl_L u k) (pu u k) c) → sS D A s cI cR o z u (ra_w cI ob ad v ++ ((a7, .inl (cI, u.2.1, .inl (f7))) :: (a8, .inl (cI, u.2.1, .inl (f8))) :: (a9, .inl (cI, u.2.1, .inl (f9))) :: (a10, .inl (cI, u.2.1, .inl (f10))) :: hw_w cI cB h6 u.2.1 r6 g)) H locs → lv_has ls 23 [(0, .ref (t 9)), (1, .ref ob), (2, .ref o), (3, .int (nI ti)), (5, .int (nI u.2.1)), (6, .ref h6), (7, .ref a7), (8, .ref a8), (9, .ref a9), (10, .ref a10), (11, .int (rf_sm (rf_ww u 7) i)), (12, .int (nI i))] → W p l e room_1 s m args below meth c H locs kc nc Q (F0 m 136 ls []) := by
  have hx := C.1
  have hb := C.2.1
  have hown := C.2.2.2.1
  have hts := C.2.2.2.2.1
  have hu8 : u.2.1 ≤ 8 := B.1
  intro n
  induction n with
  | zero =>
    intro i hi v f7 f8 f9 f10 g H locs ls hE h7 h8 h9 h10 hg S hl
    have hiN : i = u.2.1 := by omega
    refine lv_iload hx hb dL_law_136 (lv_at hl 11 rfl) ?_
    refine lv_iload hx hb dL_law_138 (lv_at hl 4 rfl) ?_
    refine lv_icmp_ge (tgt := 458) hx hb dL_law_140 (by decide) (fun c1 => ?_) (fun c1 => absurd ((nI_leI (a := u.2.1) (b := i) (by omega) (by omega)).mpr (by omega)) c1)
    rw [hiN] at h7 h8 h9 h10 hg hl
    exact kk _ _ _ _ _ _ _ _ _ hE h7 h8 h9 h10 hg S (lv_sub hl [0, 1, 2, 3, 4, 5, 6, 7, 8, 9, 10, 11] rfl)
  | succ n ih =>
    intro i hi v f7 f8 f9 f10 g H locs ls hE h7 h8 h9 h10 hg S hl
    have hin : i < u.2.1 := by omega
    have hb2 : ∀ (v : S0) (H : Heap) (locs : List Loc) (ls : Array Slot), E9 u v → sS D A s cI cR o z u (ra_w cI ob ad v ++ ((a7, .inl (cI, u.2.1, .inl (upd f7 i (u.1 4 i)))) :: (a8, .inl (cI, u.2.1, .inl (upd f8 i (rf_tk u i)))) :: (a9, .inl (cI, u.2.1, .inl (upd f9 i (rf_cm u i)))) :: (a10, .inl (cI, u.2.1, .inl (upd f10 i (u.1 6 i)))) :: hw_w cI cB h6 u.2.1 r6 (gw (gw (gw g i 0 (km (rl_L u i) (pu u i) 0)) i 1 (km (rl_L u i) (pu u i) 1)) i 2 (km (rl_L u i) (pu u i) 2)))) H locs → lv_has ls 23 [(0, .ref (t 9)), (1, .ref ob), (2, .ref o), (3, .int (nI ti)), (5, .int (nI u.2.1)), (6, .ref h6), (7, .ref a7), (8, .ref a8), (9, .ref a9), (10, .ref a10), (12, .int (nI i)), (11, .int (rf_sm (rf_ww u 7) i + rf_ww u 7 i)), (13, .int (rf_ww u 7 i))] → W p l e room_1 s m args below meth c H locs kc nc Q (F0 m 328 ls []) := by
      intro v H locs ls hE S hl
      refine lv_aload hx hb dL_law_328 (lv_at hl 8 rfl) ?_
      refine lv_iload hx hb dL_law_330 (lv_at hl 10 rfl) ?_
      refine x_ld C S 15 (n := u.2.1) (f := (upd f9 i (rf_cm u i))) (i := i) rfl (by omega) hin rfl dL_law_332 ?_
      refine g_top (y := rf_cm u i) (if_pos rfl) ?_
      refine lv_iload hx hb dL_law_333 (lv_at hl 12 rfl) ?_
      refine lv_aload_n hx hb dL_law_335 rfl (lv_at hl 1 rfl) ?_
      refine lv_iload hx hb dL_law_336 (lv_at hl 10 rfl) ?_
      refine lv_iconst (v := 5) hx hb dL_law_338 (by decide) ?_
      refine m_ci (wa := rs_w cI cR o z u) (wb := ra_w cI ob ad v) (wd := ((a7, .inl (cI, u.2.1, .inl (upd f7 i (u.1 4 i)))) :: (a8, .inl (cI, u.2.1, .inl (upd f8 i (rf_tk u i)))) :: (a9, .inl (cI, u.2.1, .inl (upd f9 i (rf_cm u i)))) :: (a10, .inl (cI, u.2.1, .inl (upd f10 i (u.1 6 i)))) :: hw_w cI cB h6 u.2.1 r6 (gw (gw (gw g i 0 (km (rl_L u i) (pu u i) 0)) i 1 (km (rl_L u i) (pu u i) 1)) i 2 (km (rl_L u i) (pu u i) 2)))) (cells' := kc) (slots' := nc) rfl rfl C S.1 S.2.1 S.2.2 (fun hPb hDb => g_runV (wr := ((a7, .inl (cI, u.2.1, .inl (upd f7 i (u.1 4 i)))) :: (a8, .inl (cI, u.2.1, .inl (upd f8 i (rf_tk u i)))) :: (a9, .inl (cI, u.2.1, .inl (upd f9 i (rf_cm u i)))) :: (a10, .inl (cI, u.2.1, .inl (upd f10 i (u.1 6 i)))) :: hw_w cI cB h6 u.2.1 r6 (gw (gw (gw g i 0 (km (rl_L u i) (pu u i) 0)) i 1 (km (rl_L u i) (pu u i) 1)) i 2 (km (rl_L u i) (pu u i) 2))) ++ rs_w cI cR o z u) (n := 2) (As := [.int (nI i), .int 5]) C (mX0_told l D t cI ob ad H.size v (by rw [hE.n]; exact hu8) i (by rw [hE.n]; exact hin) 5 (by decide)) (rw_V q219 q220 q221 q2 q222) kd_X0_told ⟨Nat.le_of_ble_eq_true rfl, Nat.le_of_ble_eq_true rfl⟩ (ci := 0) rfl rfl rfl (C.2.2.2.2.2.1.sub (tys' := [(cI, .int)]) [0] rfl) hPb hDb S.2.2 hl.1 rfl rfl (Nat.le_of_ble_eq_true rfl) dL_law_339 ⟨(show kc + 0 ≤ 728402 by omega), (show nc + 0 ≤ 6916263 by omega)⟩) (fun v w' H locs hv _ hP9 hD9 hS9 => ?_)
      obtain ⟨rfl, rfl⟩ := hv
      have S : sS D A s cI cR o z u (ra_w cI ob ad v ++ ((a7, .inl (cI, u.2.1, .inl (upd f7 i (u.1 4 i)))) :: (a8, .inl (cI, u.2.1, .inl (upd f8 i (rf_tk u i)))) :: (a9, .inl (cI, u.2.1, .inl (upd f9 i (rf_cm u i)))) :: (a10, .inl (cI, u.2.1, .inl (upd f10 i (u.1 6 i)))) :: hw_w cI cB h6 u.2.1 r6 (gw (gw (gw g i 0 (km (rl_L u i) (pu u i) 0)) i 1 (km (rl_L u i) (pu u i) 1)) i 2 (km (rl_L u i) (pu u i) 2)))) H locs := ⟨hP9, hD9, hS9⟩
      refine g_top (y := u.1 5 i) (e9_told hE i (by decide)) ?_
      refine lv_iadd hx hb dL_law_342 ?_
      refine lv_icmp_ne (tgt := 401) hx hb dL_law_343 (by decide) (fun c1 => absurd rfl c1) (fun c1 => ?_)
      refine lv_aload hx hb dL_law_346 (lv_at hl 7 rfl) ?_
      refine lv_iload hx hb dL_law_348 (lv_at hl 10 rfl) ?_
      refine x_ld C S 14 (n := u.2.1) (f := (upd f8 i (rf_tk u i))) (i := i) rfl (by omega) hin rfl dL_law_350 ?_
      refine g_top (y := rf_tk u i) (if_pos rfl) ?_
      refine lv_if_lt (tgt := 401) hx hb dL_law_351 (by decide) (fun c2 => absurd c2 (pb_tk B hin).1) (fun c2 => ?_)
      refine lv_aload hx hb dL_law_354 (lv_at hl 7 rfl) ?_
      refine lv_iload hx hb dL_law_356 (lv_at hl 10 rfl) ?_
      refine x_ld C S 14 (n := u.2.1) (f := (upd f8 i (rf_tk u i))) (i := i) rfl (by omega) hin rfl dL_law_358 ?_
      refine g_top (y := rf_tk u i) (if_pos rfl) ?_
      refine lv_aload hx hb dL_law_359 (lv_at hl 6 rfl) ?_
      refine lv_iload hx hb dL_law_361 (lv_at hl 10 rfl) ?_
      refine x_ld C S 13 (n := u.2.1) (f := (upd f7 i (u.1 4 i))) (i := i) rfl (by omega) hin rfl dL_law_363 ?_
      refine g_top (y := u.1 4 i) (if_pos rfl) ?_
      refine lv_icmp_gt (tgt := 401) hx hb dL_law_364 (by decide) (fun c3 => absurd c3 (pb_tk B hin).2.1) (fun c3 => ?_)
      refine lv_aload hx hb dL_law_367 (lv_at hl 7 rfl) ?_
      refine lv_iload hx hb dL_law_369 (lv_at hl 10 rfl) ?_
      refine x_ld C S 14 (n := u.2.1) (f := (upd f8 i (rf_tk u i))) (i := i) rfl (by omega) hin rfl dL_law_371 ?_
      refine g_top (y := rf_tk u i) (if_pos rfl) ?_
      refine lv_aload hx hb dL_law_372 (lv_at hl 8 rfl) ?_
      refine lv_iload hx hb dL_law_374 (lv_at hl 10 rfl) ?_
      refine x_ld C S 15 (n := u.2.1) (f := (upd f9 i (rf_cm u i))) (i := i) rfl (by omega) hin rfl dL_law_376 ?_
      refine g_top (y := rf_cm u i) (if_pos rfl) ?_
      refine lv_icmp_gt (tgt := 401) hx hb dL_law_377 (by decide) (fun c4 => absurd c4 (pb_tk B hin).2.2) (fun c4 => ?_)
      refine lv_aload_n hx hb dL_law_380 rfl (lv_at hl 1 rfl) ?_
      refine lv_iload hx hb dL_law_381 (lv_at hl 10 rfl) ?_
      refine lv_iconst (v := 5) hx hb dL_law_383 (by decide) ?_
      refine m_ci (wa := rs_w cI cR o z u) (wb := ra_w cI ob ad v) (wd := ((a7, .inl (cI, u.2.1, .inl (upd f7 i (u.1 4 i)))) :: (a8, .inl (cI, u.2.1, .inl (upd f8 i (rf_tk u i)))) :: (a9, .inl (cI, u.2.1, .inl (upd f9 i (rf_cm u i)))) :: (a10, .inl (cI, u.2.1, .inl (upd f10 i (u.1 6 i)))) :: hw_w cI cB h6 u.2.1 r6 (gw (gw (gw g i 0 (km (rl_L u i) (pu u i) 0)) i 1 (km (rl_L u i) (pu u i) 1)) i 2 (km (rl_L u i) (pu u i) 2)))) (cells' := kc) (slots' := nc) rfl rfl C S.1 S.2.1 S.2.2 (fun hPb hDb => g_runV (wr := ((a7, .inl (cI, u.2.1, .inl (upd f7 i (u.1 4 i)))) :: (a8, .inl (cI, u.2.1, .inl (upd f8 i (rf_tk u i)))) :: (a9, .inl (cI, u.2.1, .inl (upd f9 i (rf_cm u i)))) :: (a10, .inl (cI, u.2.1, .inl (upd f10 i (u.1 6 i)))) :: hw_w cI cB h6 u.2.1 r6 (gw (gw (gw g i 0 (km (rl_L u i) (pu u i) 0)) i 1 (km (rl_L u i) (pu u i) 1)) i 2 (km (rl_L u i) (pu u i) 2))) ++ rs_w cI cR o z u) (n := 2) (As := [.int (nI i), .int 5]) C (mX0_wage l D t cI ob ad H.size v (by rw [hE.n]; exact hu8) i (by rw [hE.n]; exact hin) 5 (by decide)) (rw_V q223 q224 q225 q2 q226) kd_X0_wage ⟨Nat.le_of_ble_eq_true rfl, Nat.le_of_ble_eq_true rfl⟩ (ci := 0) rfl rfl rfl (C.2.2.2.2.2.1.sub (tys' := [(cI, .int)]) [0] rfl) hPb hDb S.2.2 hl.1 rfl rfl (Nat.le_of_ble_eq_true rfl) dL_law_384 ⟨(show kc + 0 ≤ 728402 by omega), (show nc + 0 ≤ 6916263 by omega)⟩) (fun v w' H locs hv _ hP9 hD9 hS9 => ?_)
      obtain ⟨rfl, rfl⟩ := hv
      have S : sS D A s cI cR o z u (ra_w cI ob ad v ++ ((a7, .inl (cI, u.2.1, .inl (upd f7 i (u.1 4 i)))) :: (a8, .inl (cI, u.2.1, .inl (upd f8 i (rf_tk u i)))) :: (a9, .inl (cI, u.2.1, .inl (upd f9 i (rf_cm u i)))) :: (a10, .inl (cI, u.2.1, .inl (upd f10 i (u.1 6 i)))) :: hw_w cI cB h6 u.2.1 r6 (gw (gw (gw g i 0 (km (rl_L u i) (pu u i) 0)) i 1 (km (rl_L u i) (pu u i) 1)) i 2 (km (rl_L u i) (pu u i) 2)))) H locs := ⟨hP9, hD9, hS9⟩
      refine g_top (y := rl_L u i) (e9_w5 hE i) ?_
      refine lv_aload hx hb dL_law_387 (lv_at hl 8 rfl) ?_
      refine lv_iload hx hb dL_law_389 (lv_at hl 10 rfl) ?_
      refine x_ld C S 15 (n := u.2.1) (f := (upd f9 i (rf_cm u i))) (i := i) rfl (by omega) hin rfl dL_law_391 ?_
      refine g_top (y := rf_cm u i) (if_pos rfl) ?_
      refine lv_aload hx hb dL_law_392 (lv_at hl 7 rfl) ?_
      refine lv_iload hx hb dL_law_394 (lv_at hl 10 rfl) ?_
      refine x_ld C S 14 (n := u.2.1) (f := (upd f8 i (rf_tk u i))) (i := i) rfl (by omega) hin rfl dL_law_396 ?_
      refine g_top (y := rf_tk u i) (if_pos rfl) ?_
      refine lv_isub hx hb dL_law_397 ?_
      refine lv_icmp_eq (tgt := 403) hx hb dL_law_398 (by decide) (fun c5 => ?_) (fun c5 => absurd rfl c5)
      refine lv_aload_n hx hb dL_law_403 rfl (lv_at hl 1 rfl) ?_
      refine lv_iload hx hb dL_law_404 (lv_at hl 10 rfl) ?_
      refine lv_bipush (v := 7) hx hb dL_law_406 (by decide) ?_
      refine m_ci (wa := rs_w cI cR o z u) (wb := ra_w cI ob ad v) (wd := ((a7, .inl (cI, u.2.1, .inl (upd f7 i (u.1 4 i)))) :: (a8, .inl (cI, u.2.1, .inl (upd f8 i (rf_tk u i)))) :: (a9, .inl (cI, u.2.1, .inl (upd f9 i (rf_cm u i)))) :: (a10, .inl (cI, u.2.1, .inl (upd f10 i (u.1 6 i)))) :: hw_w cI cB h6 u.2.1 r6 (gw (gw (gw g i 0 (km (rl_L u i) (pu u i) 0)) i 1 (km (rl_L u i) (pu u i) 1)) i 2 (km (rl_L u i) (pu u i) 2)))) (cells' := kc) (slots' := nc) rfl rfl C S.1 S.2.1 S.2.2 (fun hPb hDb => g_runV (wr := ((a7, .inl (cI, u.2.1, .inl (upd f7 i (u.1 4 i)))) :: (a8, .inl (cI, u.2.1, .inl (upd f8 i (rf_tk u i)))) :: (a9, .inl (cI, u.2.1, .inl (upd f9 i (rf_cm u i)))) :: (a10, .inl (cI, u.2.1, .inl (upd f10 i (u.1 6 i)))) :: hw_w cI cB h6 u.2.1 r6 (gw (gw (gw g i 0 (km (rl_L u i) (pu u i) 0)) i 1 (km (rl_L u i) (pu u i) 1)) i 2 (km (rl_L u i) (pu u i) 2))) ++ rs_w cI cR o z u) (n := 2) (As := [.int (nI i), .int 7]) C (mX0_told l D t cI ob ad H.size v (by rw [hE.n]; exact hu8) i (by rw [hE.n]; exact hin) 7 (by decide)) (rw_V q219 q220 q221 q2 q222) kd_X0_told ⟨Nat.le_of_ble_eq_true rfl, Nat.le_of_ble_eq_true rfl⟩ (ci := 0) rfl rfl rfl (C.2.2.2.2.2.1.sub (tys' := [(cI, .int)]) [0] rfl) hPb hDb S.2.2 hl.1 rfl rfl (Nat.le_of_ble_eq_true rfl) dL_law_408 ⟨(show kc + 0 ≤ 728402 by omega), (show nc + 0 ≤ 6916263 by omega)⟩) (fun v w' H locs hv _ hP9 hD9 hS9 => ?_)
      obtain ⟨rfl, rfl⟩ := hv
      have S : sS D A s cI cR o z u (ra_w cI ob ad v ++ ((a7, .inl (cI, u.2.1, .inl (upd f7 i (u.1 4 i)))) :: (a8, .inl (cI, u.2.1, .inl (upd f8 i (rf_tk u i)))) :: (a9, .inl (cI, u.2.1, .inl (upd f9 i (rf_cm u i)))) :: (a10, .inl (cI, u.2.1, .inl (upd f10 i (u.1 6 i)))) :: hw_w cI cB h6 u.2.1 r6 (gw (gw (gw g i 0 (km (rl_L u i) (pu u i) 0)) i 1 (km (rl_L u i) (pu u i) 1)) i 2 (km (rl_L u i) (pu u i) 2)))) H locs := ⟨hP9, hD9, hS9⟩
      refine g_top (y := rf_hc u i) (e9_told7 hE i) ?_
      refine lv_aload_n hx hb dL_law_411 rfl (lv_at hl 1 rfl) ?_
      refine lv_iload hx hb dL_law_412 (lv_at hl 10 rfl) ?_
      refine lv_iconst (v := 2) hx hb dL_law_414 (by decide) ?_
      refine m_ci (wa := rs_w cI cR o z u) (wb := ra_w cI ob ad v) (wd := ((a7, .inl (cI, u.2.1, .inl (upd f7 i (u.1 4 i)))) :: (a8, .inl (cI, u.2.1, .inl (upd f8 i (rf_tk u i)))) :: (a9, .inl (cI, u.2.1, .inl (upd f9 i (rf_cm u i)))) :: (a10, .inl (cI, u.2.1, .inl (upd f10 i (u.1 6 i)))) :: hw_w cI cB h6 u.2.1 r6 (gw (gw (gw g i 0 (km (rl_L u i) (pu u i) 0)) i 1 (km (rl_L u i) (pu u i) 1)) i 2 (km (rl_L u i) (pu u i) 2)))) (cells' := kc) (slots' := nc) rfl rfl C S.1 S.2.1 S.2.2 (fun hPb hDb => g_runV (wr := ((a7, .inl (cI, u.2.1, .inl (upd f7 i (u.1 4 i)))) :: (a8, .inl (cI, u.2.1, .inl (upd f8 i (rf_tk u i)))) :: (a9, .inl (cI, u.2.1, .inl (upd f9 i (rf_cm u i)))) :: (a10, .inl (cI, u.2.1, .inl (upd f10 i (u.1 6 i)))) :: hw_w cI cB h6 u.2.1 r6 (gw (gw (gw g i 0 (km (rl_L u i) (pu u i) 0)) i 1 (km (rl_L u i) (pu u i) 1)) i 2 (km (rl_L u i) (pu u i) 2))) ++ rs_w cI cR o z u) (n := 2) (As := [.int (nI i), .int 2]) C (mX0_told l D t cI ob ad H.size v (by rw [hE.n]; exact hu8) i (by rw [hE.n]; exact hin) 2 (by decide)) (rw_V q219 q220 q221 q2 q222) kd_X0_told ⟨Nat.le_of_ble_eq_true rfl, Nat.le_of_ble_eq_true rfl⟩ (ci := 0) rfl rfl rfl (C.2.2.2.2.2.1.sub (tys' := [(cI, .int)]) [0] rfl) hPb hDb S.2.2 hl.1 rfl rfl (Nat.le_of_ble_eq_true rfl) dL_law_415 ⟨(show kc + 0 ≤ 728402 by omega), (show nc + 0 ≤ 6916263 by omega)⟩) (fun v w' H locs hv _ hP9 hD9 hS9 => ?_)
      obtain ⟨rfl, rfl⟩ := hv
      have S : sS D A s cI cR o z u (ra_w cI ob ad v ++ ((a7, .inl (cI, u.2.1, .inl (upd f7 i (u.1 4 i)))) :: (a8, .inl (cI, u.2.1, .inl (upd f8 i (rf_tk u i)))) :: (a9, .inl (cI, u.2.1, .inl (upd f9 i (rf_cm u i)))) :: (a10, .inl (cI, u.2.1, .inl (upd f10 i (u.1 6 i)))) :: hw_w cI cB h6 u.2.1 r6 (gw (gw (gw g i 0 (km (rl_L u i) (pu u i) 0)) i 1 (km (rl_L u i) (pu u i) 1)) i 2 (km (rl_L u i) (pu u i) 2)))) H locs := ⟨hP9, hD9, hS9⟩
      refine g_top (y := u.1 2 i) (e9_told hE i (by decide)) ?_
      refine lv_aload_n hx hb dL_law_418 rfl (lv_at hl 1 rfl) ?_
      refine lv_iload hx hb dL_law_419 (lv_at hl 10 rfl) ?_
      refine lv_iconst (v := 2) hx hb dL_law_421 (by decide) ?_
      refine m_ci (wa := rs_w cI cR o z u) (wb := ra_w cI ob ad v) (wd := ((a7, .inl (cI, u.2.1, .inl (upd f7 i (u.1 4 i)))) :: (a8, .inl (cI, u.2.1, .inl (upd f8 i (rf_tk u i)))) :: (a9, .inl (cI, u.2.1, .inl (upd f9 i (rf_cm u i)))) :: (a10, .inl (cI, u.2.1, .inl (upd f10 i (u.1 6 i)))) :: hw_w cI cB h6 u.2.1 r6 (gw (gw (gw g i 0 (km (rl_L u i) (pu u i) 0)) i 1 (km (rl_L u i) (pu u i) 1)) i 2 (km (rl_L u i) (pu u i) 2)))) (cells' := kc) (slots' := nc) rfl rfl C S.1 S.2.1 S.2.2 (fun hPb hDb => g_runV (wr := ((a7, .inl (cI, u.2.1, .inl (upd f7 i (u.1 4 i)))) :: (a8, .inl (cI, u.2.1, .inl (upd f8 i (rf_tk u i)))) :: (a9, .inl (cI, u.2.1, .inl (upd f9 i (rf_cm u i)))) :: (a10, .inl (cI, u.2.1, .inl (upd f10 i (u.1 6 i)))) :: hw_w cI cB h6 u.2.1 r6 (gw (gw (gw g i 0 (km (rl_L u i) (pu u i) 0)) i 1 (km (rl_L u i) (pu u i) 1)) i 2 (km (rl_L u i) (pu u i) 2))) ++ rs_w cI cR o z u) (n := 2) (As := [.int (nI i), .int 2]) C (mX0_told l D t cI ob ad H.size v (by rw [hE.n]; exact hu8) i (by rw [hE.n]; exact hin) 2 (by decide)) (rw_V q219 q220 q221 q2 q222) kd_X0_told ⟨Nat.le_of_ble_eq_true rfl, Nat.le_of_ble_eq_true rfl⟩ (ci := 0) rfl rfl rfl (C.2.2.2.2.2.1.sub (tys' := [(cI, .int)]) [0] rfl) hPb hDb S.2.2 hl.1 rfl rfl (Nat.le_of_ble_eq_true rfl) dL_law_422 ⟨(show kc + 0 ≤ 728402 by omega), (show nc + 0 ≤ 6916263 by omega)⟩) (fun v w' H locs hv _ hP9 hD9 hS9 => ?_)
      obtain ⟨rfl, rfl⟩ := hv
      have S : sS D A s cI cR o z u (ra_w cI ob ad v ++ ((a7, .inl (cI, u.2.1, .inl (upd f7 i (u.1 4 i)))) :: (a8, .inl (cI, u.2.1, .inl (upd f8 i (rf_tk u i)))) :: (a9, .inl (cI, u.2.1, .inl (upd f9 i (rf_cm u i)))) :: (a10, .inl (cI, u.2.1, .inl (upd f10 i (u.1 6 i)))) :: hw_w cI cB h6 u.2.1 r6 (gw (gw (gw g i 0 (km (rl_L u i) (pu u i) 0)) i 1 (km (rl_L u i) (pu u i) 1)) i 2 (km (rl_L u i) (pu u i) 2)))) H locs := ⟨hP9, hD9, hS9⟩
      refine g_top (y := u.1 2 i) (e9_told hE i (by decide)) ?_
      refine lv_bipush (v := 60) hx hb dL_law_425 (by decide) ?_
      refine lv_icmp_le (tgt := 445) hx hb dL_law_427 (by decide) (fun c6 => ?_) (fun c6 => ?_)
      · refine lv_iconst (v := 0) hx hb dL_law_445 (by decide) ?_
        refine lv_iadd hx hb dL_law_446 ?_
        refine lv_icmp_le (tgt := 452) hx hb dL_law_447 (by decide) (fun c7 => ?_) (fun c7 => absurd (pb_h2 B hin c6) c7)
        refine lv_iinc (v := nI (i + 1)) (lv' := [(12, .int (nI (i + 1))), (0, .ref (t 9)), (1, .ref ob), (2, .ref o), (3, .int (nI ti)), (5, .int (nI u.2.1)), (6, .ref h6), (7, .ref a7), (8, .ref a8), (9, .ref a9), (10, .ref a10), (11, .int (rf_sm (rf_ww u 7) i + rf_ww u 7 i)), (13, .int (rf_ww u 7 i))]) hx hb dL_law_452 hl (k := 10) rfl (nI_1 _) (by decide) rfl (fun ls hl => ?_)
        refine lv_goto (tgt := 136) hx hb dL_law_455 (by decide) ?_
        exact ih (i + 1) (by omega) _ _ _ _ _ _ _ _ _ hE (up_1 h7) (up_1 h8) (up_1 h9) (up_1 h10) (up_3 hg) S (lv_sub hl [1, 2, 3, 4, 5, 6, 7, 8, 9, 10, 11, 0] rfl)
      · refine lv_aload_n hx hb dL_law_430 rfl (lv_at hl 1 rfl) ?_
        refine lv_iload hx hb dL_law_431 (lv_at hl 10 rfl) ?_
        refine lv_iconst (v := 2) hx hb dL_law_433 (by decide) ?_
        refine m_ci (wa := rs_w cI cR o z u) (wb := ra_w cI ob ad v) (wd := ((a7, .inl (cI, u.2.1, .inl (upd f7 i (u.1 4 i)))) :: (a8, .inl (cI, u.2.1, .inl (upd f8 i (rf_tk u i)))) :: (a9, .inl (cI, u.2.1, .inl (upd f9 i (rf_cm u i)))) :: (a10, .inl (cI, u.2.1, .inl (upd f10 i (u.1 6 i)))) :: hw_w cI cB h6 u.2.1 r6 (gw (gw (gw g i 0 (km (rl_L u i) (pu u i) 0)) i 1 (km (rl_L u i) (pu u i) 1)) i 2 (km (rl_L u i) (pu u i) 2)))) (cells' := kc) (slots' := nc) rfl rfl C S.1 S.2.1 S.2.2 (fun hPb hDb => g_runV (wr := ((a7, .inl (cI, u.2.1, .inl (upd f7 i (u.1 4 i)))) :: (a8, .inl (cI, u.2.1, .inl (upd f8 i (rf_tk u i)))) :: (a9, .inl (cI, u.2.1, .inl (upd f9 i (rf_cm u i)))) :: (a10, .inl (cI, u.2.1, .inl (upd f10 i (u.1 6 i)))) :: hw_w cI cB h6 u.2.1 r6 (gw (gw (gw g i 0 (km (rl_L u i) (pu u i) 0)) i 1 (km (rl_L u i) (pu u i) 1)) i 2 (km (rl_L u i) (pu u i) 2))) ++ rs_w cI cR o z u) (n := 2) (As := [.int (nI i), .int 2]) C (mX0_told l D t cI ob ad H.size v (by rw [hE.n]; exact hu8) i (by rw [hE.n]; exact hin) 2 (by decide)) (rw_V q219 q220 q221 q2 q222) kd_X0_told ⟨Nat.le_of_ble_eq_true rfl, Nat.le_of_ble_eq_true rfl⟩ (ci := 0) rfl rfl rfl (C.2.2.2.2.2.1.sub (tys' := [(cI, .int)]) [0] rfl) hPb hDb S.2.2 hl.1 rfl rfl (Nat.le_of_ble_eq_true rfl) dL_law_434 ⟨(show kc + 0 ≤ 728402 by omega), (show nc + 0 ≤ 6916263 by omega)⟩) (fun v w' H locs hv _ hP9 hD9 hS9 => ?_)
        obtain ⟨rfl, rfl⟩ := hv
        have S : sS D A s cI cR o z u (ra_w cI ob ad v ++ ((a7, .inl (cI, u.2.1, .inl (upd f7 i (u.1 4 i)))) :: (a8, .inl (cI, u.2.1, .inl (upd f8 i (rf_tk u i)))) :: (a9, .inl (cI, u.2.1, .inl (upd f9 i (rf_cm u i)))) :: (a10, .inl (cI, u.2.1, .inl (upd f10 i (u.1 6 i)))) :: hw_w cI cB h6 u.2.1 r6 (gw (gw (gw g i 0 (km (rl_L u i) (pu u i) 0)) i 1 (km (rl_L u i) (pu u i) 1)) i 2 (km (rl_L u i) (pu u i) 2)))) H locs := ⟨hP9, hD9, hS9⟩
        refine g_top (y := u.1 2 i) (e9_told hE i (by decide)) ?_
        refine lv_bipush (v := 60) hx hb dL_law_437 (by decide) ?_
        refine lv_isub hx hb dL_law_439 ?_
        refine lv_iconst (v := 2) hx hb dL_law_440 (by decide) ?_
        refine lv_idiv hx hb dL_law_441 (by decide) ?_
        refine lv_goto (tgt := 446) hx hb dL_law_442 (by decide) ?_
        refine lv_iadd hx hb dL_law_446 ?_
        refine lv_icmp_le (tgt := 452) hx hb dL_law_447 (by decide) (fun c8 => ?_) (fun c8 => absurd (pb_h1 B hin c6) c8)
        refine lv_iinc (v := nI (i + 1)) (lv' := [(12, .int (nI (i + 1))), (0, .ref (t 9)), (1, .ref ob), (2, .ref o), (3, .int (nI ti)), (5, .int (nI u.2.1)), (6, .ref h6), (7, .ref a7), (8, .ref a8), (9, .ref a9), (10, .ref a10), (11, .int (rf_sm (rf_ww u 7) i + rf_ww u 7 i)), (13, .int (rf_ww u 7 i))]) hx hb dL_law_452 hl (k := 10) rfl (nI_1 _) (by decide) rfl (fun ls hl => ?_)
        refine lv_goto (tgt := 136) hx hb dL_law_455 (by decide) ?_
        exact ih (i + 1) (by omega) _ _ _ _ _ _ _ _ _ hE (up_1 h7) (up_1 h8) (up_1 h9) (up_1 h10) (up_3 hg) S (lv_sub hl [1, 2, 3, 4, 5, 6, 7, 8, 9, 10, 11, 0] rfl)
    refine lv_iload hx hb dL_law_136 (lv_at hl 11 rfl) ?_
    refine lv_iload hx hb dL_law_138 (lv_at hl 4 rfl) ?_
    refine lv_icmp_ge (tgt := 458) hx hb dL_law_140 (by decide) (fun c1 => absurd c1 (fun h9 => absurd ((nI_leI (a := u.2.1) (b := i) (by omega) (by omega)).mp h9) (by omega))) (fun c1 => ?_)
    refine lv_iconst (v := 0) hx hb dL_law_143 (by decide) ?_
    refine lv_istore (lv' := [(13, .int 0), (0, .ref (t 9)), (1, .ref ob), (2, .ref o), (3, .int (nI ti)), (5, .int (nI u.2.1)), (6, .ref h6), (7, .ref a7), (8, .ref a8), (9, .ref a9), (10, .ref a10), (11, .int (rf_sm (rf_ww u 7) i)), (12, .int (nI i))]) hx hb dL_law_144 hl (by decide) rfl (fun ls hl => ?_)
    refine lv_iload hx hb dL_law_146 (lv_at hl 0 rfl) ?_
    refine lv_iconst (v := 3) hx hb dL_law_148 (by decide) ?_
    refine lv_icmp_ge (tgt := 174) hx hb dL_law_149 (by decide) (fun c2 => absurd c2 (by decide)) (fun c2 => ?_)
    refine lv_aload hx hb dL_law_152 (lv_at hl 6 rfl) ?_
    refine lv_iload hx hb dL_law_154 (lv_at hl 12 rfl) ?_
    refine x_al C S 17 (n := u.2.1) (f := fun k => some (r6 k)) (i := i) rfl (by omega) hin rfl dL_law_156 ?_
    refine lv_iload hx hb dL_law_157 (lv_at hl 0 rfl) ?_
    refine lv_aload_n hx hb dL_law_159 rfl (lv_at hl 2 rfl) ?_
    refine lv_iload hx hb dL_law_160 (lv_at hl 12 rfl) ?_
    refine lv_iload hx hb dL_law_162 (lv_at hl 0 rfl) ?_
    refine m_ci (wa := rs_w cI cR o z u) (wb := ra_w cI ob ad v) (wd := ((a7, .inl (cI, u.2.1, .inl (f7))) :: (a8, .inl (cI, u.2.1, .inl (f8))) :: (a9, .inl (cI, u.2.1, .inl (f9))) :: (a10, .inl (cI, u.2.1, .inl (f10))) :: hw_w cI cB h6 u.2.1 r6 g)) (cells' := kc) (slots' := nc) rfl rfl C S.1 S.2.1 S.2.2 (fun hPb hDb => g_runV (wr := ((a7, .inl (cI, u.2.1, .inl (f7))) :: (a8, .inl (cI, u.2.1, .inl (f8))) :: (a9, .inl (cI, u.2.1, .inl (f9))) :: (a10, .inl (cI, u.2.1, .inl (f10))) :: hw_w cI cB h6 u.2.1 r6 g) ++ rs_w cI cR o z u) (n := 2) (As := [.int (nI i), .int 0]) C (mX0_coins l D t cI ob ad H.size v (by rw [hE.n]; exact hu8) i (by rw [hE.n]; exact hin) 0 (by decide)) (rw_V q208 q209 q210 q2 q211) kd_X0_coins ⟨Nat.le_of_ble_eq_true rfl, Nat.le_of_ble_eq_true rfl⟩ (ci := 0) rfl rfl rfl (C.2.2.2.2.2.1.sub (tys' := [(cI, .int)]) [0] rfl) hPb hDb S.2.2 hl.1 rfl rfl (Nat.le_of_ble_eq_true rfl) dL_law_164 ⟨(show kc + 0 ≤ 728402 by omega), (show nc + 0 ≤ 6916263 by omega)⟩) (fun v w' H locs hv _ hP9 hD9 hS9 => ?_)
    obtain ⟨rfl, rfl⟩ := hv
    have S : sS D A s cI cR o z u (ra_w cI ob ad (rf_cs v i) ++ ((a7, .inl (cI, u.2.1, .inl (f7))) :: (a8, .inl (cI, u.2.1, .inl (f8))) :: (a9, .inl (cI, u.2.1, .inl (f9))) :: (a10, .inl (cI, u.2.1, .inl (f10))) :: hw_w cI cB h6 u.2.1 r6 g)) H locs := ⟨hP9, hD9, hS9⟩
    refine g_top (y := km (rl_L u i) (pu u i) 0) (e9_co B hE hin (by decide)) ?_
    have hE : E9 u (rf_cs v i) := hE.tr e9_cs
    refine x_st C S (1 + i + 17) (n := 3) (f := g i) (i := 0) (hw_p0 hin) (by omega) (by decide) rfl dL_law_167 (fun H locs S => ?_)
    have S : sS D A s cI cR o z u (ra_w cI ob ad (rf_cs v i) ++ ((a7, .inl (cI, u.2.1, .inl (f7))) :: (a8, .inl (cI, u.2.1, .inl (f8))) :: (a9, .inl (cI, u.2.1, .inl (f9))) :: (a10, .inl (cI, u.2.1, .inl (f10))) :: (hw_w cI cB h6 u.2.1 r6 g).set (1 + i) (r6 i, .inl (cI, 3, .inl (upd (g i) 0 (km (rl_L u i) (pu u i) 0)))))) H locs := S
    rw [hw_s0 hin] at S
    have S : sS D A s cI cR o z u (ra_w cI ob ad (rf_cs v i) ++ ((a7, .inl (cI, u.2.1, .inl (f7))) :: (a8, .inl (cI, u.2.1, .inl (f8))) :: (a9, .inl (cI, u.2.1, .inl (f9))) :: (a10, .inl (cI, u.2.1, .inl (f10))) :: hw_w cI cB h6 u.2.1 r6 (gw g i 0 (km (rl_L u i) (pu u i) 0)))) H locs := S
    refine lv_iinc (v := nI 1) (lv' := [(13, .int (nI 1)), (0, .ref (t 9)), (1, .ref ob), (2, .ref o), (3, .int (nI ti)), (5, .int (nI u.2.1)), (6, .ref h6), (7, .ref a7), (8, .ref a8), (9, .ref a9), (10, .ref a10), (11, .int (rf_sm (rf_ww u 7) i)), (12, .int (nI i))]) hx hb dL_law_168 hl (k := 0) rfl (nI_1 _) (by decide) rfl (fun ls hl => ?_)
    refine lv_goto (tgt := 146) hx hb dL_law_171 (by decide) ?_
    refine lv_iload hx hb dL_law_146 (lv_at hl 0 rfl) ?_
    refine lv_iconst (v := 3) hx hb dL_law_148 (by decide) ?_
    refine lv_icmp_ge (tgt := 174) hx hb dL_law_149 (by decide) (fun c3 => absurd c3 (by decide)) (fun c3 => ?_)
    refine lv_aload hx hb dL_law_152 (lv_at hl 6 rfl) ?_
    refine lv_iload hx hb dL_law_154 (lv_at hl 12 rfl) ?_
    refine x_al C S 17 (n := u.2.1) (f := fun k => some (r6 k)) (i := i) rfl (by omega) hin rfl dL_law_156 ?_
    refine lv_iload hx hb dL_law_157 (lv_at hl 0 rfl) ?_
    refine lv_aload_n hx hb dL_law_159 rfl (lv_at hl 2 rfl) ?_
    refine lv_iload hx hb dL_law_160 (lv_at hl 12 rfl) ?_
    refine lv_iload hx hb dL_law_162 (lv_at hl 0 rfl) ?_
    refine m_ci (wa := rs_w cI cR o z u) (wb := ra_w cI ob ad (rf_cs v i)) (wd := ((a7, .inl (cI, u.2.1, .inl (f7))) :: (a8, .inl (cI, u.2.1, .inl (f8))) :: (a9, .inl (cI, u.2.1, .inl (f9))) :: (a10, .inl (cI, u.2.1, .inl (f10))) :: hw_w cI cB h6 u.2.1 r6 (gw g i 0 (km (rl_L u i) (pu u i) 0)))) (cells' := kc) (slots' := nc) rfl rfl C S.1 S.2.1 S.2.2 (fun hPb hDb => g_runV (wr := ((a7, .inl (cI, u.2.1, .inl (f7))) :: (a8, .inl (cI, u.2.1, .inl (f8))) :: (a9, .inl (cI, u.2.1, .inl (f9))) :: (a10, .inl (cI, u.2.1, .inl (f10))) :: hw_w cI cB h6 u.2.1 r6 (gw g i 0 (km (rl_L u i) (pu u i) 0))) ++ rs_w cI cR o z u) (n := 2) (As := [.int (nI i), .int (nI 1)]) C (mX0_coins l D t cI ob ad H.size (rf_cs v i) (by rw [hE.n]; exact hu8) i (by rw [hE.n]; exact hin) 1 (by decide)) (rw_V q208 q209 q210 q2 q211) kd_X0_coins ⟨Nat.le_of_ble_eq_true rfl, Nat.le_of_ble_eq_true rfl⟩ (ci := 0) rfl rfl rfl (C.2.2.2.2.2.1.sub (tys' := [(cI, .int)]) [0] rfl) hPb hDb S.2.2 hl.1 rfl rfl (Nat.le_of_ble_eq_true rfl) dL_law_164 ⟨(show kc + 0 ≤ 728402 by omega), (show nc + 0 ≤ 6916263 by omega)⟩) (fun v w' H locs hv _ hP9 hD9 hS9 => ?_)
    obtain ⟨rfl, rfl⟩ := hv
    have S : sS D A s cI cR o z u (ra_w cI ob ad (rf_cs (rf_cs v i) i) ++ ((a7, .inl (cI, u.2.1, .inl (f7))) :: (a8, .inl (cI, u.2.1, .inl (f8))) :: (a9, .inl (cI, u.2.1, .inl (f9))) :: (a10, .inl (cI, u.2.1, .inl (f10))) :: hw_w cI cB h6 u.2.1 r6 (gw g i 0 (km (rl_L u i) (pu u i) 0)))) H locs := ⟨hP9, hD9, hS9⟩
    refine g_top (y := km (rl_L u i) (pu u i) 1) (e9_co B hE hin (by decide)) ?_
    have hE : E9 u (rf_cs (rf_cs v i) i) := hE.tr e9_cs
    refine x_st C S (1 + i + 17) (n := 3) (f := (gw g i 0 (km (rl_L u i) (pu u i) 0)) i) (i := 1) (hw_p0 hin) (by omega) (by decide) rfl dL_law_167 (fun H locs S => ?_)
    have S : sS D A s cI cR o z u (ra_w cI ob ad (rf_cs (rf_cs v i) i) ++ ((a7, .inl (cI, u.2.1, .inl (f7))) :: (a8, .inl (cI, u.2.1, .inl (f8))) :: (a9, .inl (cI, u.2.1, .inl (f9))) :: (a10, .inl (cI, u.2.1, .inl (f10))) :: (hw_w cI cB h6 u.2.1 r6 (gw g i 0 (km (rl_L u i) (pu u i) 0))).set (1 + i) (r6 i, .inl (cI, 3, .inl (upd ((gw g i 0 (km (rl_L u i) (pu u i) 0)) i) 1 (km (rl_L u i) (pu u i) 1)))))) H locs := S
    rw [hw_s0 hin] at S
    have S : sS D A s cI cR o z u (ra_w cI ob ad (rf_cs (rf_cs v i) i) ++ ((a7, .inl (cI, u.2.1, .inl (f7))) :: (a8, .inl (cI, u.2.1, .inl (f8))) :: (a9, .inl (cI, u.2.1, .inl (f9))) :: (a10, .inl (cI, u.2.1, .inl (f10))) :: hw_w cI cB h6 u.2.1 r6 (gw (gw g i 0 (km (rl_L u i) (pu u i) 0)) i 1 (km (rl_L u i) (pu u i) 1)))) H locs := S
    refine lv_iinc (v := nI 2) (lv' := [(13, .int (nI 2)), (0, .ref (t 9)), (1, .ref ob), (2, .ref o), (3, .int (nI ti)), (5, .int (nI u.2.1)), (6, .ref h6), (7, .ref a7), (8, .ref a8), (9, .ref a9), (10, .ref a10), (11, .int (rf_sm (rf_ww u 7) i)), (12, .int (nI i))]) hx hb dL_law_168 hl (k := 0) rfl (nI_1 _) (by decide) rfl (fun ls hl => ?_)
    refine lv_goto (tgt := 146) hx hb dL_law_171 (by decide) ?_
    refine lv_iload hx hb dL_law_146 (lv_at hl 0 rfl) ?_
    refine lv_iconst (v := 3) hx hb dL_law_148 (by decide) ?_
    refine lv_icmp_ge (tgt := 174) hx hb dL_law_149 (by decide) (fun c4 => absurd c4 (by decide)) (fun c4 => ?_)
    refine lv_aload hx hb dL_law_152 (lv_at hl 6 rfl) ?_
    refine lv_iload hx hb dL_law_154 (lv_at hl 12 rfl) ?_
    refine x_al C S 17 (n := u.2.1) (f := fun k => some (r6 k)) (i := i) rfl (by omega) hin rfl dL_law_156 ?_
    refine lv_iload hx hb dL_law_157 (lv_at hl 0 rfl) ?_
    refine lv_aload_n hx hb dL_law_159 rfl (lv_at hl 2 rfl) ?_
    refine lv_iload hx hb dL_law_160 (lv_at hl 12 rfl) ?_
    refine lv_iload hx hb dL_law_162 (lv_at hl 0 rfl) ?_
    refine m_ci (wa := rs_w cI cR o z u) (wb := ra_w cI ob ad (rf_cs (rf_cs v i) i)) (wd := ((a7, .inl (cI, u.2.1, .inl (f7))) :: (a8, .inl (cI, u.2.1, .inl (f8))) :: (a9, .inl (cI, u.2.1, .inl (f9))) :: (a10, .inl (cI, u.2.1, .inl (f10))) :: hw_w cI cB h6 u.2.1 r6 (gw (gw g i 0 (km (rl_L u i) (pu u i) 0)) i 1 (km (rl_L u i) (pu u i) 1)))) (cells' := kc) (slots' := nc) rfl rfl C S.1 S.2.1 S.2.2 (fun hPb hDb => g_runV (wr := ((a7, .inl (cI, u.2.1, .inl (f7))) :: (a8, .inl (cI, u.2.1, .inl (f8))) :: (a9, .inl (cI, u.2.1, .inl (f9))) :: (a10, .inl (cI, u.2.1, .inl (f10))) :: hw_w cI cB h6 u.2.1 r6 (gw (gw g i 0 (km (rl_L u i) (pu u i) 0)) i 1 (km (rl_L u i) (pu u i) 1))) ++ rs_w cI cR o z u) (n := 2) (As := [.int (nI i), .int (nI 2)]) C (mX0_coins l D t cI ob ad H.size (rf_cs (rf_cs v i) i) (by rw [hE.n]; exact hu8) i (by rw [hE.n]; exact hin) 2 (by decide)) (rw_V q208 q209 q210 q2 q211) kd_X0_coins ⟨Nat.le_of_ble_eq_true rfl, Nat.le_of_ble_eq_true rfl⟩ (ci := 0) rfl rfl rfl (C.2.2.2.2.2.1.sub (tys' := [(cI, .int)]) [0] rfl) hPb hDb S.2.2 hl.1 rfl rfl (Nat.le_of_ble_eq_true rfl) dL_law_164 ⟨(show kc + 0 ≤ 728402 by omega), (show nc + 0 ≤ 6916263 by omega)⟩) (fun v w' H locs hv _ hP9 hD9 hS9 => ?_)
    obtain ⟨rfl, rfl⟩ := hv
    have S : sS D A s cI cR o z u (ra_w cI ob ad (rf_cs (rf_cs (rf_cs v i) i) i) ++ ((a7, .inl (cI, u.2.1, .inl (f7))) :: (a8, .inl (cI, u.2.1, .inl (f8))) :: (a9, .inl (cI, u.2.1, .inl (f9))) :: (a10, .inl (cI, u.2.1, .inl (f10))) :: hw_w cI cB h6 u.2.1 r6 (gw (gw g i 0 (km (rl_L u i) (pu u i) 0)) i 1 (km (rl_L u i) (pu u i) 1)))) H locs := ⟨hP9, hD9, hS9⟩
    refine g_top (y := km (rl_L u i) (pu u i) 2) (e9_co B hE hin (by decide)) ?_
    have hE : E9 u (rf_cs (rf_cs (rf_cs v i) i) i) := hE.tr e9_cs
    refine x_st C S (1 + i + 17) (n := 3) (f := (gw (gw g i 0 (km (rl_L u i) (pu u i) 0)) i 1 (km (rl_L u i) (pu u i) 1)) i) (i := 2) (hw_p0 hin) (by omega) (by decide) rfl dL_law_167 (fun H locs S => ?_)
    have S : sS D A s cI cR o z u (ra_w cI ob ad (rf_cs (rf_cs (rf_cs v i) i) i) ++ ((a7, .inl (cI, u.2.1, .inl (f7))) :: (a8, .inl (cI, u.2.1, .inl (f8))) :: (a9, .inl (cI, u.2.1, .inl (f9))) :: (a10, .inl (cI, u.2.1, .inl (f10))) :: (hw_w cI cB h6 u.2.1 r6 (gw (gw g i 0 (km (rl_L u i) (pu u i) 0)) i 1 (km (rl_L u i) (pu u i) 1))).set (1 + i) (r6 i, .inl (cI, 3, .inl (upd ((gw (gw g i 0 (km (rl_L u i) (pu u i) 0)) i 1 (km (rl_L u i) (pu u i) 1)) i) 2 (km (rl_L u i) (pu u i) 2)))))) H locs := S
    rw [hw_s0 hin] at S
    have S : sS D A s cI cR o z u (ra_w cI ob ad (rf_cs (rf_cs (rf_cs v i) i) i) ++ ((a7, .inl (cI, u.2.1, .inl (f7))) :: (a8, .inl (cI, u.2.1, .inl (f8))) :: (a9, .inl (cI, u.2.1, .inl (f9))) :: (a10, .inl (cI, u.2.1, .inl (f10))) :: hw_w cI cB h6 u.2.1 r6 (gw (gw (gw g i 0 (km (rl_L u i) (pu u i) 0)) i 1 (km (rl_L u i) (pu u i) 1)) i 2 (km (rl_L u i) (pu u i) 2)))) H locs := S
    refine lv_iinc (v := nI 3) (lv' := [(13, .int (nI 3)), (0, .ref (t 9)), (1, .ref ob), (2, .ref o), (3, .int (nI ti)), (5, .int (nI u.2.1)), (6, .ref h6), (7, .ref a7), (8, .ref a8), (9, .ref a9), (10, .ref a10), (11, .int (rf_sm (rf_ww u 7) i)), (12, .int (nI i))]) hx hb dL_law_168 hl (k := 0) rfl (nI_1 _) (by decide) rfl (fun ls hl => ?_)
    refine lv_goto (tgt := 146) hx hb dL_law_171 (by decide) ?_
    refine lv_iload hx hb dL_law_146 (lv_at hl 0 rfl) ?_
    refine lv_iconst (v := 3) hx hb dL_law_148 (by decide) ?_
    refine lv_icmp_ge (tgt := 174) hx hb dL_law_149 (by decide) (fun c5 => ?_) (fun c5 => absurd (by decide) c5)
    refine lv_aload hx hb dL_law_174 (lv_at hl 7 rfl) ?_
    refine lv_iload hx hb dL_law_176 (lv_at hl 12 rfl) ?_
    refine lv_aload_n hx hb dL_law_178 rfl (lv_at hl 2 rfl) ?_
    refine lv_iload hx hb dL_law_179 (lv_at hl 12 rfl) ?_
    refine lv_iconst (v := 4) hx hb dL_law_181 (by decide) ?_
    refine m_ci (wa := rs_w cI cR o z u) (wb := ra_w cI ob ad (rf_cs (rf_cs (rf_cs v i) i) i)) (wd := ((a7, .inl (cI, u.2.1, .inl (f7))) :: (a8, .inl (cI, u.2.1, .inl (f8))) :: (a9, .inl (cI, u.2.1, .inl (f9))) :: (a10, .inl (cI, u.2.1, .inl (f10))) :: hw_w cI cB h6 u.2.1 r6 (gw (gw (gw g i 0 (km (rl_L u i) (pu u i) 0)) i 1 (km (rl_L u i) (pu u i) 1)) i 2 (km (rl_L u i) (pu u i) 2)))) (cells' := kc) (slots' := nc) rfl rfl C S.1 S.2.1 S.2.2 (fun hPb hDb => g_runV (wr := ((a7, .inl (cI, u.2.1, .inl (f7))) :: (a8, .inl (cI, u.2.1, .inl (f8))) :: (a9, .inl (cI, u.2.1, .inl (f9))) :: (a10, .inl (cI, u.2.1, .inl (f10))) :: hw_w cI cB h6 u.2.1 r6 (gw (gw (gw g i 0 (km (rl_L u i) (pu u i) 0)) i 1 (km (rl_L u i) (pu u i) 1)) i 2 (km (rl_L u i) (pu u i) 2))) ++ rs_w cI cR o z u) (n := 2) (As := [.int (nI i), .int 4]) C (mX0_told l D t cI ob ad H.size (rf_cs (rf_cs (rf_cs v i) i) i) (by rw [hE.n]; exact hu8) i (by rw [hE.n]; exact hin) 4 (by decide)) (rw_V q219 q220 q221 q2 q222) kd_X0_told ⟨Nat.le_of_ble_eq_true rfl, Nat.le_of_ble_eq_true rfl⟩ (ci := 0) rfl rfl rfl (C.2.2.2.2.2.1.sub (tys' := [(cI, .int)]) [0] rfl) hPb hDb S.2.2 hl.1 rfl rfl (Nat.le_of_ble_eq_true rfl) dL_law_182 ⟨(show kc + 0 ≤ 728402 by omega), (show nc + 0 ≤ 6916263 by omega)⟩) (fun v w' H locs hv _ hP9 hD9 hS9 => ?_)
    obtain ⟨rfl, rfl⟩ := hv
    have S : sS D A s cI cR o z u (ra_w cI ob ad (rf_cs (rf_cs (rf_cs v i) i) i) ++ ((a7, .inl (cI, u.2.1, .inl (f7))) :: (a8, .inl (cI, u.2.1, .inl (f8))) :: (a9, .inl (cI, u.2.1, .inl (f9))) :: (a10, .inl (cI, u.2.1, .inl (f10))) :: hw_w cI cB h6 u.2.1 r6 (gw (gw (gw g i 0 (km (rl_L u i) (pu u i) 0)) i 1 (km (rl_L u i) (pu u i) 1)) i 2 (km (rl_L u i) (pu u i) 2)))) H locs := ⟨hP9, hD9, hS9⟩
    refine g_top (y := u.1 4 i) (e9_told hE i (by decide)) ?_
    refine x_st C S 13 (n := u.2.1) (f := f7) (i := i) rfl (by omega) hin rfl dL_law_185 (fun H locs S => ?_)
    have S : sS D A s cI cR o z u (ra_w cI ob ad (rf_cs (rf_cs (rf_cs v i) i) i) ++ ((a7, .inl (cI, u.2.1, .inl (upd (f7) i (u.1 4 i)))) :: (a8, .inl (cI, u.2.1, .inl (f8))) :: (a9, .inl (cI, u.2.1, .inl (f9))) :: (a10, .inl (cI, u.2.1, .inl (f10))) :: hw_w cI cB h6 u.2.1 r6 (gw (gw (gw g i 0 (km (rl_L u i) (pu u i) 0)) i 1 (km (rl_L u i) (pu u i) 1)) i 2 (km (rl_L u i) (pu u i) 2)))) H locs := S
    refine lv_aload hx hb dL_law_186 (lv_at hl 8 rfl) ?_
    refine lv_iload hx hb dL_law_188 (lv_at hl 12 rfl) ?_
    refine lv_aload_n hx hb dL_law_190 rfl (lv_at hl 2 rfl) ?_
    refine lv_iload hx hb dL_law_191 (lv_at hl 12 rfl) ?_
    refine lv_iconst (v := 4) hx hb dL_law_193 (by decide) ?_
    refine m_ci (wa := rs_w cI cR o z u) (wb := ra_w cI ob ad (rf_cs (rf_cs (rf_cs v i) i) i)) (wd := ((a7, .inl (cI, u.2.1, .inl (upd (f7) i (u.1 4 i)))) :: (a8, .inl (cI, u.2.1, .inl (f8))) :: (a9, .inl (cI, u.2.1, .inl (f9))) :: (a10, .inl (cI, u.2.1, .inl (f10))) :: hw_w cI cB h6 u.2.1 r6 (gw (gw (gw g i 0 (km (rl_L u i) (pu u i) 0)) i 1 (km (rl_L u i) (pu u i) 1)) i 2 (km (rl_L u i) (pu u i) 2)))) (cells' := kc) (slots' := nc) rfl rfl C S.1 S.2.1 S.2.2 (fun hPb hDb => g_runV (wr := ((a7, .inl (cI, u.2.1, .inl (upd (f7) i (u.1 4 i)))) :: (a8, .inl (cI, u.2.1, .inl (f8))) :: (a9, .inl (cI, u.2.1, .inl (f9))) :: (a10, .inl (cI, u.2.1, .inl (f10))) :: hw_w cI cB h6 u.2.1 r6 (gw (gw (gw g i 0 (km (rl_L u i) (pu u i) 0)) i 1 (km (rl_L u i) (pu u i) 1)) i 2 (km (rl_L u i) (pu u i) 2))) ++ rs_w cI cR o z u) (n := 2) (As := [.int (nI i), .int 4]) C (mX0_wage l D t cI ob ad H.size (rf_cs (rf_cs (rf_cs v i) i) i) (by rw [hE.n]; exact hu8) i (by rw [hE.n]; exact hin) 4 (by decide)) (rw_V q223 q224 q225 q2 q226) kd_X0_wage ⟨Nat.le_of_ble_eq_true rfl, Nat.le_of_ble_eq_true rfl⟩ (ci := 0) rfl rfl rfl (C.2.2.2.2.2.1.sub (tys' := [(cI, .int)]) [0] rfl) hPb hDb S.2.2 hl.1 rfl rfl (Nat.le_of_ble_eq_true rfl) dL_law_194 ⟨(show kc + 0 ≤ 728402 by omega), (show nc + 0 ≤ 6916263 by omega)⟩) (fun v w' H locs hv _ hP9 hD9 hS9 => ?_)
    obtain ⟨rfl, rfl⟩ := hv
    have S : sS D A s cI cR o z u (ra_w cI ob ad (rf_cs (rf_cs (rf_cs v i) i) i) ++ ((a7, .inl (cI, u.2.1, .inl (upd (f7) i (u.1 4 i)))) :: (a8, .inl (cI, u.2.1, .inl (f8))) :: (a9, .inl (cI, u.2.1, .inl (f9))) :: (a10, .inl (cI, u.2.1, .inl (f10))) :: hw_w cI cB h6 u.2.1 r6 (gw (gw (gw g i 0 (km (rl_L u i) (pu u i) 0)) i 1 (km (rl_L u i) (pu u i) 1)) i 2 (km (rl_L u i) (pu u i) 2)))) H locs := ⟨hP9, hD9, hS9⟩
    refine g_top (y := rf_tk u i) (e9_w4 hE i) ?_
    refine x_st C S 14 (n := u.2.1) (f := f8) (i := i) rfl (by omega) hin rfl dL_law_197 (fun H locs S => ?_)
    have S : sS D A s cI cR o z u (ra_w cI ob ad (rf_cs (rf_cs (rf_cs v i) i) i) ++ ((a7, .inl (cI, u.2.1, .inl (upd (f7) i (u.1 4 i)))) :: (a8, .inl (cI, u.2.1, .inl (upd (f8) i (rf_tk u i)))) :: (a9, .inl (cI, u.2.1, .inl (f9))) :: (a10, .inl (cI, u.2.1, .inl (f10))) :: hw_w cI cB h6 u.2.1 r6 (gw (gw (gw g i 0 (km (rl_L u i) (pu u i) 0)) i 1 (km (rl_L u i) (pu u i) 1)) i 2 (km (rl_L u i) (pu u i) 2)))) H locs := S
    refine lv_aload hx hb dL_law_198 (lv_at hl 9 rfl) ?_
    refine lv_iload hx hb dL_law_200 (lv_at hl 12 rfl) ?_
    refine lv_aload_n hx hb dL_law_202 rfl (lv_at hl 2 rfl) ?_
    refine lv_iload hx hb dL_law_203 (lv_at hl 12 rfl) ?_
    refine lv_iconst (v := 3) hx hb dL_law_205 (by decide) ?_
    refine m_ci (wa := rs_w cI cR o z u) (wb := ra_w cI ob ad (rf_cs (rf_cs (rf_cs v i) i) i)) (wd := ((a7, .inl (cI, u.2.1, .inl (upd (f7) i (u.1 4 i)))) :: (a8, .inl (cI, u.2.1, .inl (upd (f8) i (rf_tk u i)))) :: (a9, .inl (cI, u.2.1, .inl (f9))) :: (a10, .inl (cI, u.2.1, .inl (f10))) :: hw_w cI cB h6 u.2.1 r6 (gw (gw (gw g i 0 (km (rl_L u i) (pu u i) 0)) i 1 (km (rl_L u i) (pu u i) 1)) i 2 (km (rl_L u i) (pu u i) 2)))) (cells' := kc) (slots' := nc) rfl rfl C S.1 S.2.1 S.2.2 (fun hPb hDb => g_runV (wr := ((a7, .inl (cI, u.2.1, .inl (upd (f7) i (u.1 4 i)))) :: (a8, .inl (cI, u.2.1, .inl (upd (f8) i (rf_tk u i)))) :: (a9, .inl (cI, u.2.1, .inl (f9))) :: (a10, .inl (cI, u.2.1, .inl (f10))) :: hw_w cI cB h6 u.2.1 r6 (gw (gw (gw g i 0 (km (rl_L u i) (pu u i) 0)) i 1 (km (rl_L u i) (pu u i) 1)) i 2 (km (rl_L u i) (pu u i) 2))) ++ rs_w cI cR o z u) (n := 2) (As := [.int (nI i), .int 3]) C (mX0_wage l D t cI ob ad H.size (rf_cs (rf_cs (rf_cs v i) i) i) (by rw [hE.n]; exact hu8) i (by rw [hE.n]; exact hin) 3 (by decide)) (rw_V q223 q224 q225 q2 q226) kd_X0_wage ⟨Nat.le_of_ble_eq_true rfl, Nat.le_of_ble_eq_true rfl⟩ (ci := 0) rfl rfl rfl (C.2.2.2.2.2.1.sub (tys' := [(cI, .int)]) [0] rfl) hPb hDb S.2.2 hl.1 rfl rfl (Nat.le_of_ble_eq_true rfl) dL_law_206 ⟨(show kc + 0 ≤ 728402 by omega), (show nc + 0 ≤ 6916263 by omega)⟩) (fun v w' H locs hv _ hP9 hD9 hS9 => ?_)
    obtain ⟨rfl, rfl⟩ := hv
    have S : sS D A s cI cR o z u (ra_w cI ob ad (rf_cs (rf_cs (rf_cs v i) i) i) ++ ((a7, .inl (cI, u.2.1, .inl (upd (f7) i (u.1 4 i)))) :: (a8, .inl (cI, u.2.1, .inl (upd (f8) i (rf_tk u i)))) :: (a9, .inl (cI, u.2.1, .inl (f9))) :: (a10, .inl (cI, u.2.1, .inl (f10))) :: hw_w cI cB h6 u.2.1 r6 (gw (gw (gw g i 0 (km (rl_L u i) (pu u i) 0)) i 1 (km (rl_L u i) (pu u i) 1)) i 2 (km (rl_L u i) (pu u i) 2)))) H locs := ⟨hP9, hD9, hS9⟩
    refine g_top (y := rf_cm u i) (e9_w3 hE i) ?_
    refine x_st C S 15 (n := u.2.1) (f := f9) (i := i) rfl (by omega) hin rfl dL_law_209 (fun H locs S => ?_)
    have S : sS D A s cI cR o z u (ra_w cI ob ad (rf_cs (rf_cs (rf_cs v i) i) i) ++ ((a7, .inl (cI, u.2.1, .inl (upd (f7) i (u.1 4 i)))) :: (a8, .inl (cI, u.2.1, .inl (upd (f8) i (rf_tk u i)))) :: (a9, .inl (cI, u.2.1, .inl (upd (f9) i (rf_cm u i)))) :: (a10, .inl (cI, u.2.1, .inl (f10))) :: hw_w cI cB h6 u.2.1 r6 (gw (gw (gw g i 0 (km (rl_L u i) (pu u i) 0)) i 1 (km (rl_L u i) (pu u i) 1)) i 2 (km (rl_L u i) (pu u i) 2)))) H locs := S
    refine lv_aload hx hb dL_law_210 (lv_at hl 10 rfl) ?_
    refine lv_iload hx hb dL_law_212 (lv_at hl 12 rfl) ?_
    refine lv_aload_n hx hb dL_law_214 rfl (lv_at hl 2 rfl) ?_
    refine lv_iload hx hb dL_law_215 (lv_at hl 12 rfl) ?_
    refine lv_bipush (v := 6) hx hb dL_law_217 (by decide) ?_
    refine m_ci (wa := rs_w cI cR o z u) (wb := ra_w cI ob ad (rf_cs (rf_cs (rf_cs v i) i) i)) (wd := ((a7, .inl (cI, u.2.1, .inl (upd (f7) i (u.1 4 i)))) :: (a8, .inl (cI, u.2.1, .inl (upd (f8) i (rf_tk u i)))) :: (a9, .inl (cI, u.2.1, .inl (upd (f9) i (rf_cm u i)))) :: (a10, .inl (cI, u.2.1, .inl (f10))) :: hw_w cI cB h6 u.2.1 r6 (gw (gw (gw g i 0 (km (rl_L u i) (pu u i) 0)) i 1 (km (rl_L u i) (pu u i) 1)) i 2 (km (rl_L u i) (pu u i) 2)))) (cells' := kc) (slots' := nc) rfl rfl C S.1 S.2.1 S.2.2 (fun hPb hDb => g_runV (wr := ((a7, .inl (cI, u.2.1, .inl (upd (f7) i (u.1 4 i)))) :: (a8, .inl (cI, u.2.1, .inl (upd (f8) i (rf_tk u i)))) :: (a9, .inl (cI, u.2.1, .inl (upd (f9) i (rf_cm u i)))) :: (a10, .inl (cI, u.2.1, .inl (f10))) :: hw_w cI cB h6 u.2.1 r6 (gw (gw (gw g i 0 (km (rl_L u i) (pu u i) 0)) i 1 (km (rl_L u i) (pu u i) 1)) i 2 (km (rl_L u i) (pu u i) 2))) ++ rs_w cI cR o z u) (n := 2) (As := [.int (nI i), .int 6]) C (mX0_told l D t cI ob ad H.size (rf_cs (rf_cs (rf_cs v i) i) i) (by rw [hE.n]; exact hu8) i (by rw [hE.n]; exact hin) 6 (by decide)) (rw_V q219 q220 q221 q2 q222) kd_X0_told ⟨Nat.le_of_ble_eq_true rfl, Nat.le_of_ble_eq_true rfl⟩ (ci := 0) rfl rfl rfl (C.2.2.2.2.2.1.sub (tys' := [(cI, .int)]) [0] rfl) hPb hDb S.2.2 hl.1 rfl rfl (Nat.le_of_ble_eq_true rfl) dL_law_219 ⟨(show kc + 0 ≤ 728402 by omega), (show nc + 0 ≤ 6916263 by omega)⟩) (fun v w' H locs hv _ hP9 hD9 hS9 => ?_)
    obtain ⟨rfl, rfl⟩ := hv
    have S : sS D A s cI cR o z u (ra_w cI ob ad (rf_cs (rf_cs (rf_cs v i) i) i) ++ ((a7, .inl (cI, u.2.1, .inl (upd (f7) i (u.1 4 i)))) :: (a8, .inl (cI, u.2.1, .inl (upd (f8) i (rf_tk u i)))) :: (a9, .inl (cI, u.2.1, .inl (upd (f9) i (rf_cm u i)))) :: (a10, .inl (cI, u.2.1, .inl (f10))) :: hw_w cI cB h6 u.2.1 r6 (gw (gw (gw g i 0 (km (rl_L u i) (pu u i) 0)) i 1 (km (rl_L u i) (pu u i) 1)) i 2 (km (rl_L u i) (pu u i) 2)))) H locs := ⟨hP9, hD9, hS9⟩
    refine g_top (y := u.1 6 i) (e9_told hE i (by decide)) ?_
    refine x_st C S 16 (n := u.2.1) (f := f10) (i := i) rfl (by omega) hin rfl dL_law_222 (fun H locs S => ?_)
    have S : sS D A s cI cR o z u (ra_w cI ob ad (rf_cs (rf_cs (rf_cs v i) i) i) ++ ((a7, .inl (cI, u.2.1, .inl (upd (f7) i (u.1 4 i)))) :: (a8, .inl (cI, u.2.1, .inl (upd (f8) i (rf_tk u i)))) :: (a9, .inl (cI, u.2.1, .inl (upd (f9) i (rf_cm u i)))) :: (a10, .inl (cI, u.2.1, .inl (upd (f10) i (u.1 6 i)))) :: hw_w cI cB h6 u.2.1 r6 (gw (gw (gw g i 0 (km (rl_L u i) (pu u i) 0)) i 1 (km (rl_L u i) (pu u i) 1)) i 2 (km (rl_L u i) (pu u i) 2)))) H locs := S
    refine lv_aload_n hx hb dL_law_223 rfl (lv_at hl 2 rfl) ?_
    refine lv_iload hx hb dL_law_224 (lv_at hl 12 rfl) ?_
    refine lv_iconst (v := 2) hx hb dL_law_226 (by decide) ?_
    refine m_ci (wa := rs_w cI cR o z u) (wb := ra_w cI ob ad (rf_cs (rf_cs (rf_cs v i) i) i)) (wd := ((a7, .inl (cI, u.2.1, .inl (upd (f7) i (u.1 4 i)))) :: (a8, .inl (cI, u.2.1, .inl (upd (f8) i (rf_tk u i)))) :: (a9, .inl (cI, u.2.1, .inl (upd (f9) i (rf_cm u i)))) :: (a10, .inl (cI, u.2.1, .inl (upd (f10) i (u.1 6 i)))) :: hw_w cI cB h6 u.2.1 r6 (gw (gw (gw g i 0 (km (rl_L u i) (pu u i) 0)) i 1 (km (rl_L u i) (pu u i) 1)) i 2 (km (rl_L u i) (pu u i) 2)))) (cells' := kc) (slots' := nc) rfl rfl C S.1 S.2.1 S.2.2 (fun hPb hDb => g_runV (wr := ((a7, .inl (cI, u.2.1, .inl (upd (f7) i (u.1 4 i)))) :: (a8, .inl (cI, u.2.1, .inl (upd (f8) i (rf_tk u i)))) :: (a9, .inl (cI, u.2.1, .inl (upd (f9) i (rf_cm u i)))) :: (a10, .inl (cI, u.2.1, .inl (upd (f10) i (u.1 6 i)))) :: hw_w cI cB h6 u.2.1 r6 (gw (gw (gw g i 0 (km (rl_L u i) (pu u i) 0)) i 1 (km (rl_L u i) (pu u i) 1)) i 2 (km (rl_L u i) (pu u i) 2))) ++ rs_w cI cR o z u) (n := 2) (As := [.int (nI i), .int 2]) C (mX0_wage l D t cI ob ad H.size (rf_cs (rf_cs (rf_cs v i) i) i) (by rw [hE.n]; exact hu8) i (by rw [hE.n]; exact hin) 2 (by decide)) (rw_V q223 q224 q225 q2 q226) kd_X0_wage ⟨Nat.le_of_ble_eq_true rfl, Nat.le_of_ble_eq_true rfl⟩ (ci := 0) rfl rfl rfl (C.2.2.2.2.2.1.sub (tys' := [(cI, .int)]) [0] rfl) hPb hDb S.2.2 hl.1 rfl rfl (Nat.le_of_ble_eq_true rfl) dL_law_227 ⟨(show kc + 0 ≤ 728402 by omega), (show nc + 0 ≤ 6916263 by omega)⟩) (fun v w' H locs hv _ hP9 hD9 hS9 => ?_)
    obtain ⟨rfl, rfl⟩ := hv
    have S : sS D A s cI cR o z u (ra_w cI ob ad (rf_cs (rf_cs (rf_cs v i) i) i) ++ ((a7, .inl (cI, u.2.1, .inl (upd (f7) i (u.1 4 i)))) :: (a8, .inl (cI, u.2.1, .inl (upd (f8) i (rf_tk u i)))) :: (a9, .inl (cI, u.2.1, .inl (upd (f9) i (rf_cm u i)))) :: (a10, .inl (cI, u.2.1, .inl (upd (f10) i (u.1 6 i)))) :: hw_w cI cB h6 u.2.1 r6 (gw (gw (gw g i 0 (km (rl_L u i) (pu u i) 0)) i 1 (km (rl_L u i) (pu u i) 1)) i 2 (km (rl_L u i) (pu u i) 2)))) H locs := ⟨hP9, hD9, hS9⟩
    refine g_top (y := rf_ww u 7 i) (e9_w2 hE i) ?_
    refine lv_istore (lv' := [(13, .int (rf_ww u 7 i)), (0, .ref (t 9)), (1, .ref ob), (2, .ref o), (3, .int (nI ti)), (5, .int (nI u.2.1)), (6, .ref h6), (7, .ref a7), (8, .ref a8), (9, .ref a9), (10, .ref a10), (11, .int (rf_sm (rf_ww u 7) i)), (12, .int (nI i))]) hx hb dL_law_230 hl (by decide) rfl (fun ls hl => ?_)
    refine lv_aload_n hx hb dL_law_232 rfl (lv_at hl 2 rfl) ?_
    refine lv_iload hx hb dL_law_233 (lv_at hl 12 rfl) ?_
    refine lv_iconst (v := 0) hx hb dL_law_235 (by decide) ?_
    refine m_ci (wa := rs_w cI cR o z u) (wb := ra_w cI ob ad (rf_cs (rf_cs (rf_cs v i) i) i)) (wd := ((a7, .inl (cI, u.2.1, .inl (upd (f7) i (u.1 4 i)))) :: (a8, .inl (cI, u.2.1, .inl (upd (f8) i (rf_tk u i)))) :: (a9, .inl (cI, u.2.1, .inl (upd (f9) i (rf_cm u i)))) :: (a10, .inl (cI, u.2.1, .inl (upd (f10) i (u.1 6 i)))) :: hw_w cI cB h6 u.2.1 r6 (gw (gw (gw g i 0 (km (rl_L u i) (pu u i) 0)) i 1 (km (rl_L u i) (pu u i) 1)) i 2 (km (rl_L u i) (pu u i) 2)))) (cells' := kc) (slots' := nc) rfl rfl C S.1 S.2.1 S.2.2 (fun hPb hDb => g_runV (wr := ((a7, .inl (cI, u.2.1, .inl (upd (f7) i (u.1 4 i)))) :: (a8, .inl (cI, u.2.1, .inl (upd (f8) i (rf_tk u i)))) :: (a9, .inl (cI, u.2.1, .inl (upd (f9) i (rf_cm u i)))) :: (a10, .inl (cI, u.2.1, .inl (upd (f10) i (u.1 6 i)))) :: hw_w cI cB h6 u.2.1 r6 (gw (gw (gw g i 0 (km (rl_L u i) (pu u i) 0)) i 1 (km (rl_L u i) (pu u i) 1)) i 2 (km (rl_L u i) (pu u i) 2))) ++ rs_w cI cR o z u) (n := 2) (As := [.int (nI i), .int 0]) C (mX0_told l D t cI ob ad H.size (rf_cs (rf_cs (rf_cs v i) i) i) (by rw [hE.n]; exact hu8) i (by rw [hE.n]; exact hin) 0 (by decide)) (rw_V q219 q220 q221 q2 q222) kd_X0_told ⟨Nat.le_of_ble_eq_true rfl, Nat.le_of_ble_eq_true rfl⟩ (ci := 0) rfl rfl rfl (C.2.2.2.2.2.1.sub (tys' := [(cI, .int)]) [0] rfl) hPb hDb S.2.2 hl.1 rfl rfl (Nat.le_of_ble_eq_true rfl) dL_law_236 ⟨(show kc + 0 ≤ 728402 by omega), (show nc + 0 ≤ 6916263 by omega)⟩) (fun v w' H locs hv _ hP9 hD9 hS9 => ?_)
    obtain ⟨rfl, rfl⟩ := hv
    have S : sS D A s cI cR o z u (ra_w cI ob ad (rf_cs (rf_cs (rf_cs v i) i) i) ++ ((a7, .inl (cI, u.2.1, .inl (upd (f7) i (u.1 4 i)))) :: (a8, .inl (cI, u.2.1, .inl (upd (f8) i (rf_tk u i)))) :: (a9, .inl (cI, u.2.1, .inl (upd (f9) i (rf_cm u i)))) :: (a10, .inl (cI, u.2.1, .inl (upd (f10) i (u.1 6 i)))) :: hw_w cI cB h6 u.2.1 r6 (gw (gw (gw g i 0 (km (rl_L u i) (pu u i) 0)) i 1 (km (rl_L u i) (pu u i) 1)) i 2 (km (rl_L u i) (pu u i) 2)))) H locs := ⟨hP9, hD9, hS9⟩
    refine g_top (y := u.1 0 i) (e9_told hE i (by decide)) ?_
    rcases pb_kd B hin with hk0 | hk0 | hk0
    · refine g_top (y := 0) hk0 ?_
      refine lv_istore (lv' := [(14, .int 0), (13, .int (rf_ww u 7 i)), (0, .ref (t 9)), (1, .ref ob), (2, .ref o), (3, .int (nI ti)), (5, .int (nI u.2.1)), (6, .ref h6), (7, .ref a7), (8, .ref a8), (9, .ref a9), (10, .ref a10), (11, .int (rf_sm (rf_ww u 7) i)), (12, .int (nI i))]) hx hb dL_law_239 hl (by decide) rfl (fun ls hl => ?_)
      refine lv_iload hx hb dL_law_241 (lv_at hl 12 rfl) ?_
      refine lv_iload hx hb dL_law_243 (lv_at hl 1 rfl) ?_
      refine lv_iadd hx hb dL_law_245 ?_
      refine lv_istore (lv' := [(11, .int ((rf_sm (rf_ww u 7) i) + (rf_ww u 7 i))), (14, .int 0), (13, .int (rf_ww u 7 i)), (0, .ref (t 9)), (1, .ref ob), (2, .ref o), (3, .int (nI ti)), (5, .int (nI u.2.1)), (6, .ref h6), (7, .ref a7), (8, .ref a8), (9, .ref a9), (10, .ref a10), (12, .int (nI i))]) hx hb dL_law_246 hl (by decide) rfl (fun ls hl => ?_)
      refine lv_iload hx hb dL_law_248 (lv_at hl 2 rfl) ?_
      refine lv_if_lt (tgt := 326) hx hb dL_law_250 (by decide) (fun c6 => absurd c6 (pb_w0 B hin)) (fun c6 => ?_)
      refine lv_iload hx hb dL_law_253 (lv_at hl 1 rfl) ?_
      refine lv_iconst (v := 2) hx hb dL_law_255 (by decide) ?_
      refine lv_icmp_ge (tgt := 272) hx hb dL_law_256 (by decide) (fun c7 => absurd c7 (by decide)) (fun c7 => ?_)
      refine lv_iload hx hb dL_law_259 (lv_at hl 2 rfl) ?_
      refine lv_aload_n hx hb dL_law_261 rfl (lv_at hl 4 rfl) ?_
      refine lv_iload hx hb dL_law_262 (lv_at hl 13 rfl) ?_
      refine lv_iload hx hb dL_law_264 (lv_at hl 1 rfl) ?_
      refine m_ci (wa := rs_w cI cR o z u) (wb := ra_w cI ob ad (rf_cs (rf_cs (rf_cs v i) i) i)) (wd := ((a7, .inl (cI, u.2.1, .inl (upd (f7) i (u.1 4 i)))) :: (a8, .inl (cI, u.2.1, .inl (upd (f8) i (rf_tk u i)))) :: (a9, .inl (cI, u.2.1, .inl (upd (f9) i (rf_cm u i)))) :: (a10, .inl (cI, u.2.1, .inl (upd (f10) i (u.1 6 i)))) :: hw_w cI cB h6 u.2.1 r6 (gw (gw (gw g i 0 (km (rl_L u i) (pu u i) 0)) i 1 (km (rl_L u i) (pu u i) 1)) i 2 (km (rl_L u i) (pu u i) 2)))) (cells' := kc) (slots' := nc) rfl rfl C S.1 S.2.1 S.2.2 (fun hPb hDb => g_runV (wr := ((a7, .inl (cI, u.2.1, .inl (upd (f7) i (u.1 4 i)))) :: (a8, .inl (cI, u.2.1, .inl (upd (f8) i (rf_tk u i)))) :: (a9, .inl (cI, u.2.1, .inl (upd (f9) i (rf_cm u i)))) :: (a10, .inl (cI, u.2.1, .inl (upd (f10) i (u.1 6 i)))) :: hw_w cI cB h6 u.2.1 r6 (gw (gw (gw g i 0 (km (rl_L u i) (pu u i) 0)) i 1 (km (rl_L u i) (pu u i) 1)) i 2 (km (rl_L u i) (pu u i) 2))) ++ rs_w cI cR o z u) (n := 2) (As := [.int (nI i), .int 0]) C (mX0_wage l D t cI ob ad H.size (rf_cs (rf_cs (rf_cs v i) i) i) (by rw [hE.n]; exact hu8) i (by rw [hE.n]; exact hin) 0 (by decide)) (rw_V q223 q224 q225 q2 q226) kd_X0_wage ⟨Nat.le_of_ble_eq_true rfl, Nat.le_of_ble_eq_true rfl⟩ (ci := 0) rfl rfl rfl (C.2.2.2.2.2.1.sub (tys' := [(cI, .int)]) [0] rfl) hPb hDb S.2.2 hl.1 rfl rfl (Nat.le_of_ble_eq_true rfl) dL_law_266 ⟨(show kc + 0 ≤ 728402 by omega), (show nc + 0 ≤ 6916263 by omega)⟩) (fun v w' H locs hv _ hP9 hD9 hS9 => ?_)
      obtain ⟨rfl, rfl⟩ := hv
      have S : sS D A s cI cR o z u (ra_w cI ob ad (rf_cs (rf_cs (rf_cs v i) i) i) ++ ((a7, .inl (cI, u.2.1, .inl (upd (f7) i (u.1 4 i)))) :: (a8, .inl (cI, u.2.1, .inl (upd (f8) i (rf_tk u i)))) :: (a9, .inl (cI, u.2.1, .inl (upd (f9) i (rf_cm u i)))) :: (a10, .inl (cI, u.2.1, .inl (upd (f10) i (u.1 6 i)))) :: hw_w cI cB h6 u.2.1 r6 (gw (gw (gw g i 0 (km (rl_L u i) (pu u i) 0)) i 1 (km (rl_L u i) (pu u i) 1)) i 2 (km (rl_L u i) (pu u i) 2)))) H locs := ⟨hP9, hD9, hS9⟩
      refine g_top (y := rf_pc u 7 i) (e9_w0 hE i) ?_
      refine lv_icmp_ne (tgt := 326) hx hb dL_law_269 (by decide) (fun c8 => absurd (pb_0 hk0) c8) (fun c8 => ?_)
      refine lv_iload hx hb dL_law_272 (lv_at hl 1 rfl) ?_
      refine lv_iconst (v := 2) hx hb dL_law_274 (by decide) ?_
      refine lv_icmp_ne (tgt := 328) hx hb dL_law_275 (by decide) (fun c9 => ?_) (fun c9 => absurd c9 (by decide))
      exact hb2 _ _ _ _ hE S (lv_sub hl [3, 4, 5, 6, 7, 8, 9, 10, 11, 12, 13, 0, 2] rfl)
    · refine g_top (y := 1) hk0 ?_
      refine lv_istore (lv' := [(14, .int 1), (13, .int (rf_ww u 7 i)), (0, .ref (t 9)), (1, .ref ob), (2, .ref o), (3, .int (nI ti)), (5, .int (nI u.2.1)), (6, .ref h6), (7, .ref a7), (8, .ref a8), (9, .ref a9), (10, .ref a10), (11, .int (rf_sm (rf_ww u 7) i)), (12, .int (nI i))]) hx hb dL_law_239 hl (by decide) rfl (fun ls hl => ?_)
      refine lv_iload hx hb dL_law_241 (lv_at hl 12 rfl) ?_
      refine lv_iload hx hb dL_law_243 (lv_at hl 1 rfl) ?_
      refine lv_iadd hx hb dL_law_245 ?_
      refine lv_istore (lv' := [(11, .int ((rf_sm (rf_ww u 7) i) + (rf_ww u 7 i))), (14, .int 1), (13, .int (rf_ww u 7 i)), (0, .ref (t 9)), (1, .ref ob), (2, .ref o), (3, .int (nI ti)), (5, .int (nI u.2.1)), (6, .ref h6), (7, .ref a7), (8, .ref a8), (9, .ref a9), (10, .ref a10), (12, .int (nI i))]) hx hb dL_law_246 hl (by decide) rfl (fun ls hl => ?_)
      refine lv_iload hx hb dL_law_248 (lv_at hl 2 rfl) ?_
      refine lv_if_lt (tgt := 326) hx hb dL_law_250 (by decide) (fun c10 => absurd c10 (pb_w0 B hin)) (fun c10 => ?_)
      refine lv_iload hx hb dL_law_253 (lv_at hl 1 rfl) ?_
      refine lv_iconst (v := 2) hx hb dL_law_255 (by decide) ?_
      refine lv_icmp_ge (tgt := 272) hx hb dL_law_256 (by decide) (fun c11 => absurd c11 (by decide)) (fun c11 => ?_)
      refine lv_iload hx hb dL_law_259 (lv_at hl 2 rfl) ?_
      refine lv_aload_n hx hb dL_law_261 rfl (lv_at hl 4 rfl) ?_
      refine lv_iload hx hb dL_law_262 (lv_at hl 13 rfl) ?_
      refine lv_iload hx hb dL_law_264 (lv_at hl 1 rfl) ?_
      refine m_ci (wa := rs_w cI cR o z u) (wb := ra_w cI ob ad (rf_cs (rf_cs (rf_cs v i) i) i)) (wd := ((a7, .inl (cI, u.2.1, .inl (upd (f7) i (u.1 4 i)))) :: (a8, .inl (cI, u.2.1, .inl (upd (f8) i (rf_tk u i)))) :: (a9, .inl (cI, u.2.1, .inl (upd (f9) i (rf_cm u i)))) :: (a10, .inl (cI, u.2.1, .inl (upd (f10) i (u.1 6 i)))) :: hw_w cI cB h6 u.2.1 r6 (gw (gw (gw g i 0 (km (rl_L u i) (pu u i) 0)) i 1 (km (rl_L u i) (pu u i) 1)) i 2 (km (rl_L u i) (pu u i) 2)))) (cells' := kc) (slots' := nc) rfl rfl C S.1 S.2.1 S.2.2 (fun hPb hDb => g_runV (wr := ((a7, .inl (cI, u.2.1, .inl (upd (f7) i (u.1 4 i)))) :: (a8, .inl (cI, u.2.1, .inl (upd (f8) i (rf_tk u i)))) :: (a9, .inl (cI, u.2.1, .inl (upd (f9) i (rf_cm u i)))) :: (a10, .inl (cI, u.2.1, .inl (upd (f10) i (u.1 6 i)))) :: hw_w cI cB h6 u.2.1 r6 (gw (gw (gw g i 0 (km (rl_L u i) (pu u i) 0)) i 1 (km (rl_L u i) (pu u i) 1)) i 2 (km (rl_L u i) (pu u i) 2))) ++ rs_w cI cR o z u) (n := 2) (As := [.int (nI i), .int 1]) C (mX0_wage l D t cI ob ad H.size (rf_cs (rf_cs (rf_cs v i) i) i) (by rw [hE.n]; exact hu8) i (by rw [hE.n]; exact hin) 1 (by decide)) (rw_V q223 q224 q225 q2 q226) kd_X0_wage ⟨Nat.le_of_ble_eq_true rfl, Nat.le_of_ble_eq_true rfl⟩ (ci := 0) rfl rfl rfl (C.2.2.2.2.2.1.sub (tys' := [(cI, .int)]) [0] rfl) hPb hDb S.2.2 hl.1 rfl rfl (Nat.le_of_ble_eq_true rfl) dL_law_266 ⟨(show kc + 0 ≤ 728402 by omega), (show nc + 0 ≤ 6916263 by omega)⟩) (fun v w' H locs hv _ hP9 hD9 hS9 => ?_)
      obtain ⟨rfl, rfl⟩ := hv
      have S : sS D A s cI cR o z u (ra_w cI ob ad (rf_cs (rf_cs (rf_cs v i) i) i) ++ ((a7, .inl (cI, u.2.1, .inl (upd (f7) i (u.1 4 i)))) :: (a8, .inl (cI, u.2.1, .inl (upd (f8) i (rf_tk u i)))) :: (a9, .inl (cI, u.2.1, .inl (upd (f9) i (rf_cm u i)))) :: (a10, .inl (cI, u.2.1, .inl (upd (f10) i (u.1 6 i)))) :: hw_w cI cB h6 u.2.1 r6 (gw (gw (gw g i 0 (km (rl_L u i) (pu u i) 0)) i 1 (km (rl_L u i) (pu u i) 1)) i 2 (km (rl_L u i) (pu u i) 2)))) H locs := ⟨hP9, hD9, hS9⟩
      refine g_top (y := rf_hw u 7 i) (e9_w1 hE i) ?_
      refine lv_icmp_ne (tgt := 326) hx hb dL_law_269 (by decide) (fun c12 => absurd (pb_1 hk0) c12) (fun c12 => ?_)
      refine lv_iload hx hb dL_law_272 (lv_at hl 1 rfl) ?_
      refine lv_iconst (v := 2) hx hb dL_law_274 (by decide) ?_
      refine lv_icmp_ne (tgt := 328) hx hb dL_law_275 (by decide) (fun c13 => ?_) (fun c13 => absurd c13 (by decide))
      exact hb2 _ _ _ _ hE S (lv_sub hl [3, 4, 5, 6, 7, 8, 9, 10, 11, 12, 13, 0, 2] rfl)
    · refine g_top (y := 2) hk0 ?_
      refine lv_istore (lv' := [(14, .int 2), (13, .int (rf_ww u 7 i)), (0, .ref (t 9)), (1, .ref ob), (2, .ref o), (3, .int (nI ti)), (5, .int (nI u.2.1)), (6, .ref h6), (7, .ref a7), (8, .ref a8), (9, .ref a9), (10, .ref a10), (11, .int (rf_sm (rf_ww u 7) i)), (12, .int (nI i))]) hx hb dL_law_239 hl (by decide) rfl (fun ls hl => ?_)
      refine lv_iload hx hb dL_law_241 (lv_at hl 12 rfl) ?_
      refine lv_iload hx hb dL_law_243 (lv_at hl 1 rfl) ?_
      refine lv_iadd hx hb dL_law_245 ?_
      refine lv_istore (lv' := [(11, .int ((rf_sm (rf_ww u 7) i) + (rf_ww u 7 i))), (14, .int 2), (13, .int (rf_ww u 7 i)), (0, .ref (t 9)), (1, .ref ob), (2, .ref o), (3, .int (nI ti)), (5, .int (nI u.2.1)), (6, .ref h6), (7, .ref a7), (8, .ref a8), (9, .ref a9), (10, .ref a10), (12, .int (nI i))]) hx hb dL_law_246 hl (by decide) rfl (fun ls hl => ?_)
      refine lv_iload hx hb dL_law_248 (lv_at hl 2 rfl) ?_
      refine lv_if_lt (tgt := 326) hx hb dL_law_250 (by decide) (fun c14 => absurd c14 (pb_w0 B hin)) (fun c14 => ?_)
      refine lv_iload hx hb dL_law_253 (lv_at hl 1 rfl) ?_
      refine lv_iconst (v := 2) hx hb dL_law_255 (by decide) ?_
      refine lv_icmp_ge (tgt := 272) hx hb dL_law_256 (by decide) (fun c15 => ?_) (fun c15 => absurd (by decide) c15)
      refine lv_iload hx hb dL_law_272 (lv_at hl 1 rfl) ?_
      refine lv_iconst (v := 2) hx hb dL_law_274 (by decide) ?_
      refine lv_icmp_ne (tgt := 328) hx hb dL_law_275 (by decide) (fun c16 => absurd (by decide) c16) (fun c16 => ?_)
      refine lv_iload hx hb dL_law_278 (lv_at hl 2 rfl) ?_
      refine lv_aload_n hx hb dL_law_280 rfl (lv_at hl 4 rfl) ?_
      refine lv_iload hx hb dL_law_281 (lv_at hl 13 rfl) ?_
      refine lv_iconst (v := 0) hx hb dL_law_283 (by decide) ?_
      refine m_ci (wa := rs_w cI cR o z u) (wb := ra_w cI ob ad (rf_cs (rf_cs (rf_cs v i) i) i)) (wd := ((a7, .inl (cI, u.2.1, .inl (upd (f7) i (u.1 4 i)))) :: (a8, .inl (cI, u.2.1, .inl (upd (f8) i (rf_tk u i)))) :: (a9, .inl (cI, u.2.1, .inl (upd (f9) i (rf_cm u i)))) :: (a10, .inl (cI, u.2.1, .inl (upd (f10) i (u.1 6 i)))) :: hw_w cI cB h6 u.2.1 r6 (gw (gw (gw g i 0 (km (rl_L u i) (pu u i) 0)) i 1 (km (rl_L u i) (pu u i) 1)) i 2 (km (rl_L u i) (pu u i) 2)))) (cells' := kc) (slots' := nc) rfl rfl C S.1 S.2.1 S.2.2 (fun hPb hDb => g_runV (wr := ((a7, .inl (cI, u.2.1, .inl (upd (f7) i (u.1 4 i)))) :: (a8, .inl (cI, u.2.1, .inl (upd (f8) i (rf_tk u i)))) :: (a9, .inl (cI, u.2.1, .inl (upd (f9) i (rf_cm u i)))) :: (a10, .inl (cI, u.2.1, .inl (upd (f10) i (u.1 6 i)))) :: hw_w cI cB h6 u.2.1 r6 (gw (gw (gw g i 0 (km (rl_L u i) (pu u i) 0)) i 1 (km (rl_L u i) (pu u i) 1)) i 2 (km (rl_L u i) (pu u i) 2))) ++ rs_w cI cR o z u) (n := 2) (As := [.int (nI i), .int 0]) C (mX0_wage l D t cI ob ad H.size (rf_cs (rf_cs (rf_cs v i) i) i) (by rw [hE.n]; exact hu8) i (by rw [hE.n]; exact hin) 0 (by decide)) (rw_V q223 q224 q225 q2 q226) kd_X0_wage ⟨Nat.le_of_ble_eq_true rfl, Nat.le_of_ble_eq_true rfl⟩ (ci := 0) rfl rfl rfl (C.2.2.2.2.2.1.sub (tys' := [(cI, .int)]) [0] rfl) hPb hDb S.2.2 hl.1 rfl rfl (Nat.le_of_ble_eq_true rfl) dL_law_284 ⟨(show kc + 0 ≤ 728402 by omega), (show nc + 0 ≤ 6916263 by omega)⟩) (fun v w' H locs hv _ hP9 hD9 hS9 => ?_)
      obtain ⟨rfl, rfl⟩ := hv
      have S : sS D A s cI cR o z u (ra_w cI ob ad (rf_cs (rf_cs (rf_cs v i) i) i) ++ ((a7, .inl (cI, u.2.1, .inl (upd (f7) i (u.1 4 i)))) :: (a8, .inl (cI, u.2.1, .inl (upd (f8) i (rf_tk u i)))) :: (a9, .inl (cI, u.2.1, .inl (upd (f9) i (rf_cm u i)))) :: (a10, .inl (cI, u.2.1, .inl (upd (f10) i (u.1 6 i)))) :: hw_w cI cB h6 u.2.1 r6 (gw (gw (gw g i 0 (km (rl_L u i) (pu u i) 0)) i 1 (km (rl_L u i) (pu u i) 1)) i 2 (km (rl_L u i) (pu u i) 2)))) H locs := ⟨hP9, hD9, hS9⟩
      refine g_top (y := rf_pc u 7 i) (e9_w0 hE i) ?_
      refine lv_icmp_lt (tgt := 326) hx hb dL_law_287 (by decide) (fun c17 => absurd c17 (pb_2 hk0).1) (fun c17 => ?_)
      refine lv_iload hx hb dL_law_290 (lv_at hl 2 rfl) ?_
      refine lv_aload_n hx hb dL_law_292 rfl (lv_at hl 4 rfl) ?_
      refine lv_iload hx hb dL_law_293 (lv_at hl 13 rfl) ?_
      refine lv_iconst (v := 1) hx hb dL_law_295 (by decide) ?_
      refine m_ci (wa := rs_w cI cR o z u) (wb := ra_w cI ob ad (rf_cs (rf_cs (rf_cs v i) i) i)) (wd := ((a7, .inl (cI, u.2.1, .inl (upd (f7) i (u.1 4 i)))) :: (a8, .inl (cI, u.2.1, .inl (upd (f8) i (rf_tk u i)))) :: (a9, .inl (cI, u.2.1, .inl (upd (f9) i (rf_cm u i)))) :: (a10, .inl (cI, u.2.1, .inl (upd (f10) i (u.1 6 i)))) :: hw_w cI cB h6 u.2.1 r6 (gw (gw (gw g i 0 (km (rl_L u i) (pu u i) 0)) i 1 (km (rl_L u i) (pu u i) 1)) i 2 (km (rl_L u i) (pu u i) 2)))) (cells' := kc) (slots' := nc) rfl rfl C S.1 S.2.1 S.2.2 (fun hPb hDb => g_runV (wr := ((a7, .inl (cI, u.2.1, .inl (upd (f7) i (u.1 4 i)))) :: (a8, .inl (cI, u.2.1, .inl (upd (f8) i (rf_tk u i)))) :: (a9, .inl (cI, u.2.1, .inl (upd (f9) i (rf_cm u i)))) :: (a10, .inl (cI, u.2.1, .inl (upd (f10) i (u.1 6 i)))) :: hw_w cI cB h6 u.2.1 r6 (gw (gw (gw g i 0 (km (rl_L u i) (pu u i) 0)) i 1 (km (rl_L u i) (pu u i) 1)) i 2 (km (rl_L u i) (pu u i) 2))) ++ rs_w cI cR o z u) (n := 2) (As := [.int (nI i), .int 1]) C (mX0_wage l D t cI ob ad H.size (rf_cs (rf_cs (rf_cs v i) i) i) (by rw [hE.n]; exact hu8) i (by rw [hE.n]; exact hin) 1 (by decide)) (rw_V q223 q224 q225 q2 q226) kd_X0_wage ⟨Nat.le_of_ble_eq_true rfl, Nat.le_of_ble_eq_true rfl⟩ (ci := 0) rfl rfl rfl (C.2.2.2.2.2.1.sub (tys' := [(cI, .int)]) [0] rfl) hPb hDb S.2.2 hl.1 rfl rfl (Nat.le_of_ble_eq_true rfl) dL_law_296 ⟨(show kc + 0 ≤ 728402 by omega), (show nc + 0 ≤ 6916263 by omega)⟩) (fun v w' H locs hv _ hP9 hD9 hS9 => ?_)
      obtain ⟨rfl, rfl⟩ := hv
      have S : sS D A s cI cR o z u (ra_w cI ob ad (rf_cs (rf_cs (rf_cs v i) i) i) ++ ((a7, .inl (cI, u.2.1, .inl (upd (f7) i (u.1 4 i)))) :: (a8, .inl (cI, u.2.1, .inl (upd (f8) i (rf_tk u i)))) :: (a9, .inl (cI, u.2.1, .inl (upd (f9) i (rf_cm u i)))) :: (a10, .inl (cI, u.2.1, .inl (upd (f10) i (u.1 6 i)))) :: hw_w cI cB h6 u.2.1 r6 (gw (gw (gw g i 0 (km (rl_L u i) (pu u i) 0)) i 1 (km (rl_L u i) (pu u i) 1)) i 2 (km (rl_L u i) (pu u i) 2)))) H locs := ⟨hP9, hD9, hS9⟩
      refine g_top (y := rf_hw u 7 i) (e9_w1 hE i) ?_
      refine lv_icmp_lt (tgt := 326) hx hb dL_law_299 (by decide) (fun c18 => absurd c18 (pb_2 hk0).2.1) (fun c18 => ?_)
      refine lv_iload hx hb dL_law_302 (lv_at hl 2 rfl) ?_
      refine lv_aload_n hx hb dL_law_304 rfl (lv_at hl 4 rfl) ?_
      refine lv_iload hx hb dL_law_305 (lv_at hl 13 rfl) ?_
      refine lv_iconst (v := 0) hx hb dL_law_307 (by decide) ?_
      refine m_ci (wa := rs_w cI cR o z u) (wb := ra_w cI ob ad (rf_cs (rf_cs (rf_cs v i) i) i)) (wd := ((a7, .inl (cI, u.2.1, .inl (upd (f7) i (u.1 4 i)))) :: (a8, .inl (cI, u.2.1, .inl (upd (f8) i (rf_tk u i)))) :: (a9, .inl (cI, u.2.1, .inl (upd (f9) i (rf_cm u i)))) :: (a10, .inl (cI, u.2.1, .inl (upd (f10) i (u.1 6 i)))) :: hw_w cI cB h6 u.2.1 r6 (gw (gw (gw g i 0 (km (rl_L u i) (pu u i) 0)) i 1 (km (rl_L u i) (pu u i) 1)) i 2 (km (rl_L u i) (pu u i) 2)))) (cells' := kc) (slots' := nc) rfl rfl C S.1 S.2.1 S.2.2 (fun hPb hDb => g_runV (wr := ((a7, .inl (cI, u.2.1, .inl (upd (f7) i (u.1 4 i)))) :: (a8, .inl (cI, u.2.1, .inl (upd (f8) i (rf_tk u i)))) :: (a9, .inl (cI, u.2.1, .inl (upd (f9) i (rf_cm u i)))) :: (a10, .inl (cI, u.2.1, .inl (upd (f10) i (u.1 6 i)))) :: hw_w cI cB h6 u.2.1 r6 (gw (gw (gw g i 0 (km (rl_L u i) (pu u i) 0)) i 1 (km (rl_L u i) (pu u i) 1)) i 2 (km (rl_L u i) (pu u i) 2))) ++ rs_w cI cR o z u) (n := 2) (As := [.int (nI i), .int 0]) C (mX0_wage l D t cI ob ad H.size (rf_cs (rf_cs (rf_cs v i) i) i) (by rw [hE.n]; exact hu8) i (by rw [hE.n]; exact hin) 0 (by decide)) (rw_V q223 q224 q225 q2 q226) kd_X0_wage ⟨Nat.le_of_ble_eq_true rfl, Nat.le_of_ble_eq_true rfl⟩ (ci := 0) rfl rfl rfl (C.2.2.2.2.2.1.sub (tys' := [(cI, .int)]) [0] rfl) hPb hDb S.2.2 hl.1 rfl rfl (Nat.le_of_ble_eq_true rfl) dL_law_308 ⟨(show kc + 0 ≤ 728402 by omega), (show nc + 0 ≤ 6916263 by omega)⟩) (fun v w' H locs hv _ hP9 hD9 hS9 => ?_)
      obtain ⟨rfl, rfl⟩ := hv
      have S : sS D A s cI cR o z u (ra_w cI ob ad (rf_cs (rf_cs (rf_cs v i) i) i) ++ ((a7, .inl (cI, u.2.1, .inl (upd (f7) i (u.1 4 i)))) :: (a8, .inl (cI, u.2.1, .inl (upd (f8) i (rf_tk u i)))) :: (a9, .inl (cI, u.2.1, .inl (upd (f9) i (rf_cm u i)))) :: (a10, .inl (cI, u.2.1, .inl (upd (f10) i (u.1 6 i)))) :: hw_w cI cB h6 u.2.1 r6 (gw (gw (gw g i 0 (km (rl_L u i) (pu u i) 0)) i 1 (km (rl_L u i) (pu u i) 1)) i 2 (km (rl_L u i) (pu u i) 2)))) H locs := ⟨hP9, hD9, hS9⟩
      refine g_top (y := rf_pc u 7 i) (e9_w0 hE i) ?_
      refine lv_icmp_eq (tgt := 328) hx hb dL_law_311 (by decide) (fun c19 => ?_) (fun c19 => ?_)
      · exact hb2 _ _ _ _ hE S (lv_sub hl [3, 4, 5, 6, 7, 8, 9, 10, 11, 12, 13, 0, 2] rfl)
      · refine lv_iload hx hb dL_law_314 (lv_at hl 2 rfl) ?_
        refine lv_aload_n hx hb dL_law_316 rfl (lv_at hl 4 rfl) ?_
        refine lv_iload hx hb dL_law_317 (lv_at hl 13 rfl) ?_
        refine lv_iconst (v := 1) hx hb dL_law_319 (by decide) ?_
        refine m_ci (wa := rs_w cI cR o z u) (wb := ra_w cI ob ad (rf_cs (rf_cs (rf_cs v i) i) i)) (wd := ((a7, .inl (cI, u.2.1, .inl (upd (f7) i (u.1 4 i)))) :: (a8, .inl (cI, u.2.1, .inl (upd (f8) i (rf_tk u i)))) :: (a9, .inl (cI, u.2.1, .inl (upd (f9) i (rf_cm u i)))) :: (a10, .inl (cI, u.2.1, .inl (upd (f10) i (u.1 6 i)))) :: hw_w cI cB h6 u.2.1 r6 (gw (gw (gw g i 0 (km (rl_L u i) (pu u i) 0)) i 1 (km (rl_L u i) (pu u i) 1)) i 2 (km (rl_L u i) (pu u i) 2)))) (cells' := kc) (slots' := nc) rfl rfl C S.1 S.2.1 S.2.2 (fun hPb hDb => g_runV (wr := ((a7, .inl (cI, u.2.1, .inl (upd (f7) i (u.1 4 i)))) :: (a8, .inl (cI, u.2.1, .inl (upd (f8) i (rf_tk u i)))) :: (a9, .inl (cI, u.2.1, .inl (upd (f9) i (rf_cm u i)))) :: (a10, .inl (cI, u.2.1, .inl (upd (f10) i (u.1 6 i)))) :: hw_w cI cB h6 u.2.1 r6 (gw (gw (gw g i 0 (km (rl_L u i) (pu u i) 0)) i 1 (km (rl_L u i) (pu u i) 1)) i 2 (km (rl_L u i) (pu u i) 2))) ++ rs_w cI cR o z u) (n := 2) (As := [.int (nI i), .int 1]) C (mX0_wage l D t cI ob ad H.size (rf_cs (rf_cs (rf_cs v i) i) i) (by rw [hE.n]; exact hu8) i (by rw [hE.n]; exact hin) 1 (by decide)) (rw_V q223 q224 q225 q2 q226) kd_X0_wage ⟨Nat.le_of_ble_eq_true rfl, Nat.le_of_ble_eq_true rfl⟩ (ci := 0) rfl rfl rfl (C.2.2.2.2.2.1.sub (tys' := [(cI, .int)]) [0] rfl) hPb hDb S.2.2 hl.1 rfl rfl (Nat.le_of_ble_eq_true rfl) dL_law_320 ⟨(show kc + 0 ≤ 728402 by omega), (show nc + 0 ≤ 6916263 by omega)⟩) (fun v w' H locs hv _ hP9 hD9 hS9 => ?_)
        obtain ⟨rfl, rfl⟩ := hv
        have S : sS D A s cI cR o z u (ra_w cI ob ad (rf_cs (rf_cs (rf_cs v i) i) i) ++ ((a7, .inl (cI, u.2.1, .inl (upd (f7) i (u.1 4 i)))) :: (a8, .inl (cI, u.2.1, .inl (upd (f8) i (rf_tk u i)))) :: (a9, .inl (cI, u.2.1, .inl (upd (f9) i (rf_cm u i)))) :: (a10, .inl (cI, u.2.1, .inl (upd (f10) i (u.1 6 i)))) :: hw_w cI cB h6 u.2.1 r6 (gw (gw (gw g i 0 (km (rl_L u i) (pu u i) 0)) i 1 (km (rl_L u i) (pu u i) 1)) i 2 (km (rl_L u i) (pu u i) 2)))) H locs := ⟨hP9, hD9, hS9⟩
        refine g_top (y := rf_hw u 7 i) (e9_w1 hE i) ?_
        refine lv_icmp_eq (tgt := 328) hx hb dL_law_323 (by decide) (fun c20 => ?_) (fun c20 => absurd ((pb_2 hk0).2.2 c19) c20)
        exact hb2 _ _ _ _ hE S (lv_sub hl [3, 4, 5, 6, 7, 8, 9, 10, 11, 12, 13, 0, 2] rfl)
set_option maxHeartbeats 4000000 in
set_option maxRecDepth 100000 in
theorem lpL_cc {p : Program} {l : Launch} {e : Env} {s : State} {m : MethodId} {args : Array Value} {below : List Frame} {meth : Method} {c : Code} {Q : State → Prop} {D : va_G} {t : Nat → Nat} {A : Nat → Prop} {cI cR cB : ClassId} {o ob T ti h6 a7 a8 a9 a10 a12 a16 kc nc : Nat} {r6 : Nat → Nat} {v : S0} {f7 f8 f9 f10 wf : Nat → Int32} {g : Nat → Nat → Int32} {ad : Nat → Nat} {z : SA} {u : S0} {i : Nat} {f12 : Nat → Int32} (C : gC p s m args meth c code 23 RL D (ty3 cI cR cB) t A) (B : rB T u) (hT1 : T + 1 ≤ 400) (hE : E9 (rf_pay u) v) (h7 : ∀ k : Nat, k < u.2.1 → f7 k = u.1 4 k) (h8 : ∀ k : Nat, k < u.2.1 → f8 k = rf_tk u k) (h9 : ∀ k : Nat, k < u.2.1 → f9 k = rf_cm u k) (h10 : ∀ k : Nat, k < u.2.1 → f10 k = u.1 6 k) (hg : ∀ k c : Nat, k < u.2.1 → c < 3 → g k c = km (rl_L u k) (pu u k) c) (hwf : ∀ c : Nat, c < 3 → wf c = rt_RX0_COIN_WORTH c) (hin : i < u.2.1) (hkc : kc ≤ 700000) (hnc : nc ≤ 6900000) (kk : ∀ (H : Heap) (locs : List Loc) (ls : Array Slot), sS D A s cI cR o z (rf_pay u) (ra_w cI ob ad v ++ ((a7, .inl (cI, u.2.1, .inl (f7))) :: (a8, .inl (cI, u.2.1, .inl (f8))) :: (a9, .inl (cI, u.2.1, .inl (f9))) :: (a10, .inl (cI, u.2.1, .inl (f10))) :: (a12, .inl (cI, 3, .inl (f12))) :: (a16, .inl (cI, 3, .inl (wf))) :: hw_w cI cB h6 u.2.1 r6 g)) H locs → lv_has ls 23 [(0, .ref (t 9)), (1, .ref ob), (2, .ref o), (3, .int (nI ti)), (5, .int (nI u.2.1)), (6, .ref h6), (7, .ref a7), (8, .ref a8), (9, .ref a9), (10, .ref a10), (12, .ref a12), (13, .int (rf_sm (fun r => ks (rl_L u r) (pu u r) 3 / 4) u.2.1)), (15, .int ((rf_py u u.2.1).1)), (16, .ref a16), (17, .int (rf_sm (its u) (i + 1))), (18, .int (rf_sm ((rf_pay u).1 5) (i + 1))), (19, .int (rf_sm (fun r => ks (rl_L u r) (pu u r) 3 / 4) (i + 1))), (20, .int (nI i)), (21, .int (its u i)), (22, .int (nI 3))] → W p l e room_1 s m args below meth c H locs kc nc Q (F0 m 819 ls [])) :
    ∀ (n c9 : Nat), c9 + n = 3 → ∀ (H : Heap) (locs : List Loc) (ls : Array Slot), sS D A s cI cR o z (rf_pay u) (ra_w cI ob ad v ++ ((a7, .inl (cI, u.2.1, .inl (f7))) :: (a8, .inl (cI, u.2.1, .inl (f8))) :: (a9, .inl (cI, u.2.1, .inl (f9))) :: (a10, .inl (cI, u.2.1, .inl (f10))) :: (a12, .inl (cI, 3, .inl (f12))) :: (a16, .inl (cI, 3, .inl (wf))) :: hw_w cI cB h6 u.2.1 r6 g)) H locs → lv_has ls 23 [(0, .ref (t 9)), (1, .ref ob), (2, .ref o), (3, .int (nI ti)), (5, .int (nI u.2.1)), (6, .ref h6), (7, .ref a7), (8, .ref a8), (9, .ref a9), (10, .ref a10), (12, .ref a12), (13, .int (rf_sm (fun r => ks (rl_L u r) (pu u r) 3 / 4) u.2.1)), (15, .int ((rf_py u u.2.1).1)), (16, .ref a16), (17, .int (rf_sm (its u) (i + 1))), (18, .int (rf_sm ((rf_pay u).1 5) (i + 1))), (19, .int (rf_sm (fun r => ks (rl_L u r) (pu u r) 3 / 4) (i + 1))), (20, .int (nI i)), (21, .int (its u i)), (22, .int (nI c9))] → W p l e room_1 s m args below meth c H locs kc nc Q (F0 m 781 ls []) := by
  have hx := C.1
  have hb := C.2.1
  have hown := C.2.2.2.1
  have hts := C.2.2.2.2.1
  have hu8 : u.2.1 ≤ 8 := B.1
  intro n
  induction n with
  | zero =>
    intro c9 hi H locs ls S hl
    have hiN : c9 = 3 := by omega
    refine lv_iload hx hb dL_law_781 (lv_at hl 19 rfl) ?_
    refine lv_iconst (v := 3) hx hb dL_law_783 (by decide) ?_
    refine lv_icmp_ge (tgt := 819) hx hb dL_law_784 (by decide) (fun c1 => ?_) (fun c1 => absurd ((nI_leI (a := 3) (b := c9) (by omega) (by omega)).mpr (by omega)) c1)
    rw [hiN] at hl
    exact kk _ _ _ S (lv_sub hl [0, 1, 2, 3, 4, 5, 6, 7, 8, 9, 10, 11, 12, 13, 14, 15, 16, 17, 18, 19] rfl)
  | succ n ih =>
    intro c9 hi H locs ls S hl
    have hc9 : c9 < 3 := by omega
    refine lv_iload hx hb dL_law_781 (lv_at hl 19 rfl) ?_
    refine lv_iconst (v := 3) hx hb dL_law_783 (by decide) ?_
    refine lv_icmp_ge (tgt := 819) hx hb dL_law_784 (by decide) (fun c1 => absurd c1 (fun h9 => absurd ((nI_leI (a := 3) (b := c9) (by omega) (by omega)).mp h9) (by omega))) (fun c1 => ?_)
    refine lv_aload_n hx hb dL_law_787 rfl (lv_at hl 1 rfl) ?_
    refine lv_iload hx hb dL_law_788 (lv_at hl 17 rfl) ?_
    refine lv_iconst (v := 5) hx hb dL_law_790 (by decide) ?_
    refine m_ci (wa := rs_w cI cR o z (rf_pay u)) (wb := ra_w cI ob ad v) (wd := ((a7, .inl (cI, u.2.1, .inl (f7))) :: (a8, .inl (cI, u.2.1, .inl (f8))) :: (a9, .inl (cI, u.2.1, .inl (f9))) :: (a10, .inl (cI, u.2.1, .inl (f10))) :: (a12, .inl (cI, 3, .inl (f12))) :: (a16, .inl (cI, 3, .inl (wf))) :: hw_w cI cB h6 u.2.1 r6 g)) (cells' := kc) (slots' := nc) rfl rfl C S.1 S.2.1 S.2.2 (fun hPb hDb => g_runV (wr := ((a7, .inl (cI, u.2.1, .inl (f7))) :: (a8, .inl (cI, u.2.1, .inl (f8))) :: (a9, .inl (cI, u.2.1, .inl (f9))) :: (a10, .inl (cI, u.2.1, .inl (f10))) :: (a12, .inl (cI, 3, .inl (f12))) :: (a16, .inl (cI, 3, .inl (wf))) :: hw_w cI cB h6 u.2.1 r6 g) ++ rs_w cI cR o z (rf_pay u)) (n := 2) (As := [.int (nI i), .int 5]) C (mX0_told l D t cI ob ad H.size v (by rw [hE.n]; exact hu8) i (by rw [hE.n]; exact hin) 5 (by decide)) (rw_V q219 q220 q221 q2 q222) kd_X0_told ⟨Nat.le_of_ble_eq_true rfl, Nat.le_of_ble_eq_true rfl⟩ (ci := 0) rfl rfl rfl (C.2.2.2.2.2.1.sub (tys' := [(cI, .int)]) [0] rfl) hPb hDb S.2.2 hl.1 rfl rfl (Nat.le_of_ble_eq_true rfl) dL_law_791 ⟨(show kc + 0 ≤ 728402 by omega), (show nc + 0 ≤ 6916263 by omega)⟩) (fun v w' H locs hv _ hP9 hD9 hS9 => ?_)
    obtain ⟨rfl, rfl⟩ := hv
    have S : sS D A s cI cR o z (rf_pay u) (ra_w cI ob ad v ++ ((a7, .inl (cI, u.2.1, .inl (f7))) :: (a8, .inl (cI, u.2.1, .inl (f8))) :: (a9, .inl (cI, u.2.1, .inl (f9))) :: (a10, .inl (cI, u.2.1, .inl (f10))) :: (a12, .inl (cI, 3, .inl (f12))) :: (a16, .inl (cI, 3, .inl (wf))) :: hw_w cI cB h6 u.2.1 r6 g)) H locs := ⟨hP9, hD9, hS9⟩
    refine g_top (y := (rf_pay u).1 5 i) (e9_told hE i (by decide)) ?_
    refine lv_aload hx hb dL_law_794 (lv_at hl 13 rfl) ?_
    refine lv_iload hx hb dL_law_796 (lv_at hl 19 rfl) ?_
    refine x_ld C S 18 (n := 3) (f := wf) (i := c9) rfl (by omega) hc9 rfl dL_law_798 ?_
    refine g_top (y := rt_RX0_COIN_WORTH c9) (hwf _ hc9) ?_
    refine lv_icmp_lt (tgt := 813) hx hb dL_law_799 (by decide) (fun c2 => ?_) (fun c2 => ?_)
    · refine lv_iinc (v := nI (c9 + 1)) (lv' := [(22, .int (nI (c9 + 1))), (0, .ref (t 9)), (1, .ref ob), (2, .ref o), (3, .int (nI ti)), (5, .int (nI u.2.1)), (6, .ref h6), (7, .ref a7), (8, .ref a8), (9, .ref a9), (10, .ref a10), (12, .ref a12), (13, .int (rf_sm (fun r => ks (rl_L u r) (pu u r) 3 / 4) u.2.1)), (15, .int ((rf_py u u.2.1).1)), (16, .ref a16), (17, .int (rf_sm (its u) (i + 1))), (18, .int (rf_sm ((rf_pay u).1 5) (i + 1))), (19, .int (rf_sm (fun r => ks (rl_L u r) (pu u r) 3 / 4) (i + 1))), (20, .int (nI i)), (21, .int (its u i))]) hx hb dL_law_813 hl (k := 19) rfl (nI_1 _) (by decide) rfl (fun ls hl => ?_)
      refine lv_goto (tgt := 781) hx hb dL_law_816 (by decide) ?_
      exact ih (c9 + 1) (by omega) _ _ _ S (lv_sub hl [1, 2, 3, 4, 5, 6, 7, 8, 9, 10, 11, 12, 13, 14, 15, 16, 17, 18, 19, 0] rfl)
    · refine lv_aload_n hx hb dL_law_802 rfl (lv_at hl 1 rfl) ?_
      refine lv_iload hx hb dL_law_803 (lv_at hl 19 rfl) ?_
      refine m_ci (wa := rs_w cI cR o z (rf_pay u)) (wb := ra_w cI ob ad v) (wd := ((a7, .inl (cI, u.2.1, .inl (f7))) :: (a8, .inl (cI, u.2.1, .inl (f8))) :: (a9, .inl (cI, u.2.1, .inl (f9))) :: (a10, .inl (cI, u.2.1, .inl (f10))) :: (a12, .inl (cI, 3, .inl (f12))) :: (a16, .inl (cI, 3, .inl (wf))) :: hw_w cI cB h6 u.2.1 r6 g)) (cells' := kc) (slots' := nc) rfl rfl C S.1 S.2.1 S.2.2 (fun hPb hDb => g_runV (wr := ((a7, .inl (cI, u.2.1, .inl (f7))) :: (a8, .inl (cI, u.2.1, .inl (f8))) :: (a9, .inl (cI, u.2.1, .inl (f9))) :: (a10, .inl (cI, u.2.1, .inl (f10))) :: (a12, .inl (cI, 3, .inl (f12))) :: (a16, .inl (cI, 3, .inl (wf))) :: hw_w cI cB h6 u.2.1 r6 g) ++ rs_w cI cR o z (rf_pay u)) (n := 1) (As := [.int (nI c9)]) C (mX0_chest l D t cI ob ad H.size v c9 hc9) (rw_V q231 q232 q233 q2 q234) kd_X0_chest ⟨Nat.le_of_ble_eq_true rfl, Nat.le_of_ble_eq_true rfl⟩ (ci := 0) rfl rfl rfl (C.2.2.2.2.2.1.sub (tys' := [(cI, .int)]) [0] rfl) hPb hDb S.2.2 hl.1 rfl rfl (Nat.le_of_ble_eq_true rfl) dL_law_805 ⟨(show kc + 0 ≤ 728402 by omega), (show nc + 0 ≤ 6916263 by omega)⟩) (fun v w' H locs hv _ hP9 hD9 hS9 => ?_)
      obtain ⟨rfl, rfl⟩ := hv
      have S : sS D A s cI cR o z (rf_pay u) (ra_w cI ob ad v ++ ((a7, .inl (cI, u.2.1, .inl (f7))) :: (a8, .inl (cI, u.2.1, .inl (f8))) :: (a9, .inl (cI, u.2.1, .inl (f9))) :: (a10, .inl (cI, u.2.1, .inl (f10))) :: (a12, .inl (cI, 3, .inl (f12))) :: (a16, .inl (cI, 3, .inl (wf))) :: hw_w cI cB h6 u.2.1 r6 g)) H locs := ⟨hP9, hD9, hS9⟩
      refine g_top (y := (rf_pay u).1 8 c9) (congrFun (hE.2 8 (by decide)) c9) ?_
      refine lv_if_le (tgt := 813) hx hb dL_law_808 (by decide) (fun c3 => ?_) (fun c3 => absurd (pa_c B hT1 hin hc9 (Int32.not_lt.mp c2)) c3)
      refine lv_iinc (v := nI (c9 + 1)) (lv' := [(22, .int (nI (c9 + 1))), (0, .ref (t 9)), (1, .ref ob), (2, .ref o), (3, .int (nI ti)), (5, .int (nI u.2.1)), (6, .ref h6), (7, .ref a7), (8, .ref a8), (9, .ref a9), (10, .ref a10), (12, .ref a12), (13, .int (rf_sm (fun r => ks (rl_L u r) (pu u r) 3 / 4) u.2.1)), (15, .int ((rf_py u u.2.1).1)), (16, .ref a16), (17, .int (rf_sm (its u) (i + 1))), (18, .int (rf_sm ((rf_pay u).1 5) (i + 1))), (19, .int (rf_sm (fun r => ks (rl_L u r) (pu u r) 3 / 4) (i + 1))), (20, .int (nI i)), (21, .int (its u i))]) hx hb dL_law_813 hl (k := 19) rfl (nI_1 _) (by decide) rfl (fun ls hl => ?_)
      refine lv_goto (tgt := 781) hx hb dL_law_816 (by decide) ?_
      exact ih (c9 + 1) (by omega) _ _ _ S (lv_sub hl [1, 2, 3, 4, 5, 6, 7, 8, 9, 10, 11, 12, 13, 14, 15, 16, 17, 18, 19, 0] rfl)
set_option maxHeartbeats 4000000 in
set_option maxRecDepth 100000 in
theorem lpL_r2 {p : Program} {l : Launch} {e : Env} {s : State} {m : MethodId} {args : Array Value} {below : List Frame} {meth : Method} {c : Code} {Q : State → Prop} {D : va_G} {t : Nat → Nat} {A : Nat → Prop} {cI cR cB : ClassId} {o ob T ti h6 a7 a8 a9 a10 a12 a16 kc nc : Nat} {r6 : Nat → Nat} {v : S0} {f7 f8 f9 f10 wf : Nat → Int32} {g : Nat → Nat → Int32} {ad : Nat → Nat} {z : SA} {u : S0} (C : gC p s m args meth c code 23 RL D (ty3 cI cR cB) t A) (B : rB T u) (hT1 : T + 1 ≤ 400) (hE : E9 (rf_pay u) v) (h7 : ∀ k : Nat, k < u.2.1 → f7 k = u.1 4 k) (h8 : ∀ k : Nat, k < u.2.1 → f8 k = rf_tk u k) (h9 : ∀ k : Nat, k < u.2.1 → f9 k = rf_cm u k) (h10 : ∀ k : Nat, k < u.2.1 → f10 k = u.1 6 k) (hg : ∀ k c : Nat, k < u.2.1 → c < 3 → g k c = km (rl_L u k) (pu u k) c) (hwf : ∀ c : Nat, c < 3 → wf c = rt_RX0_COIN_WORTH c) (hkc : kc ≤ 700000) (hnc : nc ≤ 6900000) (kk : ∀ (f12 : Nat → Int32) (H : Heap) (locs : List Loc) (ls : Array Slot), (∀ c : Nat, c < 3 → f12 c = pu u u.2.1 c) → sS D A s cI cR o z (rf_pay u) (ra_w cI ob ad v ++ ((a7, .inl (cI, u.2.1, .inl (f7))) :: (a8, .inl (cI, u.2.1, .inl (f8))) :: (a9, .inl (cI, u.2.1, .inl (f9))) :: (a10, .inl (cI, u.2.1, .inl (f10))) :: (a12, .inl (cI, 3, .inl (f12))) :: (a16, .inl (cI, 3, .inl (wf))) :: hw_w cI cB h6 u.2.1 r6 g)) H locs → lv_has ls 23 [(0, .ref (t 9)), (1, .ref ob), (2, .ref o), (3, .int (nI ti)), (5, .int (nI u.2.1)), (6, .ref h6), (7, .ref a7), (8, .ref a8), (9, .ref a9), (10, .ref a10), (12, .ref a12), (13, .int (rf_sm (fun r => ks (rl_L u r) (pu u r) 3 / 4) u.2.1)), (15, .int ((rf_py u u.2.1).1)), (16, .ref a16), (17, .int (rf_sm (its u) u.2.1)), (18, .int (rf_sm ((rf_pay u).1 5) u.2.1)), (19, .int (rf_sm (fun r => ks (rl_L u r) (pu u r) 3 / 4) u.2.1)), (20, .int (nI u.2.1))] → W p l e room_1 s m args below meth c H locs kc nc Q (F0 m 882 ls [])) :
    ∀ (n i : Nat), i + n = u.2.1 → ∀ (f12 : Nat → Int32) (H : Heap) (locs : List Loc) (ls : Array Slot), (∀ c : Nat, c < 3 → f12 c = pu u i c) → sS D A s cI cR o z (rf_pay u) (ra_w cI ob ad v ++ ((a7, .inl (cI, u.2.1, .inl (f7))) :: (a8, .inl (cI, u.2.1, .inl (f8))) :: (a9, .inl (cI, u.2.1, .inl (f9))) :: (a10, .inl (cI, u.2.1, .inl (f10))) :: (a12, .inl (cI, 3, .inl (f12))) :: (a16, .inl (cI, 3, .inl (wf))) :: hw_w cI cB h6 u.2.1 r6 g)) H locs → lv_has ls 23 [(0, .ref (t 9)), (1, .ref ob), (2, .ref o), (3, .int (nI ti)), (5, .int (nI u.2.1)), (6, .ref h6), (7, .ref a7), (8, .ref a8), (9, .ref a9), (10, .ref a10), (12, .ref a12), (13, .int (rf_sm (fun r => ks (rl_L u r) (pu u r) 3 / 4) u.2.1)), (15, .int ((rf_py u u.2.1).1)), (16, .ref a16), (17, .int (rf_sm (its u) i)), (18, .int (rf_sm ((rf_pay u).1 5) i)), (19, .int (rf_sm (fun r => ks (rl_L u r) (pu u r) 3 / 4) i)), (20, .int (nI i))] → W p l e room_1 s m args below meth c H locs kc nc Q (F0 m 596 ls []) := by
  have hx := C.1
  have hb := C.2.1
  have hown := C.2.2.2.1
  have hts := C.2.2.2.2.1
  have hu8 : u.2.1 ≤ 8 := B.1
  intro n
  induction n with
  | zero =>
    intro i hi f12 H locs ls h12 S hl
    have hiN : i = u.2.1 := by omega
    refine lv_iload hx hb dL_law_596 (lv_at hl 17 rfl) ?_
    refine lv_iload hx hb dL_law_598 (lv_at hl 4 rfl) ?_
    refine lv_icmp_ge (tgt := 882) hx hb dL_law_600 (by decide) (fun c1 => ?_) (fun c1 => absurd ((nI_leI (a := u.2.1) (b := i) (by omega) (by omega)).mpr (by omega)) c1)
    rw [hiN] at h12 hl
    exact kk _ _ _ _ h12 S (lv_sub hl [0, 1, 2, 3, 4, 5, 6, 7, 8, 9, 10, 11, 12, 13, 14, 15, 16, 17] rfl)
  | succ n ih =>
    intro i hi f12 H locs ls h12 S hl
    have hin : i < u.2.1 := by omega
    refine lv_iload hx hb dL_law_596 (lv_at hl 17 rfl) ?_
    refine lv_iload hx hb dL_law_598 (lv_at hl 4 rfl) ?_
    refine lv_icmp_ge (tgt := 882) hx hb dL_law_600 (by decide) (fun c1 => absurd c1 (fun h9 => absurd ((nI_leI (a := u.2.1) (b := i) (by omega) (by omega)).mp h9) (by omega))) (fun c1 => ?_)
    refine lv_iconst (v := 0) hx hb dL_law_603 (by decide) ?_
    refine lv_istore (lv' := [(21, .int 0), (0, .ref (t 9)), (1, .ref ob), (2, .ref o), (3, .int (nI ti)), (5, .int (nI u.2.1)), (6, .ref h6), (7, .ref a7), (8, .ref a8), (9, .ref a9), (10, .ref a10), (12, .ref a12), (13, .int (rf_sm (fun r => ks (rl_L u r) (pu u r) 3 / 4) u.2.1)), (15, .int ((rf_py u u.2.1).1)), (16, .ref a16), (17, .int (rf_sm (its u) i)), (18, .int (rf_sm ((rf_pay u).1 5) i)), (19, .int (rf_sm (fun r => ks (rl_L u r) (pu u r) 3 / 4) i)), (20, .int (nI i))]) hx hb dL_law_604 hl (by decide) rfl (fun ls hl => ?_)
    refine lv_iconst (v := 0) hx hb dL_law_606 (by decide) ?_
    refine lv_istore (lv' := [(22, .int 0), (21, .int 0), (0, .ref (t 9)), (1, .ref ob), (2, .ref o), (3, .int (nI ti)), (5, .int (nI u.2.1)), (6, .ref h6), (7, .ref a7), (8, .ref a8), (9, .ref a9), (10, .ref a10), (12, .ref a12), (13, .int (rf_sm (fun r => ks (rl_L u r) (pu u r) 3 / 4) u.2.1)), (15, .int ((rf_py u u.2.1).1)), (16, .ref a16), (17, .int (rf_sm (its u) i)), (18, .int (rf_sm ((rf_pay u).1 5) i)), (19, .int (rf_sm (fun r => ks (rl_L u r) (pu u r) 3 / 4) i)), (20, .int (nI i))]) hx hb dL_law_607 hl (by decide) rfl (fun ls hl => ?_)
    refine lv_iload hx hb dL_law_609 (lv_at hl 0 rfl) ?_
    refine lv_iconst (v := 3) hx hb dL_law_611 (by decide) ?_
    refine lv_icmp_ge (tgt := 669) hx hb dL_law_612 (by decide) (fun c2 => absurd c2 (by decide)) (fun c2 => ?_)
    refine lv_iload hx hb dL_law_615 (lv_at hl 1 rfl) ?_
    refine lv_aload hx hb dL_law_617 (lv_at hl 15 rfl) ?_
    refine lv_iload hx hb dL_law_619 (lv_at hl 0 rfl) ?_
    refine x_ld C S 18 (n := 3) (f := wf) (i := 0) rfl (by omega) (by omega) rfl dL_law_621 ?_
    refine g_top (y := 120) (hwf 0 (by decide)) ?_
    refine lv_aload hx hb dL_law_622 (lv_at hl 7 rfl) ?_
    refine lv_iload hx hb dL_law_624 (lv_at hl 19 rfl) ?_
    refine x_al C S 19 (n := u.2.1) (f := fun k => some (r6 k)) (i := i) rfl (by omega) hin rfl dL_law_626 ?_
    refine lv_iload hx hb dL_law_627 (lv_at hl 0 rfl) ?_
    refine x_ld C S (1 + i + 19) (n := 3) (f := g i) (i := 0) (hw_p0 hin) (by omega) (by decide) rfl dL_law_629 ?_
    refine g_top (y := km (rl_L u i) (pu u i) 0) (hg i 0 hin (by decide)) ?_
    refine lv_imul hx hb dL_law_630 ?_
    refine lv_iadd hx hb dL_law_631 ?_
    refine lv_istore (lv' := [(21, .int (0 + (120 * (km (rl_L u i) (pu u i) 0)))), (22, .int 0), (0, .ref (t 9)), (1, .ref ob), (2, .ref o), (3, .int (nI ti)), (5, .int (nI u.2.1)), (6, .ref h6), (7, .ref a7), (8, .ref a8), (9, .ref a9), (10, .ref a10), (12, .ref a12), (13, .int (rf_sm (fun r => ks (rl_L u r) (pu u r) 3 / 4) u.2.1)), (15, .int ((rf_py u u.2.1).1)), (16, .ref a16), (17, .int (rf_sm (its u) i)), (18, .int (rf_sm ((rf_pay u).1 5) i)), (19, .int (rf_sm (fun r => ks (rl_L u r) (pu u r) 3 / 4) i)), (20, .int (nI i))]) hx hb dL_law_632 hl (by decide) rfl (fun ls hl => ?_)
    refine lv_aload hx hb dL_law_634 (lv_at hl 12 rfl) ?_
    refine lv_iload hx hb dL_law_636 (lv_at hl 1 rfl) ?_
    refine lv_dup2_11 hx hb dL_law_638 rfl rfl ?_
    refine x_ld C S 17 (n := 3) (f := f12) (i := 0) rfl (by omega) (by omega) rfl dL_law_639 ?_
    refine g_top (y := pu u i 0) (h12 0 (by decide)) ?_
    refine lv_aload hx hb dL_law_640 (lv_at hl 7 rfl) ?_
    refine lv_iload hx hb dL_law_642 (lv_at hl 19 rfl) ?_
    refine x_al C S 19 (n := u.2.1) (f := fun k => some (r6 k)) (i := i) rfl (by omega) hin rfl dL_law_644 ?_
    refine lv_iload hx hb dL_law_645 (lv_at hl 1 rfl) ?_
    refine x_ld C S (1 + i + 19) (n := 3) (f := g i) (i := 0) (hw_p0 hin) (by omega) (by decide) rfl dL_law_647 ?_
    refine g_top (y := km (rl_L u i) (pu u i) 0) (hg i 0 hin (by decide)) ?_
    refine lv_isub hx hb dL_law_648 ?_
    refine x_st C S 17 (n := 3) (f := f12) (i := 0) rfl (by omega) (by omega) rfl dL_law_649 (fun H locs S => ?_)
    have S : sS D A s cI cR o z (rf_pay u) (ra_w cI ob ad v ++ ((a7, .inl (cI, u.2.1, .inl (f7))) :: (a8, .inl (cI, u.2.1, .inl (f8))) :: (a9, .inl (cI, u.2.1, .inl (f9))) :: (a10, .inl (cI, u.2.1, .inl (f10))) :: (a12, .inl (cI, 3, .inl (upd (f12) 0 ((pu u i 0) - (km (rl_L u i) (pu u i) 0))))) :: (a16, .inl (cI, 3, .inl (wf))) :: hw_w cI cB h6 u.2.1 r6 g)) H locs := S
    refine lv_aload hx hb dL_law_650 (lv_at hl 7 rfl) ?_
    refine lv_iload hx hb dL_law_652 (lv_at hl 19 rfl) ?_
    refine x_al C S 19 (n := u.2.1) (f := fun k => some (r6 k)) (i := i) rfl (by omega) hin rfl dL_law_654 ?_
    refine lv_iload hx hb dL_law_655 (lv_at hl 1 rfl) ?_
    refine x_ld C S (1 + i + 19) (n := 3) (f := g i) (i := 0) (hw_p0 hin) (by omega) (by decide) rfl dL_law_657 ?_
    refine g_top (y := km (rl_L u i) (pu u i) 0) (hg i 0 hin (by decide)) ?_
    refine lv_if_ge (tgt := 663) hx hb dL_law_658 (by decide) (fun c3 => ?_) (fun c3 => absurd (Int32.not_lt.mp (km_0 B hT1 hin (c := 0) (by decide))) c3)
    refine lv_iinc (v := nI 1) (lv' := [(22, .int (nI 1)), (21, .int (0 + (120 * (km (rl_L u i) (pu u i) 0)))), (0, .ref (t 9)), (1, .ref ob), (2, .ref o), (3, .int (nI ti)), (5, .int (nI u.2.1)), (6, .ref h6), (7, .ref a7), (8, .ref a8), (9, .ref a9), (10, .ref a10), (12, .ref a12), (13, .int (rf_sm (fun r => ks (rl_L u r) (pu u r) 3 / 4) u.2.1)), (15, .int ((rf_py u u.2.1).1)), (16, .ref a16), (17, .int (rf_sm (its u) i)), (18, .int (rf_sm ((rf_pay u).1 5) i)), (19, .int (rf_sm (fun r => ks (rl_L u r) (pu u r) 3 / 4) i)), (20, .int (nI i))]) hx hb dL_law_663 hl (k := 1) rfl (nI_1 _) (by decide) rfl (fun ls hl => ?_)
    refine lv_goto (tgt := 609) hx hb dL_law_666 (by decide) ?_
    refine lv_iload hx hb dL_law_609 (lv_at hl 0 rfl) ?_
    refine lv_iconst (v := 3) hx hb dL_law_611 (by decide) ?_
    refine lv_icmp_ge (tgt := 669) hx hb dL_law_612 (by decide) (fun c4 => absurd c4 (by decide)) (fun c4 => ?_)
    refine lv_iload hx hb dL_law_615 (lv_at hl 1 rfl) ?_
    refine lv_aload hx hb dL_law_617 (lv_at hl 15 rfl) ?_
    refine lv_iload hx hb dL_law_619 (lv_at hl 0 rfl) ?_
    refine x_ld C S 18 (n := 3) (f := wf) (i := 1) rfl (by omega) (by omega) rfl dL_law_621 ?_
    refine g_top (y := 48) (hwf 1 (by decide)) ?_
    refine lv_aload hx hb dL_law_622 (lv_at hl 7 rfl) ?_
    refine lv_iload hx hb dL_law_624 (lv_at hl 19 rfl) ?_
    refine x_al C S 19 (n := u.2.1) (f := fun k => some (r6 k)) (i := i) rfl (by omega) hin rfl dL_law_626 ?_
    refine lv_iload hx hb dL_law_627 (lv_at hl 0 rfl) ?_
    refine x_ld C S (1 + i + 19) (n := 3) (f := g i) (i := 1) (hw_p0 hin) (by omega) (by decide) rfl dL_law_629 ?_
    refine g_top (y := km (rl_L u i) (pu u i) 1) (hg i 1 hin (by decide)) ?_
    refine lv_imul hx hb dL_law_630 ?_
    refine lv_iadd hx hb dL_law_631 ?_
    refine lv_istore (lv' := [(21, .int ((0 + (120 * (km (rl_L u i) (pu u i) 0))) + (48 * (km (rl_L u i) (pu u i) 1)))), (22, .int (nI 1)), (0, .ref (t 9)), (1, .ref ob), (2, .ref o), (3, .int (nI ti)), (5, .int (nI u.2.1)), (6, .ref h6), (7, .ref a7), (8, .ref a8), (9, .ref a9), (10, .ref a10), (12, .ref a12), (13, .int (rf_sm (fun r => ks (rl_L u r) (pu u r) 3 / 4) u.2.1)), (15, .int ((rf_py u u.2.1).1)), (16, .ref a16), (17, .int (rf_sm (its u) i)), (18, .int (rf_sm ((rf_pay u).1 5) i)), (19, .int (rf_sm (fun r => ks (rl_L u r) (pu u r) 3 / 4) i)), (20, .int (nI i))]) hx hb dL_law_632 hl (by decide) rfl (fun ls hl => ?_)
    refine lv_aload hx hb dL_law_634 (lv_at hl 12 rfl) ?_
    refine lv_iload hx hb dL_law_636 (lv_at hl 1 rfl) ?_
    refine lv_dup2_11 hx hb dL_law_638 rfl rfl ?_
    refine x_ld C S 17 (n := 3) (f := (upd (f12) 0 ((pu u i 0) - (km (rl_L u i) (pu u i) 0)))) (i := 1) rfl (by omega) (by omega) rfl dL_law_639 ?_
    refine g_top (y := pu u i 1) (h12 1 (by decide)) ?_
    refine lv_aload hx hb dL_law_640 (lv_at hl 7 rfl) ?_
    refine lv_iload hx hb dL_law_642 (lv_at hl 19 rfl) ?_
    refine x_al C S 19 (n := u.2.1) (f := fun k => some (r6 k)) (i := i) rfl (by omega) hin rfl dL_law_644 ?_
    refine lv_iload hx hb dL_law_645 (lv_at hl 1 rfl) ?_
    refine x_ld C S (1 + i + 19) (n := 3) (f := g i) (i := 1) (hw_p0 hin) (by omega) (by decide) rfl dL_law_647 ?_
    refine g_top (y := km (rl_L u i) (pu u i) 1) (hg i 1 hin (by decide)) ?_
    refine lv_isub hx hb dL_law_648 ?_
    refine x_st C S 17 (n := 3) (f := (upd (f12) 0 ((pu u i 0) - (km (rl_L u i) (pu u i) 0)))) (i := 1) rfl (by omega) (by omega) rfl dL_law_649 (fun H locs S => ?_)
    have S : sS D A s cI cR o z (rf_pay u) (ra_w cI ob ad v ++ ((a7, .inl (cI, u.2.1, .inl (f7))) :: (a8, .inl (cI, u.2.1, .inl (f8))) :: (a9, .inl (cI, u.2.1, .inl (f9))) :: (a10, .inl (cI, u.2.1, .inl (f10))) :: (a12, .inl (cI, 3, .inl (upd (upd (f12) 0 ((pu u i 0) - (km (rl_L u i) (pu u i) 0))) 1 ((pu u i 1) - (km (rl_L u i) (pu u i) 1))))) :: (a16, .inl (cI, 3, .inl (wf))) :: hw_w cI cB h6 u.2.1 r6 g)) H locs := S
    refine lv_aload hx hb dL_law_650 (lv_at hl 7 rfl) ?_
    refine lv_iload hx hb dL_law_652 (lv_at hl 19 rfl) ?_
    refine x_al C S 19 (n := u.2.1) (f := fun k => some (r6 k)) (i := i) rfl (by omega) hin rfl dL_law_654 ?_
    refine lv_iload hx hb dL_law_655 (lv_at hl 1 rfl) ?_
    refine x_ld C S (1 + i + 19) (n := 3) (f := g i) (i := 1) (hw_p0 hin) (by omega) (by decide) rfl dL_law_657 ?_
    refine g_top (y := km (rl_L u i) (pu u i) 1) (hg i 1 hin (by decide)) ?_
    refine lv_if_ge (tgt := 663) hx hb dL_law_658 (by decide) (fun c5 => ?_) (fun c5 => absurd (Int32.not_lt.mp (km_0 B hT1 hin (c := 1) (by decide))) c5)
    refine lv_iinc (v := nI 2) (lv' := [(22, .int (nI 2)), (21, .int ((0 + (120 * (km (rl_L u i) (pu u i) 0))) + (48 * (km (rl_L u i) (pu u i) 1)))), (0, .ref (t 9)), (1, .ref ob), (2, .ref o), (3, .int (nI ti)), (5, .int (nI u.2.1)), (6, .ref h6), (7, .ref a7), (8, .ref a8), (9, .ref a9), (10, .ref a10), (12, .ref a12), (13, .int (rf_sm (fun r => ks (rl_L u r) (pu u r) 3 / 4) u.2.1)), (15, .int ((rf_py u u.2.1).1)), (16, .ref a16), (17, .int (rf_sm (its u) i)), (18, .int (rf_sm ((rf_pay u).1 5) i)), (19, .int (rf_sm (fun r => ks (rl_L u r) (pu u r) 3 / 4) i)), (20, .int (nI i))]) hx hb dL_law_663 hl (k := 1) rfl (nI_1 _) (by decide) rfl (fun ls hl => ?_)
    refine lv_goto (tgt := 609) hx hb dL_law_666 (by decide) ?_
    refine lv_iload hx hb dL_law_609 (lv_at hl 0 rfl) ?_
    refine lv_iconst (v := 3) hx hb dL_law_611 (by decide) ?_
    refine lv_icmp_ge (tgt := 669) hx hb dL_law_612 (by decide) (fun c6 => absurd c6 (by decide)) (fun c6 => ?_)
    refine lv_iload hx hb dL_law_615 (lv_at hl 1 rfl) ?_
    refine lv_aload hx hb dL_law_617 (lv_at hl 15 rfl) ?_
    refine lv_iload hx hb dL_law_619 (lv_at hl 0 rfl) ?_
    refine x_ld C S 18 (n := 3) (f := wf) (i := 2) rfl (by omega) (by omega) rfl dL_law_621 ?_
    refine g_top (y := 4) (hwf 2 (by decide)) ?_
    refine lv_aload hx hb dL_law_622 (lv_at hl 7 rfl) ?_
    refine lv_iload hx hb dL_law_624 (lv_at hl 19 rfl) ?_
    refine x_al C S 19 (n := u.2.1) (f := fun k => some (r6 k)) (i := i) rfl (by omega) hin rfl dL_law_626 ?_
    refine lv_iload hx hb dL_law_627 (lv_at hl 0 rfl) ?_
    refine x_ld C S (1 + i + 19) (n := 3) (f := g i) (i := 2) (hw_p0 hin) (by omega) (by decide) rfl dL_law_629 ?_
    refine g_top (y := km (rl_L u i) (pu u i) 2) (hg i 2 hin (by decide)) ?_
    refine lv_imul hx hb dL_law_630 ?_
    refine lv_iadd hx hb dL_law_631 ?_
    refine lv_istore (lv' := [(21, .int (((0 + (120 * (km (rl_L u i) (pu u i) 0))) + (48 * (km (rl_L u i) (pu u i) 1))) + (4 * (km (rl_L u i) (pu u i) 2)))), (22, .int (nI 2)), (0, .ref (t 9)), (1, .ref ob), (2, .ref o), (3, .int (nI ti)), (5, .int (nI u.2.1)), (6, .ref h6), (7, .ref a7), (8, .ref a8), (9, .ref a9), (10, .ref a10), (12, .ref a12), (13, .int (rf_sm (fun r => ks (rl_L u r) (pu u r) 3 / 4) u.2.1)), (15, .int ((rf_py u u.2.1).1)), (16, .ref a16), (17, .int (rf_sm (its u) i)), (18, .int (rf_sm ((rf_pay u).1 5) i)), (19, .int (rf_sm (fun r => ks (rl_L u r) (pu u r) 3 / 4) i)), (20, .int (nI i))]) hx hb dL_law_632 hl (by decide) rfl (fun ls hl => ?_)
    refine lv_aload hx hb dL_law_634 (lv_at hl 12 rfl) ?_
    refine lv_iload hx hb dL_law_636 (lv_at hl 1 rfl) ?_
    refine lv_dup2_11 hx hb dL_law_638 rfl rfl ?_
    refine x_ld C S 17 (n := 3) (f := (upd (upd (f12) 0 ((pu u i 0) - (km (rl_L u i) (pu u i) 0))) 1 ((pu u i 1) - (km (rl_L u i) (pu u i) 1)))) (i := 2) rfl (by omega) (by omega) rfl dL_law_639 ?_
    refine g_top (y := pu u i 2) (h12 2 (by decide)) ?_
    refine lv_aload hx hb dL_law_640 (lv_at hl 7 rfl) ?_
    refine lv_iload hx hb dL_law_642 (lv_at hl 19 rfl) ?_
    refine x_al C S 19 (n := u.2.1) (f := fun k => some (r6 k)) (i := i) rfl (by omega) hin rfl dL_law_644 ?_
    refine lv_iload hx hb dL_law_645 (lv_at hl 1 rfl) ?_
    refine x_ld C S (1 + i + 19) (n := 3) (f := g i) (i := 2) (hw_p0 hin) (by omega) (by decide) rfl dL_law_647 ?_
    refine g_top (y := km (rl_L u i) (pu u i) 2) (hg i 2 hin (by decide)) ?_
    refine lv_isub hx hb dL_law_648 ?_
    refine x_st C S 17 (n := 3) (f := (upd (upd (f12) 0 ((pu u i 0) - (km (rl_L u i) (pu u i) 0))) 1 ((pu u i 1) - (km (rl_L u i) (pu u i) 1)))) (i := 2) rfl (by omega) (by omega) rfl dL_law_649 (fun H locs S => ?_)
    have S : sS D A s cI cR o z (rf_pay u) (ra_w cI ob ad v ++ ((a7, .inl (cI, u.2.1, .inl (f7))) :: (a8, .inl (cI, u.2.1, .inl (f8))) :: (a9, .inl (cI, u.2.1, .inl (f9))) :: (a10, .inl (cI, u.2.1, .inl (f10))) :: (a12, .inl (cI, 3, .inl (upd (upd (upd (f12) 0 ((pu u i 0) - (km (rl_L u i) (pu u i) 0))) 1 ((pu u i 1) - (km (rl_L u i) (pu u i) 1))) 2 ((pu u i 2) - (km (rl_L u i) (pu u i) 2))))) :: (a16, .inl (cI, 3, .inl (wf))) :: hw_w cI cB h6 u.2.1 r6 g)) H locs := S
    refine lv_aload hx hb dL_law_650 (lv_at hl 7 rfl) ?_
    refine lv_iload hx hb dL_law_652 (lv_at hl 19 rfl) ?_
    refine x_al C S 19 (n := u.2.1) (f := fun k => some (r6 k)) (i := i) rfl (by omega) hin rfl dL_law_654 ?_
    refine lv_iload hx hb dL_law_655 (lv_at hl 1 rfl) ?_
    refine x_ld C S (1 + i + 19) (n := 3) (f := g i) (i := 2) (hw_p0 hin) (by omega) (by decide) rfl dL_law_657 ?_
    refine g_top (y := km (rl_L u i) (pu u i) 2) (hg i 2 hin (by decide)) ?_
    refine lv_if_ge (tgt := 663) hx hb dL_law_658 (by decide) (fun c7 => ?_) (fun c7 => absurd (Int32.not_lt.mp (km_0 B hT1 hin (c := 2) (by decide))) c7)
    refine lv_iinc (v := nI 3) (lv' := [(22, .int (nI 3)), (21, .int (((0 + (120 * (km (rl_L u i) (pu u i) 0))) + (48 * (km (rl_L u i) (pu u i) 1))) + (4 * (km (rl_L u i) (pu u i) 2)))), (0, .ref (t 9)), (1, .ref ob), (2, .ref o), (3, .int (nI ti)), (5, .int (nI u.2.1)), (6, .ref h6), (7, .ref a7), (8, .ref a8), (9, .ref a9), (10, .ref a10), (12, .ref a12), (13, .int (rf_sm (fun r => ks (rl_L u r) (pu u r) 3 / 4) u.2.1)), (15, .int ((rf_py u u.2.1).1)), (16, .ref a16), (17, .int (rf_sm (its u) i)), (18, .int (rf_sm ((rf_pay u).1 5) i)), (19, .int (rf_sm (fun r => ks (rl_L u r) (pu u r) 3 / 4) i)), (20, .int (nI i))]) hx hb dL_law_663 hl (k := 1) rfl (nI_1 _) (by decide) rfl (fun ls hl => ?_)
    refine lv_goto (tgt := 609) hx hb dL_law_666 (by decide) ?_
    refine lv_iload hx hb dL_law_609 (lv_at hl 0 rfl) ?_
    refine lv_iconst (v := 3) hx hb dL_law_611 (by decide) ?_
    refine lv_icmp_ge (tgt := 669) hx hb dL_law_612 (by decide) (fun c8 => ?_) (fun c8 => absurd (by decide) c8)
    have hl : lv_has ls 23 [(21, .int (its u i)), (22, .int (nI 3)), (0, .ref (t 9)), (1, .ref ob), (2, .ref o), (3, .int (nI ti)), (5, .int (nI u.2.1)), (6, .ref h6), (7, .ref a7), (8, .ref a8), (9, .ref a9), (10, .ref a10), (12, .ref a12), (13, .int (rf_sm (fun r => ks (rl_L u r) (pu u r) 3 / 4) u.2.1)), (15, .int ((rf_py u u.2.1).1)), (16, .ref a16), (17, .int (rf_sm (its u) i)), (18, .int (rf_sm ((rf_pay u).1 5) i)), (19, .int (rf_sm (fun r => ks (rl_L u r) (pu u r) 3 / 4) i)), (20, .int (nI i))] := lv_sub hl [1, 0, 2, 3, 4, 5, 6, 7, 8, 9, 10, 11, 12, 13, 14, 15, 16, 17, 18, 19] rfl
    refine lv_iload hx hb dL_law_669 (lv_at hl 16 rfl) ?_
    refine lv_iload hx hb dL_law_671 (lv_at hl 0 rfl) ?_
    refine lv_iadd hx hb dL_law_673 ?_
    refine lv_istore (lv' := [(17, .int ((rf_sm (its u) i) + (its u i))), (21, .int (its u i)), (22, .int (nI 3)), (0, .ref (t 9)), (1, .ref ob), (2, .ref o), (3, .int (nI ti)), (5, .int (nI u.2.1)), (6, .ref h6), (7, .ref a7), (8, .ref a8), (9, .ref a9), (10, .ref a10), (12, .ref a12), (13, .int (rf_sm (fun r => ks (rl_L u r) (pu u r) 3 / 4) u.2.1)), (15, .int ((rf_py u u.2.1).1)), (16, .ref a16), (18, .int (rf_sm ((rf_pay u).1 5) i)), (19, .int (rf_sm (fun r => ks (rl_L u r) (pu u r) 3 / 4) i)), (20, .int (nI i))]) hx hb dL_law_674 hl (by decide) rfl (fun ls hl => ?_)
    refine lv_iload hx hb dL_law_676 (lv_at hl 17 rfl) ?_
    refine lv_aload_n hx hb dL_law_678 rfl (lv_at hl 4 rfl) ?_
    refine lv_iload hx hb dL_law_679 (lv_at hl 19 rfl) ?_
    refine lv_iconst (v := 5) hx hb dL_law_681 (by decide) ?_
    refine m_ci (wa := rs_w cI cR o z (rf_pay u)) (wb := ra_w cI ob ad v) (wd := ((a7, .inl (cI, u.2.1, .inl (f7))) :: (a8, .inl (cI, u.2.1, .inl (f8))) :: (a9, .inl (cI, u.2.1, .inl (f9))) :: (a10, .inl (cI, u.2.1, .inl (f10))) :: (a12, .inl (cI, 3, .inl (upd (upd (upd (f12) 0 ((pu u i 0) - (km (rl_L u i) (pu u i) 0))) 1 ((pu u i 1) - (km (rl_L u i) (pu u i) 1))) 2 ((pu u i 2) - (km (rl_L u i) (pu u i) 2))))) :: (a16, .inl (cI, 3, .inl (wf))) :: hw_w cI cB h6 u.2.1 r6 g)) (cells' := kc) (slots' := nc) rfl rfl C S.1 S.2.1 S.2.2 (fun hPb hDb => g_runV (wr := ((a7, .inl (cI, u.2.1, .inl (f7))) :: (a8, .inl (cI, u.2.1, .inl (f8))) :: (a9, .inl (cI, u.2.1, .inl (f9))) :: (a10, .inl (cI, u.2.1, .inl (f10))) :: (a12, .inl (cI, 3, .inl (upd (upd (upd (f12) 0 ((pu u i 0) - (km (rl_L u i) (pu u i) 0))) 1 ((pu u i 1) - (km (rl_L u i) (pu u i) 1))) 2 ((pu u i 2) - (km (rl_L u i) (pu u i) 2))))) :: (a16, .inl (cI, 3, .inl (wf))) :: hw_w cI cB h6 u.2.1 r6 g) ++ rs_w cI cR o z (rf_pay u)) (n := 2) (As := [.int (nI i), .int 5]) C (mX0_told l D t cI ob ad H.size v (by rw [hE.n]; exact hu8) i (by rw [hE.n]; exact hin) 5 (by decide)) (rw_V q219 q220 q221 q2 q222) kd_X0_told ⟨Nat.le_of_ble_eq_true rfl, Nat.le_of_ble_eq_true rfl⟩ (ci := 0) rfl rfl rfl (C.2.2.2.2.2.1.sub (tys' := [(cI, .int)]) [0] rfl) hPb hDb S.2.2 hl.1 rfl rfl (Nat.le_of_ble_eq_true rfl) dL_law_682 ⟨(show kc + 0 ≤ 728402 by omega), (show nc + 0 ≤ 6916263 by omega)⟩) (fun v w' H locs hv _ hP9 hD9 hS9 => ?_)
    obtain ⟨rfl, rfl⟩ := hv
    have S : sS D A s cI cR o z (rf_pay u) (ra_w cI ob ad v ++ ((a7, .inl (cI, u.2.1, .inl (f7))) :: (a8, .inl (cI, u.2.1, .inl (f8))) :: (a9, .inl (cI, u.2.1, .inl (f9))) :: (a10, .inl (cI, u.2.1, .inl (f10))) :: (a12, .inl (cI, 3, .inl (upd (upd (upd (f12) 0 ((pu u i 0) - (km (rl_L u i) (pu u i) 0))) 1 ((pu u i 1) - (km (rl_L u i) (pu u i) 1))) 2 ((pu u i 2) - (km (rl_L u i) (pu u i) 2))))) :: (a16, .inl (cI, 3, .inl (wf))) :: hw_w cI cB h6 u.2.1 r6 g)) H locs := ⟨hP9, hD9, hS9⟩
    refine g_top (y := (rf_pay u).1 5 i) (e9_told hE i (by decide)) ?_
    refine lv_iadd hx hb dL_law_685 ?_
    refine lv_istore (lv' := [(18, .int ((rf_sm ((rf_pay u).1 5) i) + ((rf_pay u).1 5 i))), (17, .int ((rf_sm (its u) i) + (its u i))), (21, .int (its u i)), (22, .int (nI 3)), (0, .ref (t 9)), (1, .ref ob), (2, .ref o), (3, .int (nI ti)), (5, .int (nI u.2.1)), (6, .ref h6), (7, .ref a7), (8, .ref a8), (9, .ref a9), (10, .ref a10), (12, .ref a12), (13, .int (rf_sm (fun r => ks (rl_L u r) (pu u r) 3 / 4) u.2.1)), (15, .int ((rf_py u u.2.1).1)), (16, .ref a16), (19, .int (rf_sm (fun r => ks (rl_L u r) (pu u r) 3 / 4) i)), (20, .int (nI i))]) hx hb dL_law_686 hl (by decide) rfl (fun ls hl => ?_)
    refine lv_iload hx hb dL_law_688 (lv_at hl 18 rfl) ?_
    refine lv_aload_n hx hb dL_law_690 rfl (lv_at hl 5 rfl) ?_
    refine lv_iload hx hb dL_law_691 (lv_at hl 19 rfl) ?_
    refine lv_iconst (v := 5) hx hb dL_law_693 (by decide) ?_
    refine m_ci (wa := rs_w cI cR o z (rf_pay u)) (wb := ra_w cI ob ad v) (wd := ((a7, .inl (cI, u.2.1, .inl (f7))) :: (a8, .inl (cI, u.2.1, .inl (f8))) :: (a9, .inl (cI, u.2.1, .inl (f9))) :: (a10, .inl (cI, u.2.1, .inl (f10))) :: (a12, .inl (cI, 3, .inl (upd (upd (upd (f12) 0 ((pu u i 0) - (km (rl_L u i) (pu u i) 0))) 1 ((pu u i 1) - (km (rl_L u i) (pu u i) 1))) 2 ((pu u i 2) - (km (rl_L u i) (pu u i) 2))))) :: (a16, .inl (cI, 3, .inl (wf))) :: hw_w cI cB h6 u.2.1 r6 g)) (cells' := kc) (slots' := nc) rfl rfl C S.1 S.2.1 S.2.2 (fun hPb hDb => g_runV (wr := ((a7, .inl (cI, u.2.1, .inl (f7))) :: (a8, .inl (cI, u.2.1, .inl (f8))) :: (a9, .inl (cI, u.2.1, .inl (f9))) :: (a10, .inl (cI, u.2.1, .inl (f10))) :: (a12, .inl (cI, 3, .inl (upd (upd (upd (f12) 0 ((pu u i 0) - (km (rl_L u i) (pu u i) 0))) 1 ((pu u i 1) - (km (rl_L u i) (pu u i) 1))) 2 ((pu u i 2) - (km (rl_L u i) (pu u i) 2))))) :: (a16, .inl (cI, 3, .inl (wf))) :: hw_w cI cB h6 u.2.1 r6 g) ++ rs_w cI cR o z (rf_pay u)) (n := 2) (As := [.int (nI i), .int 5]) C (mX0_told l D t cI ob ad H.size v (by rw [hE.n]; exact hu8) i (by rw [hE.n]; exact hin) 5 (by decide)) (rw_V q219 q220 q221 q2 q222) kd_X0_told ⟨Nat.le_of_ble_eq_true rfl, Nat.le_of_ble_eq_true rfl⟩ (ci := 0) rfl rfl rfl (C.2.2.2.2.2.1.sub (tys' := [(cI, .int)]) [0] rfl) hPb hDb S.2.2 hl.1 rfl rfl (Nat.le_of_ble_eq_true rfl) dL_law_694 ⟨(show kc + 0 ≤ 728402 by omega), (show nc + 0 ≤ 6916263 by omega)⟩) (fun v w' H locs hv _ hP9 hD9 hS9 => ?_)
    obtain ⟨rfl, rfl⟩ := hv
    have S : sS D A s cI cR o z (rf_pay u) (ra_w cI ob ad v ++ ((a7, .inl (cI, u.2.1, .inl (f7))) :: (a8, .inl (cI, u.2.1, .inl (f8))) :: (a9, .inl (cI, u.2.1, .inl (f9))) :: (a10, .inl (cI, u.2.1, .inl (f10))) :: (a12, .inl (cI, 3, .inl (upd (upd (upd (f12) 0 ((pu u i 0) - (km (rl_L u i) (pu u i) 0))) 1 ((pu u i 1) - (km (rl_L u i) (pu u i) 1))) 2 ((pu u i 2) - (km (rl_L u i) (pu u i) 2))))) :: (a16, .inl (cI, 3, .inl (wf))) :: hw_w cI cB h6 u.2.1 r6 g)) H locs := ⟨hP9, hD9, hS9⟩
    refine g_top (y := (rf_pay u).1 5 i) (e9_told hE i (by decide)) ?_
    refine lv_iconst (v := 4) hx hb dL_law_697 (by decide) ?_
    refine lv_idiv hx hb dL_law_698 (by decide) ?_
    refine g_top (y := ks (rl_L u i) (pu u i) 3 / 4) (by rw [pa_5 B hin]) ?_
    refine lv_iadd hx hb dL_law_699 ?_
    refine lv_istore (lv' := [(19, .int ((rf_sm (fun r => ks (rl_L u r) (pu u r) 3 / 4) i) + (ks (rl_L u i) (pu u i) 3 / 4))), (18, .int ((rf_sm ((rf_pay u).1 5) i) + ((rf_pay u).1 5 i))), (17, .int ((rf_sm (its u) i) + (its u i))), (21, .int (its u i)), (22, .int (nI 3)), (0, .ref (t 9)), (1, .ref ob), (2, .ref o), (3, .int (nI ti)), (5, .int (nI u.2.1)), (6, .ref h6), (7, .ref a7), (8, .ref a8), (9, .ref a9), (10, .ref a10), (12, .ref a12), (13, .int (rf_sm (fun r => ks (rl_L u r) (pu u r) 3 / 4) u.2.1)), (15, .int ((rf_py u u.2.1).1)), (16, .ref a16), (20, .int (nI i))]) hx hb dL_law_700 hl (by decide) rfl (fun ls hl => ?_)
    refine lv_aload_n hx hb dL_law_702 rfl (lv_at hl 6 rfl) ?_
    refine lv_iload hx hb dL_law_703 (lv_at hl 19 rfl) ?_
    refine lv_bipush (v := 6) hx hb dL_law_705 (by decide) ?_
    refine m_ci (wa := rs_w cI cR o z (rf_pay u)) (wb := ra_w cI ob ad v) (wd := ((a7, .inl (cI, u.2.1, .inl (f7))) :: (a8, .inl (cI, u.2.1, .inl (f8))) :: (a9, .inl (cI, u.2.1, .inl (f9))) :: (a10, .inl (cI, u.2.1, .inl (f10))) :: (a12, .inl (cI, 3, .inl (upd (upd (upd (f12) 0 ((pu u i 0) - (km (rl_L u i) (pu u i) 0))) 1 ((pu u i 1) - (km (rl_L u i) (pu u i) 1))) 2 ((pu u i 2) - (km (rl_L u i) (pu u i) 2))))) :: (a16, .inl (cI, 3, .inl (wf))) :: hw_w cI cB h6 u.2.1 r6 g)) (cells' := kc) (slots' := nc) rfl rfl C S.1 S.2.1 S.2.2 (fun hPb hDb => g_runV (wr := ((a7, .inl (cI, u.2.1, .inl (f7))) :: (a8, .inl (cI, u.2.1, .inl (f8))) :: (a9, .inl (cI, u.2.1, .inl (f9))) :: (a10, .inl (cI, u.2.1, .inl (f10))) :: (a12, .inl (cI, 3, .inl (upd (upd (upd (f12) 0 ((pu u i 0) - (km (rl_L u i) (pu u i) 0))) 1 ((pu u i 1) - (km (rl_L u i) (pu u i) 1))) 2 ((pu u i 2) - (km (rl_L u i) (pu u i) 2))))) :: (a16, .inl (cI, 3, .inl (wf))) :: hw_w cI cB h6 u.2.1 r6 g) ++ rs_w cI cR o z (rf_pay u)) (n := 2) (As := [.int (nI i), .int 6]) C (mX0_told l D t cI ob ad H.size v (by rw [hE.n]; exact hu8) i (by rw [hE.n]; exact hin) 6 (by decide)) (rw_V q219 q220 q221 q2 q222) kd_X0_told ⟨Nat.le_of_ble_eq_true rfl, Nat.le_of_ble_eq_true rfl⟩ (ci := 0) rfl rfl rfl (C.2.2.2.2.2.1.sub (tys' := [(cI, .int)]) [0] rfl) hPb hDb S.2.2 hl.1 rfl rfl (Nat.le_of_ble_eq_true rfl) dL_law_707 ⟨(show kc + 0 ≤ 728402 by omega), (show nc + 0 ≤ 6916263 by omega)⟩) (fun v w' H locs hv _ hP9 hD9 hS9 => ?_)
    obtain ⟨rfl, rfl⟩ := hv
    have S : sS D A s cI cR o z (rf_pay u) (ra_w cI ob ad v ++ ((a7, .inl (cI, u.2.1, .inl (f7))) :: (a8, .inl (cI, u.2.1, .inl (f8))) :: (a9, .inl (cI, u.2.1, .inl (f9))) :: (a10, .inl (cI, u.2.1, .inl (f10))) :: (a12, .inl (cI, 3, .inl (upd (upd (upd (f12) 0 ((pu u i 0) - (km (rl_L u i) (pu u i) 0))) 1 ((pu u i 1) - (km (rl_L u i) (pu u i) 1))) 2 ((pu u i 2) - (km (rl_L u i) (pu u i) 2))))) :: (a16, .inl (cI, 3, .inl (wf))) :: hw_w cI cB h6 u.2.1 r6 g)) H locs := ⟨hP9, hD9, hS9⟩
    refine g_top (y := (rf_pay u).1 6 i) (e9_told hE i (by decide)) ?_
    refine lv_aload hx hb dL_law_710 (lv_at hl 14 rfl) ?_
    refine lv_iload hx hb dL_law_712 (lv_at hl 19 rfl) ?_
    refine x_ld C S 16 (n := u.2.1) (f := f10) (i := i) rfl (by omega) hin rfl dL_law_714 ?_
    refine g_top (y := u.1 6 i) (h10 _ hin) ?_
    refine lv_iload hx hb dL_law_715 (lv_at hl 3 rfl) ?_
    refine lv_iadd hx hb dL_law_717 ?_
    refine lv_icmp_ne (tgt := 776) hx hb dL_law_718 (by decide) (fun c9 => absurd (pa_6 B hin) c9) (fun c9 => ?_)
    refine lv_aload_n hx hb dL_law_721 rfl (lv_at hl 6 rfl) ?_
    refine lv_iload hx hb dL_law_722 (lv_at hl 19 rfl) ?_
    refine lv_iconst (v := 4) hx hb dL_law_724 (by decide) ?_
    refine m_ci (wa := rs_w cI cR o z (rf_pay u)) (wb := ra_w cI ob ad v) (wd := ((a7, .inl (cI, u.2.1, .inl (f7))) :: (a8, .inl (cI, u.2.1, .inl (f8))) :: (a9, .inl (cI, u.2.1, .inl (f9))) :: (a10, .inl (cI, u.2.1, .inl (f10))) :: (a12, .inl (cI, 3, .inl (upd (upd (upd (f12) 0 ((pu u i 0) - (km (rl_L u i) (pu u i) 0))) 1 ((pu u i 1) - (km (rl_L u i) (pu u i) 1))) 2 ((pu u i 2) - (km (rl_L u i) (pu u i) 2))))) :: (a16, .inl (cI, 3, .inl (wf))) :: hw_w cI cB h6 u.2.1 r6 g)) (cells' := kc) (slots' := nc) rfl rfl C S.1 S.2.1 S.2.2 (fun hPb hDb => g_runV (wr := ((a7, .inl (cI, u.2.1, .inl (f7))) :: (a8, .inl (cI, u.2.1, .inl (f8))) :: (a9, .inl (cI, u.2.1, .inl (f9))) :: (a10, .inl (cI, u.2.1, .inl (f10))) :: (a12, .inl (cI, 3, .inl (upd (upd (upd (f12) 0 ((pu u i 0) - (km (rl_L u i) (pu u i) 0))) 1 ((pu u i 1) - (km (rl_L u i) (pu u i) 1))) 2 ((pu u i 2) - (km (rl_L u i) (pu u i) 2))))) :: (a16, .inl (cI, 3, .inl (wf))) :: hw_w cI cB h6 u.2.1 r6 g) ++ rs_w cI cR o z (rf_pay u)) (n := 2) (As := [.int (nI i), .int 4]) C (mX0_told l D t cI ob ad H.size v (by rw [hE.n]; exact hu8) i (by rw [hE.n]; exact hin) 4 (by decide)) (rw_V q219 q220 q221 q2 q222) kd_X0_told ⟨Nat.le_of_ble_eq_true rfl, Nat.le_of_ble_eq_true rfl⟩ (ci := 0) rfl rfl rfl (C.2.2.2.2.2.1.sub (tys' := [(cI, .int)]) [0] rfl) hPb hDb S.2.2 hl.1 rfl rfl (Nat.le_of_ble_eq_true rfl) dL_law_725 ⟨(show kc + 0 ≤ 728402 by omega), (show nc + 0 ≤ 6916263 by omega)⟩) (fun v w' H locs hv _ hP9 hD9 hS9 => ?_)
    obtain ⟨rfl, rfl⟩ := hv
    have S : sS D A s cI cR o z (rf_pay u) (ra_w cI ob ad v ++ ((a7, .inl (cI, u.2.1, .inl (f7))) :: (a8, .inl (cI, u.2.1, .inl (f8))) :: (a9, .inl (cI, u.2.1, .inl (f9))) :: (a10, .inl (cI, u.2.1, .inl (f10))) :: (a12, .inl (cI, 3, .inl (upd (upd (upd (f12) 0 ((pu u i 0) - (km (rl_L u i) (pu u i) 0))) 1 ((pu u i 1) - (km (rl_L u i) (pu u i) 1))) 2 ((pu u i 2) - (km (rl_L u i) (pu u i) 2))))) :: (a16, .inl (cI, 3, .inl (wf))) :: hw_w cI cB h6 u.2.1 r6 g)) H locs := ⟨hP9, hD9, hS9⟩
    refine g_top (y := (rf_pay u).1 4 i) (e9_told hE i (by decide)) ?_
    refine lv_aload hx hb dL_law_728 (lv_at hl 11 rfl) ?_
    refine lv_iload hx hb dL_law_730 (lv_at hl 19 rfl) ?_
    refine x_ld C S 13 (n := u.2.1) (f := f7) (i := i) rfl (by omega) hin rfl dL_law_732 ?_
    refine g_top (y := u.1 4 i) (h7 _ hin) ?_
    refine lv_aload hx hb dL_law_733 (lv_at hl 12 rfl) ?_
    refine lv_iload hx hb dL_law_735 (lv_at hl 19 rfl) ?_
    refine x_ld C S 14 (n := u.2.1) (f := f8) (i := i) rfl (by omega) hin rfl dL_law_737 ?_
    refine g_top (y := rf_tk u i) (h8 _ hin) ?_
    refine lv_isub hx hb dL_law_738 ?_
    refine lv_icmp_ne (tgt := 776) hx hb dL_law_739 (by decide) (fun c10 => absurd (pa_4 B hin) c10) (fun c10 => ?_)
    refine lv_aload_n hx hb dL_law_742 rfl (lv_at hl 6 rfl) ?_
    refine lv_iload hx hb dL_law_743 (lv_at hl 19 rfl) ?_
    refine lv_iconst (v := 5) hx hb dL_law_745 (by decide) ?_
    refine m_ci (wa := rs_w cI cR o z (rf_pay u)) (wb := ra_w cI ob ad v) (wd := ((a7, .inl (cI, u.2.1, .inl (f7))) :: (a8, .inl (cI, u.2.1, .inl (f8))) :: (a9, .inl (cI, u.2.1, .inl (f9))) :: (a10, .inl (cI, u.2.1, .inl (f10))) :: (a12, .inl (cI, 3, .inl (upd (upd (upd (f12) 0 ((pu u i 0) - (km (rl_L u i) (pu u i) 0))) 1 ((pu u i 1) - (km (rl_L u i) (pu u i) 1))) 2 ((pu u i 2) - (km (rl_L u i) (pu u i) 2))))) :: (a16, .inl (cI, 3, .inl (wf))) :: hw_w cI cB h6 u.2.1 r6 g)) (cells' := kc) (slots' := nc) rfl rfl C S.1 S.2.1 S.2.2 (fun hPb hDb => g_runV (wr := ((a7, .inl (cI, u.2.1, .inl (f7))) :: (a8, .inl (cI, u.2.1, .inl (f8))) :: (a9, .inl (cI, u.2.1, .inl (f9))) :: (a10, .inl (cI, u.2.1, .inl (f10))) :: (a12, .inl (cI, 3, .inl (upd (upd (upd (f12) 0 ((pu u i 0) - (km (rl_L u i) (pu u i) 0))) 1 ((pu u i 1) - (km (rl_L u i) (pu u i) 1))) 2 ((pu u i 2) - (km (rl_L u i) (pu u i) 2))))) :: (a16, .inl (cI, 3, .inl (wf))) :: hw_w cI cB h6 u.2.1 r6 g) ++ rs_w cI cR o z (rf_pay u)) (n := 2) (As := [.int (nI i), .int 5]) C (mX0_told l D t cI ob ad H.size v (by rw [hE.n]; exact hu8) i (by rw [hE.n]; exact hin) 5 (by decide)) (rw_V q219 q220 q221 q2 q222) kd_X0_told ⟨Nat.le_of_ble_eq_true rfl, Nat.le_of_ble_eq_true rfl⟩ (ci := 0) rfl rfl rfl (C.2.2.2.2.2.1.sub (tys' := [(cI, .int)]) [0] rfl) hPb hDb S.2.2 hl.1 rfl rfl (Nat.le_of_ble_eq_true rfl) dL_law_746 ⟨(show kc + 0 ≤ 728402 by omega), (show nc + 0 ≤ 6916263 by omega)⟩) (fun v w' H locs hv _ hP9 hD9 hS9 => ?_)
    obtain ⟨rfl, rfl⟩ := hv
    have S : sS D A s cI cR o z (rf_pay u) (ra_w cI ob ad v ++ ((a7, .inl (cI, u.2.1, .inl (f7))) :: (a8, .inl (cI, u.2.1, .inl (f8))) :: (a9, .inl (cI, u.2.1, .inl (f9))) :: (a10, .inl (cI, u.2.1, .inl (f10))) :: (a12, .inl (cI, 3, .inl (upd (upd (upd (f12) 0 ((pu u i 0) - (km (rl_L u i) (pu u i) 0))) 1 ((pu u i 1) - (km (rl_L u i) (pu u i) 1))) 2 ((pu u i 2) - (km (rl_L u i) (pu u i) 2))))) :: (a16, .inl (cI, 3, .inl (wf))) :: hw_w cI cB h6 u.2.1 r6 g)) H locs := ⟨hP9, hD9, hS9⟩
    refine g_top (y := (rf_pay u).1 5 i) (e9_told hE i (by decide)) ?_
    refine lv_aload hx hb dL_law_749 (lv_at hl 13 rfl) ?_
    refine lv_iload hx hb dL_law_751 (lv_at hl 19 rfl) ?_
    refine x_ld C S 15 (n := u.2.1) (f := f9) (i := i) rfl (by omega) hin rfl dL_law_753 ?_
    refine g_top (y := rf_cm u i) (h9 _ hin) ?_
    refine lv_aload hx hb dL_law_754 (lv_at hl 12 rfl) ?_
    refine lv_iload hx hb dL_law_756 (lv_at hl 19 rfl) ?_
    refine x_ld C S 14 (n := u.2.1) (f := f8) (i := i) rfl (by omega) hin rfl dL_law_758 ?_
    refine g_top (y := rf_tk u i) (h8 _ hin) ?_
    refine lv_isub hx hb dL_law_759 ?_
    refine lv_iload hx hb dL_law_760 (lv_at hl 3 rfl) ?_
    refine lv_isub hx hb dL_law_762 ?_
    refine lv_icmp_ne (tgt := 776) hx hb dL_law_763 (by decide) (fun c11 => absurd (pa_5i B hin) c11) (fun c11 => ?_)
    refine lv_aload_n hx hb dL_law_766 rfl (lv_at hl 6 rfl) ?_
    refine lv_iload hx hb dL_law_767 (lv_at hl 19 rfl) ?_
    refine lv_iconst (v := 5) hx hb dL_law_769 (by decide) ?_
    refine m_ci (wa := rs_w cI cR o z (rf_pay u)) (wb := ra_w cI ob ad v) (wd := ((a7, .inl (cI, u.2.1, .inl (f7))) :: (a8, .inl (cI, u.2.1, .inl (f8))) :: (a9, .inl (cI, u.2.1, .inl (f9))) :: (a10, .inl (cI, u.2.1, .inl (f10))) :: (a12, .inl (cI, 3, .inl (upd (upd (upd (f12) 0 ((pu u i 0) - (km (rl_L u i) (pu u i) 0))) 1 ((pu u i 1) - (km (rl_L u i) (pu u i) 1))) 2 ((pu u i 2) - (km (rl_L u i) (pu u i) 2))))) :: (a16, .inl (cI, 3, .inl (wf))) :: hw_w cI cB h6 u.2.1 r6 g)) (cells' := kc) (slots' := nc) rfl rfl C S.1 S.2.1 S.2.2 (fun hPb hDb => g_runV (wr := ((a7, .inl (cI, u.2.1, .inl (f7))) :: (a8, .inl (cI, u.2.1, .inl (f8))) :: (a9, .inl (cI, u.2.1, .inl (f9))) :: (a10, .inl (cI, u.2.1, .inl (f10))) :: (a12, .inl (cI, 3, .inl (upd (upd (upd (f12) 0 ((pu u i 0) - (km (rl_L u i) (pu u i) 0))) 1 ((pu u i 1) - (km (rl_L u i) (pu u i) 1))) 2 ((pu u i 2) - (km (rl_L u i) (pu u i) 2))))) :: (a16, .inl (cI, 3, .inl (wf))) :: hw_w cI cB h6 u.2.1 r6 g) ++ rs_w cI cR o z (rf_pay u)) (n := 2) (As := [.int (nI i), .int 5]) C (mX0_told l D t cI ob ad H.size v (by rw [hE.n]; exact hu8) i (by rw [hE.n]; exact hin) 5 (by decide)) (rw_V q219 q220 q221 q2 q222) kd_X0_told ⟨Nat.le_of_ble_eq_true rfl, Nat.le_of_ble_eq_true rfl⟩ (ci := 0) rfl rfl rfl (C.2.2.2.2.2.1.sub (tys' := [(cI, .int)]) [0] rfl) hPb hDb S.2.2 hl.1 rfl rfl (Nat.le_of_ble_eq_true rfl) dL_law_770 ⟨(show kc + 0 ≤ 728402 by omega), (show nc + 0 ≤ 6916263 by omega)⟩) (fun v w' H locs hv _ hP9 hD9 hS9 => ?_)
    obtain ⟨rfl, rfl⟩ := hv
    have S : sS D A s cI cR o z (rf_pay u) (ra_w cI ob ad v ++ ((a7, .inl (cI, u.2.1, .inl (f7))) :: (a8, .inl (cI, u.2.1, .inl (f8))) :: (a9, .inl (cI, u.2.1, .inl (f9))) :: (a10, .inl (cI, u.2.1, .inl (f10))) :: (a12, .inl (cI, 3, .inl (upd (upd (upd (f12) 0 ((pu u i 0) - (km (rl_L u i) (pu u i) 0))) 1 ((pu u i 1) - (km (rl_L u i) (pu u i) 1))) 2 ((pu u i 2) - (km (rl_L u i) (pu u i) 2))))) :: (a16, .inl (cI, 3, .inl (wf))) :: hw_w cI cB h6 u.2.1 r6 g)) H locs := ⟨hP9, hD9, hS9⟩
    refine g_top (y := (rf_pay u).1 5 i) (e9_told hE i (by decide)) ?_
    refine lv_if_ge (tgt := 778) hx hb dL_law_773 (by decide) (fun c12 => ?_) (fun c12 => absurd (Int32.not_lt.mp (pa_5n B hT1 hin)) c12)
    refine lv_iconst (v := 0) hx hb dL_law_778 (by decide) ?_
    refine lv_istore (lv' := [(22, .int 0), (19, .int ((rf_sm (fun r => ks (rl_L u r) (pu u r) 3 / 4) i) + (ks (rl_L u i) (pu u i) 3 / 4))), (18, .int ((rf_sm ((rf_pay u).1 5) i) + ((rf_pay u).1 5 i))), (17, .int ((rf_sm (its u) i) + (its u i))), (21, .int (its u i)), (0, .ref (t 9)), (1, .ref ob), (2, .ref o), (3, .int (nI ti)), (5, .int (nI u.2.1)), (6, .ref h6), (7, .ref a7), (8, .ref a8), (9, .ref a9), (10, .ref a10), (12, .ref a12), (13, .int (rf_sm (fun r => ks (rl_L u r) (pu u r) 3 / 4) u.2.1)), (15, .int ((rf_py u u.2.1).1)), (16, .ref a16), (20, .int (nI i))]) hx hb dL_law_779 hl (by decide) rfl (fun ls hl => ?_)
    have e12 : ∀ c : Nat, c < 3 → (upd (upd (upd (f12) 0 ((pu u i 0) - (km (rl_L u i) (pu u i) 0))) 1 ((pu u i 1) - (km (rl_L u i) (pu u i) 1))) 2 ((pu u i 2) - (km (rl_L u i) (pu u i) 2))) c = pu u (i + 1) c := fun c hc => by rw [pu_1 B hin hc]; rcases (show c = 0 ∨ c = 1 ∨ c = 2 by omega) with rfl | rfl | rfl <;> rfl
    refine lpL_cc C B hT1 hE h7 h8 h9 h10 hg hwf hin hkc hnc (fun H locs ls S hl => ?_) 3 0 (by omega) _ _ _ S (lv_sub hl [5, 6, 7, 8, 9, 10, 11, 12, 13, 14, 15, 16, 17, 18, 3, 2, 1, 19, 4, 0] rfl)
    refine lv_iconst (v := 1) hx hb dL_law_819 (by decide) ?_
    refine lv_istore (lv' := [(22, .int 1), (0, .ref (t 9)), (1, .ref ob), (2, .ref o), (3, .int (nI ti)), (5, .int (nI u.2.1)), (6, .ref h6), (7, .ref a7), (8, .ref a8), (9, .ref a9), (10, .ref a10), (12, .ref a12), (13, .int (rf_sm (fun r => ks (rl_L u r) (pu u r) 3 / 4) u.2.1)), (15, .int ((rf_py u u.2.1).1)), (16, .ref a16), (17, .int (rf_sm (its u) (i + 1))), (18, .int (rf_sm ((rf_pay u).1 5) (i + 1))), (19, .int (rf_sm (fun r => ks (rl_L u r) (pu u r) 3 / 4) (i + 1))), (20, .int (nI i)), (21, .int (its u i))]) hx hb dL_law_820 hl (by decide) rfl (fun ls hl => ?_)
    refine lv_iload hx hb dL_law_822 (lv_at hl 0 rfl) ?_
    refine lv_iconst (v := 4) hx hb dL_law_824 (by decide) ?_
    refine lv_icmp_ge (tgt := 847) hx hb dL_law_825 (by decide) (fun c13 => absurd c13 (by decide)) (fun c13 => ?_)
    refine lv_aload_n hx hb dL_law_828 rfl (lv_at hl 2 rfl) ?_
    refine lv_iload hx hb dL_law_829 (lv_at hl 18 rfl) ?_
    refine lv_iload hx hb dL_law_831 (lv_at hl 0 rfl) ?_
    refine m_ci (wa := rs_w cI cR o z (rf_pay u)) (wb := ra_w cI ob ad v) (wd := ((a7, .inl (cI, u.2.1, .inl (f7))) :: (a8, .inl (cI, u.2.1, .inl (f8))) :: (a9, .inl (cI, u.2.1, .inl (f9))) :: (a10, .inl (cI, u.2.1, .inl (f10))) :: (a12, .inl (cI, 3, .inl (upd (upd (upd (f12) 0 ((pu u i 0) - (km (rl_L u i) (pu u i) 0))) 1 ((pu u i 1) - (km (rl_L u i) (pu u i) 1))) 2 ((pu u i 2) - (km (rl_L u i) (pu u i) 2))))) :: (a16, .inl (cI, 3, .inl (wf))) :: hw_w cI cB h6 u.2.1 r6 g)) (cells' := kc) (slots' := nc) rfl rfl C S.1 S.2.1 S.2.2 (fun hPb hDb => g_runV (wr := ((a7, .inl (cI, u.2.1, .inl (f7))) :: (a8, .inl (cI, u.2.1, .inl (f8))) :: (a9, .inl (cI, u.2.1, .inl (f9))) :: (a10, .inl (cI, u.2.1, .inl (f10))) :: (a12, .inl (cI, 3, .inl (upd (upd (upd (f12) 0 ((pu u i 0) - (km (rl_L u i) (pu u i) 0))) 1 ((pu u i 1) - (km (rl_L u i) (pu u i) 1))) 2 ((pu u i 2) - (km (rl_L u i) (pu u i) 2))))) :: (a16, .inl (cI, 3, .inl (wf))) :: hw_w cI cB h6 u.2.1 r6 g) ++ rs_w cI cR o z (rf_pay u)) (n := 2) (As := [.int (nI i), .int 1]) C (mX0_told l D t cI ob ad H.size v (by rw [hE.n]; exact hu8) i (by rw [hE.n]; exact hin) 1 (by decide)) (rw_V q219 q220 q221 q2 q222) kd_X0_told ⟨Nat.le_of_ble_eq_true rfl, Nat.le_of_ble_eq_true rfl⟩ (ci := 0) rfl rfl rfl (C.2.2.2.2.2.1.sub (tys' := [(cI, .int)]) [0] rfl) hPb hDb S.2.2 hl.1 rfl rfl (Nat.le_of_ble_eq_true rfl) dL_law_833 ⟨(show kc + 0 ≤ 728402 by omega), (show nc + 0 ≤ 6916263 by omega)⟩) (fun v w' H locs hv _ hP9 hD9 hS9 => ?_)
    obtain ⟨rfl, rfl⟩ := hv
    have S : sS D A s cI cR o z (rf_pay u) (ra_w cI ob ad v ++ ((a7, .inl (cI, u.2.1, .inl (f7))) :: (a8, .inl (cI, u.2.1, .inl (f8))) :: (a9, .inl (cI, u.2.1, .inl (f9))) :: (a10, .inl (cI, u.2.1, .inl (f10))) :: (a12, .inl (cI, 3, .inl (upd (upd (upd (f12) 0 ((pu u i 0) - (km (rl_L u i) (pu u i) 0))) 1 ((pu u i 1) - (km (rl_L u i) (pu u i) 1))) 2 ((pu u i 2) - (km (rl_L u i) (pu u i) 2))))) :: (a16, .inl (cI, 3, .inl (wf))) :: hw_w cI cB h6 u.2.1 r6 g)) H locs := ⟨hP9, hD9, hS9⟩
    refine g_top (y := (rf_pay u).1 1 i) (e9_told hE i (by decide)) ?_
    refine lv_if_eq (tgt := 841) hx hb dL_law_836 (by decide) (fun c14 => ?_) (fun c14 => absurd (pa_1 hin).1 c14)
    refine lv_iinc (v := nI 2) (lv' := [(22, .int (nI 2)), (0, .ref (t 9)), (1, .ref ob), (2, .ref o), (3, .int (nI ti)), (5, .int (nI u.2.1)), (6, .ref h6), (7, .ref a7), (8, .ref a8), (9, .ref a9), (10, .ref a10), (12, .ref a12), (13, .int (rf_sm (fun r => ks (rl_L u r) (pu u r) 3 / 4) u.2.1)), (15, .int ((rf_py u u.2.1).1)), (16, .ref a16), (17, .int (rf_sm (its u) (i + 1))), (18, .int (rf_sm ((rf_pay u).1 5) (i + 1))), (19, .int (rf_sm (fun r => ks (rl_L u r) (pu u r) 3 / 4) (i + 1))), (20, .int (nI i)), (21, .int (its u i))]) hx hb dL_law_841 hl (k := 0) rfl (nI_1 _) (by decide) rfl (fun ls hl => ?_)
    refine lv_goto (tgt := 822) hx hb dL_law_844 (by decide) ?_
    refine lv_iload hx hb dL_law_822 (lv_at hl 0 rfl) ?_
    refine lv_iconst (v := 4) hx hb dL_law_824 (by decide) ?_
    refine lv_icmp_ge (tgt := 847) hx hb dL_law_825 (by decide) (fun c15 => absurd c15 (by decide)) (fun c15 => ?_)
    refine lv_aload_n hx hb dL_law_828 rfl (lv_at hl 2 rfl) ?_
    refine lv_iload hx hb dL_law_829 (lv_at hl 18 rfl) ?_
    refine lv_iload hx hb dL_law_831 (lv_at hl 0 rfl) ?_
    refine m_ci (wa := rs_w cI cR o z (rf_pay u)) (wb := ra_w cI ob ad v) (wd := ((a7, .inl (cI, u.2.1, .inl (f7))) :: (a8, .inl (cI, u.2.1, .inl (f8))) :: (a9, .inl (cI, u.2.1, .inl (f9))) :: (a10, .inl (cI, u.2.1, .inl (f10))) :: (a12, .inl (cI, 3, .inl (upd (upd (upd (f12) 0 ((pu u i 0) - (km (rl_L u i) (pu u i) 0))) 1 ((pu u i 1) - (km (rl_L u i) (pu u i) 1))) 2 ((pu u i 2) - (km (rl_L u i) (pu u i) 2))))) :: (a16, .inl (cI, 3, .inl (wf))) :: hw_w cI cB h6 u.2.1 r6 g)) (cells' := kc) (slots' := nc) rfl rfl C S.1 S.2.1 S.2.2 (fun hPb hDb => g_runV (wr := ((a7, .inl (cI, u.2.1, .inl (f7))) :: (a8, .inl (cI, u.2.1, .inl (f8))) :: (a9, .inl (cI, u.2.1, .inl (f9))) :: (a10, .inl (cI, u.2.1, .inl (f10))) :: (a12, .inl (cI, 3, .inl (upd (upd (upd (f12) 0 ((pu u i 0) - (km (rl_L u i) (pu u i) 0))) 1 ((pu u i 1) - (km (rl_L u i) (pu u i) 1))) 2 ((pu u i 2) - (km (rl_L u i) (pu u i) 2))))) :: (a16, .inl (cI, 3, .inl (wf))) :: hw_w cI cB h6 u.2.1 r6 g) ++ rs_w cI cR o z (rf_pay u)) (n := 2) (As := [.int (nI i), .int (nI 2)]) C (mX0_told l D t cI ob ad H.size v (by rw [hE.n]; exact hu8) i (by rw [hE.n]; exact hin) 2 (by decide)) (rw_V q219 q220 q221 q2 q222) kd_X0_told ⟨Nat.le_of_ble_eq_true rfl, Nat.le_of_ble_eq_true rfl⟩ (ci := 0) rfl rfl rfl (C.2.2.2.2.2.1.sub (tys' := [(cI, .int)]) [0] rfl) hPb hDb S.2.2 hl.1 rfl rfl (Nat.le_of_ble_eq_true rfl) dL_law_833 ⟨(show kc + 0 ≤ 728402 by omega), (show nc + 0 ≤ 6916263 by omega)⟩) (fun v w' H locs hv _ hP9 hD9 hS9 => ?_)
    obtain ⟨rfl, rfl⟩ := hv
    have S : sS D A s cI cR o z (rf_pay u) (ra_w cI ob ad v ++ ((a7, .inl (cI, u.2.1, .inl (f7))) :: (a8, .inl (cI, u.2.1, .inl (f8))) :: (a9, .inl (cI, u.2.1, .inl (f9))) :: (a10, .inl (cI, u.2.1, .inl (f10))) :: (a12, .inl (cI, 3, .inl (upd (upd (upd (f12) 0 ((pu u i 0) - (km (rl_L u i) (pu u i) 0))) 1 ((pu u i 1) - (km (rl_L u i) (pu u i) 1))) 2 ((pu u i 2) - (km (rl_L u i) (pu u i) 2))))) :: (a16, .inl (cI, 3, .inl (wf))) :: hw_w cI cB h6 u.2.1 r6 g)) H locs := ⟨hP9, hD9, hS9⟩
    refine g_top (y := (rf_pay u).1 2 i) (e9_told hE i (by decide)) ?_
    refine lv_if_eq (tgt := 841) hx hb dL_law_836 (by decide) (fun c16 => ?_) (fun c16 => absurd (pa_1 hin).2.1 c16)
    refine lv_iinc (v := nI 3) (lv' := [(22, .int (nI 3)), (0, .ref (t 9)), (1, .ref ob), (2, .ref o), (3, .int (nI ti)), (5, .int (nI u.2.1)), (6, .ref h6), (7, .ref a7), (8, .ref a8), (9, .ref a9), (10, .ref a10), (12, .ref a12), (13, .int (rf_sm (fun r => ks (rl_L u r) (pu u r) 3 / 4) u.2.1)), (15, .int ((rf_py u u.2.1).1)), (16, .ref a16), (17, .int (rf_sm (its u) (i + 1))), (18, .int (rf_sm ((rf_pay u).1 5) (i + 1))), (19, .int (rf_sm (fun r => ks (rl_L u r) (pu u r) 3 / 4) (i + 1))), (20, .int (nI i)), (21, .int (its u i))]) hx hb dL_law_841 hl (k := 0) rfl (nI_1 _) (by decide) rfl (fun ls hl => ?_)
    refine lv_goto (tgt := 822) hx hb dL_law_844 (by decide) ?_
    refine lv_iload hx hb dL_law_822 (lv_at hl 0 rfl) ?_
    refine lv_iconst (v := 4) hx hb dL_law_824 (by decide) ?_
    refine lv_icmp_ge (tgt := 847) hx hb dL_law_825 (by decide) (fun c17 => absurd c17 (by decide)) (fun c17 => ?_)
    refine lv_aload_n hx hb dL_law_828 rfl (lv_at hl 2 rfl) ?_
    refine lv_iload hx hb dL_law_829 (lv_at hl 18 rfl) ?_
    refine lv_iload hx hb dL_law_831 (lv_at hl 0 rfl) ?_
    refine m_ci (wa := rs_w cI cR o z (rf_pay u)) (wb := ra_w cI ob ad v) (wd := ((a7, .inl (cI, u.2.1, .inl (f7))) :: (a8, .inl (cI, u.2.1, .inl (f8))) :: (a9, .inl (cI, u.2.1, .inl (f9))) :: (a10, .inl (cI, u.2.1, .inl (f10))) :: (a12, .inl (cI, 3, .inl (upd (upd (upd (f12) 0 ((pu u i 0) - (km (rl_L u i) (pu u i) 0))) 1 ((pu u i 1) - (km (rl_L u i) (pu u i) 1))) 2 ((pu u i 2) - (km (rl_L u i) (pu u i) 2))))) :: (a16, .inl (cI, 3, .inl (wf))) :: hw_w cI cB h6 u.2.1 r6 g)) (cells' := kc) (slots' := nc) rfl rfl C S.1 S.2.1 S.2.2 (fun hPb hDb => g_runV (wr := ((a7, .inl (cI, u.2.1, .inl (f7))) :: (a8, .inl (cI, u.2.1, .inl (f8))) :: (a9, .inl (cI, u.2.1, .inl (f9))) :: (a10, .inl (cI, u.2.1, .inl (f10))) :: (a12, .inl (cI, 3, .inl (upd (upd (upd (f12) 0 ((pu u i 0) - (km (rl_L u i) (pu u i) 0))) 1 ((pu u i 1) - (km (rl_L u i) (pu u i) 1))) 2 ((pu u i 2) - (km (rl_L u i) (pu u i) 2))))) :: (a16, .inl (cI, 3, .inl (wf))) :: hw_w cI cB h6 u.2.1 r6 g) ++ rs_w cI cR o z (rf_pay u)) (n := 2) (As := [.int (nI i), .int (nI 3)]) C (mX0_told l D t cI ob ad H.size v (by rw [hE.n]; exact hu8) i (by rw [hE.n]; exact hin) 3 (by decide)) (rw_V q219 q220 q221 q2 q222) kd_X0_told ⟨Nat.le_of_ble_eq_true rfl, Nat.le_of_ble_eq_true rfl⟩ (ci := 0) rfl rfl rfl (C.2.2.2.2.2.1.sub (tys' := [(cI, .int)]) [0] rfl) hPb hDb S.2.2 hl.1 rfl rfl (Nat.le_of_ble_eq_true rfl) dL_law_833 ⟨(show kc + 0 ≤ 728402 by omega), (show nc + 0 ≤ 6916263 by omega)⟩) (fun v w' H locs hv _ hP9 hD9 hS9 => ?_)
    obtain ⟨rfl, rfl⟩ := hv
    have S : sS D A s cI cR o z (rf_pay u) (ra_w cI ob ad v ++ ((a7, .inl (cI, u.2.1, .inl (f7))) :: (a8, .inl (cI, u.2.1, .inl (f8))) :: (a9, .inl (cI, u.2.1, .inl (f9))) :: (a10, .inl (cI, u.2.1, .inl (f10))) :: (a12, .inl (cI, 3, .inl (upd (upd (upd (f12) 0 ((pu u i 0) - (km (rl_L u i) (pu u i) 0))) 1 ((pu u i 1) - (km (rl_L u i) (pu u i) 1))) 2 ((pu u i 2) - (km (rl_L u i) (pu u i) 2))))) :: (a16, .inl (cI, 3, .inl (wf))) :: hw_w cI cB h6 u.2.1 r6 g)) H locs := ⟨hP9, hD9, hS9⟩
    refine g_top (y := (rf_pay u).1 3 i) (e9_told hE i (by decide)) ?_
    refine lv_if_eq (tgt := 841) hx hb dL_law_836 (by decide) (fun c18 => ?_) (fun c18 => absurd (pa_1 hin).2.2 c18)
    refine lv_iinc (v := nI 4) (lv' := [(22, .int (nI 4)), (0, .ref (t 9)), (1, .ref ob), (2, .ref o), (3, .int (nI ti)), (5, .int (nI u.2.1)), (6, .ref h6), (7, .ref a7), (8, .ref a8), (9, .ref a9), (10, .ref a10), (12, .ref a12), (13, .int (rf_sm (fun r => ks (rl_L u r) (pu u r) 3 / 4) u.2.1)), (15, .int ((rf_py u u.2.1).1)), (16, .ref a16), (17, .int (rf_sm (its u) (i + 1))), (18, .int (rf_sm ((rf_pay u).1 5) (i + 1))), (19, .int (rf_sm (fun r => ks (rl_L u r) (pu u r) 3 / 4) (i + 1))), (20, .int (nI i)), (21, .int (its u i))]) hx hb dL_law_841 hl (k := 0) rfl (nI_1 _) (by decide) rfl (fun ls hl => ?_)
    refine lv_goto (tgt := 822) hx hb dL_law_844 (by decide) ?_
    refine lv_iload hx hb dL_law_822 (lv_at hl 0 rfl) ?_
    refine lv_iconst (v := 4) hx hb dL_law_824 (by decide) ?_
    refine lv_icmp_ge (tgt := 847) hx hb dL_law_825 (by decide) (fun c19 => ?_) (fun c19 => absurd (by decide) c19)
    refine lv_aload_n hx hb dL_law_847 rfl (lv_at hl 2 rfl) ?_
    refine lv_iload hx hb dL_law_848 (lv_at hl 18 rfl) ?_
    refine lv_iconst (v := 2) hx hb dL_law_850 (by decide) ?_
    refine m_ci (wa := rs_w cI cR o z (rf_pay u)) (wb := ra_w cI ob ad v) (wd := ((a7, .inl (cI, u.2.1, .inl (f7))) :: (a8, .inl (cI, u.2.1, .inl (f8))) :: (a9, .inl (cI, u.2.1, .inl (f9))) :: (a10, .inl (cI, u.2.1, .inl (f10))) :: (a12, .inl (cI, 3, .inl (upd (upd (upd (f12) 0 ((pu u i 0) - (km (rl_L u i) (pu u i) 0))) 1 ((pu u i 1) - (km (rl_L u i) (pu u i) 1))) 2 ((pu u i 2) - (km (rl_L u i) (pu u i) 2))))) :: (a16, .inl (cI, 3, .inl (wf))) :: hw_w cI cB h6 u.2.1 r6 g)) (cells' := kc) (slots' := nc) rfl rfl C S.1 S.2.1 S.2.2 (fun hPb hDb => g_runV (wr := ((a7, .inl (cI, u.2.1, .inl (f7))) :: (a8, .inl (cI, u.2.1, .inl (f8))) :: (a9, .inl (cI, u.2.1, .inl (f9))) :: (a10, .inl (cI, u.2.1, .inl (f10))) :: (a12, .inl (cI, 3, .inl (upd (upd (upd (f12) 0 ((pu u i 0) - (km (rl_L u i) (pu u i) 0))) 1 ((pu u i 1) - (km (rl_L u i) (pu u i) 1))) 2 ((pu u i 2) - (km (rl_L u i) (pu u i) 2))))) :: (a16, .inl (cI, 3, .inl (wf))) :: hw_w cI cB h6 u.2.1 r6 g) ++ rs_w cI cR o z (rf_pay u)) (n := 2) (As := [.int (nI i), .int 2]) C (mX0_wage l D t cI ob ad H.size v (by rw [hE.n]; exact hu8) i (by rw [hE.n]; exact hin) 2 (by decide)) (rw_V q223 q224 q225 q2 q226) kd_X0_wage ⟨Nat.le_of_ble_eq_true rfl, Nat.le_of_ble_eq_true rfl⟩ (ci := 0) rfl rfl rfl (C.2.2.2.2.2.1.sub (tys' := [(cI, .int)]) [0] rfl) hPb hDb S.2.2 hl.1 rfl rfl (Nat.le_of_ble_eq_true rfl) dL_law_851 ⟨(show kc + 0 ≤ 728402 by omega), (show nc + 0 ≤ 6916263 by omega)⟩) (fun v w' H locs hv _ hP9 hD9 hS9 => ?_)
    obtain ⟨rfl, rfl⟩ := hv
    have S : sS D A s cI cR o z (rf_pay u) (ra_w cI ob ad v ++ ((a7, .inl (cI, u.2.1, .inl (f7))) :: (a8, .inl (cI, u.2.1, .inl (f8))) :: (a9, .inl (cI, u.2.1, .inl (f9))) :: (a10, .inl (cI, u.2.1, .inl (f10))) :: (a12, .inl (cI, 3, .inl (upd (upd (upd (f12) 0 ((pu u i 0) - (km (rl_L u i) (pu u i) 0))) 1 ((pu u i 1) - (km (rl_L u i) (pu u i) 1))) 2 ((pu u i 2) - (km (rl_L u i) (pu u i) 2))))) :: (a16, .inl (cI, 3, .inl (wf))) :: hw_w cI cB h6 u.2.1 r6 g)) H locs := ⟨hP9, hD9, hS9⟩
    refine g_top (y := rf_ww (rf_pay u) 7 i) (e9_w2 hE i) ?_
    refine lv_if_ne (tgt := 874) hx hb dL_law_854 (by decide) (fun c20 => absurd (pa_w B hT1 hin) c20) (fun c20 => ?_)
    refine lv_aload_n hx hb dL_law_857 rfl (lv_at hl 2 rfl) ?_
    refine lv_iload hx hb dL_law_858 (lv_at hl 18 rfl) ?_
    refine lv_iconst (v := 3) hx hb dL_law_860 (by decide) ?_
    refine m_ci (wa := rs_w cI cR o z (rf_pay u)) (wb := ra_w cI ob ad v) (wd := ((a7, .inl (cI, u.2.1, .inl (f7))) :: (a8, .inl (cI, u.2.1, .inl (f8))) :: (a9, .inl (cI, u.2.1, .inl (f9))) :: (a10, .inl (cI, u.2.1, .inl (f10))) :: (a12, .inl (cI, 3, .inl (upd (upd (upd (f12) 0 ((pu u i 0) - (km (rl_L u i) (pu u i) 0))) 1 ((pu u i 1) - (km (rl_L u i) (pu u i) 1))) 2 ((pu u i 2) - (km (rl_L u i) (pu u i) 2))))) :: (a16, .inl (cI, 3, .inl (wf))) :: hw_w cI cB h6 u.2.1 r6 g)) (cells' := kc) (slots' := nc) rfl rfl C S.1 S.2.1 S.2.2 (fun hPb hDb => g_runV (wr := ((a7, .inl (cI, u.2.1, .inl (f7))) :: (a8, .inl (cI, u.2.1, .inl (f8))) :: (a9, .inl (cI, u.2.1, .inl (f9))) :: (a10, .inl (cI, u.2.1, .inl (f10))) :: (a12, .inl (cI, 3, .inl (upd (upd (upd (f12) 0 ((pu u i 0) - (km (rl_L u i) (pu u i) 0))) 1 ((pu u i 1) - (km (rl_L u i) (pu u i) 1))) 2 ((pu u i 2) - (km (rl_L u i) (pu u i) 2))))) :: (a16, .inl (cI, 3, .inl (wf))) :: hw_w cI cB h6 u.2.1 r6 g) ++ rs_w cI cR o z (rf_pay u)) (n := 2) (As := [.int (nI i), .int 3]) C (mX0_wage l D t cI ob ad H.size v (by rw [hE.n]; exact hu8) i (by rw [hE.n]; exact hin) 3 (by decide)) (rw_V q223 q224 q225 q2 q226) kd_X0_wage ⟨Nat.le_of_ble_eq_true rfl, Nat.le_of_ble_eq_true rfl⟩ (ci := 0) rfl rfl rfl (C.2.2.2.2.2.1.sub (tys' := [(cI, .int)]) [0] rfl) hPb hDb S.2.2 hl.1 rfl rfl (Nat.le_of_ble_eq_true rfl) dL_law_861 ⟨(show kc + 0 ≤ 728402 by omega), (show nc + 0 ≤ 6916263 by omega)⟩) (fun v w' H locs hv _ hP9 hD9 hS9 => ?_)
    obtain ⟨rfl, rfl⟩ := hv
    have S : sS D A s cI cR o z (rf_pay u) (ra_w cI ob ad v ++ ((a7, .inl (cI, u.2.1, .inl (f7))) :: (a8, .inl (cI, u.2.1, .inl (f8))) :: (a9, .inl (cI, u.2.1, .inl (f9))) :: (a10, .inl (cI, u.2.1, .inl (f10))) :: (a12, .inl (cI, 3, .inl (upd (upd (upd (f12) 0 ((pu u i 0) - (km (rl_L u i) (pu u i) 0))) 1 ((pu u i 1) - (km (rl_L u i) (pu u i) 1))) 2 ((pu u i 2) - (km (rl_L u i) (pu u i) 2))))) :: (a16, .inl (cI, 3, .inl (wf))) :: hw_w cI cB h6 u.2.1 r6 g)) H locs := ⟨hP9, hD9, hS9⟩
    refine g_top (y := rf_cm (rf_pay u) i) (e9_w3 hE i) ?_
    refine lv_aload_n hx hb dL_law_864 rfl (lv_at hl 2 rfl) ?_
    refine lv_iload hx hb dL_law_865 (lv_at hl 18 rfl) ?_
    refine lv_iconst (v := 5) hx hb dL_law_867 (by decide) ?_
    refine m_ci (wa := rs_w cI cR o z (rf_pay u)) (wb := ra_w cI ob ad v) (wd := ((a7, .inl (cI, u.2.1, .inl (f7))) :: (a8, .inl (cI, u.2.1, .inl (f8))) :: (a9, .inl (cI, u.2.1, .inl (f9))) :: (a10, .inl (cI, u.2.1, .inl (f10))) :: (a12, .inl (cI, 3, .inl (upd (upd (upd (f12) 0 ((pu u i 0) - (km (rl_L u i) (pu u i) 0))) 1 ((pu u i 1) - (km (rl_L u i) (pu u i) 1))) 2 ((pu u i 2) - (km (rl_L u i) (pu u i) 2))))) :: (a16, .inl (cI, 3, .inl (wf))) :: hw_w cI cB h6 u.2.1 r6 g)) (cells' := kc) (slots' := nc) rfl rfl C S.1 S.2.1 S.2.2 (fun hPb hDb => g_runV (wr := ((a7, .inl (cI, u.2.1, .inl (f7))) :: (a8, .inl (cI, u.2.1, .inl (f8))) :: (a9, .inl (cI, u.2.1, .inl (f9))) :: (a10, .inl (cI, u.2.1, .inl (f10))) :: (a12, .inl (cI, 3, .inl (upd (upd (upd (f12) 0 ((pu u i 0) - (km (rl_L u i) (pu u i) 0))) 1 ((pu u i 1) - (km (rl_L u i) (pu u i) 1))) 2 ((pu u i 2) - (km (rl_L u i) (pu u i) 2))))) :: (a16, .inl (cI, 3, .inl (wf))) :: hw_w cI cB h6 u.2.1 r6 g) ++ rs_w cI cR o z (rf_pay u)) (n := 2) (As := [.int (nI i), .int 5]) C (mX0_told l D t cI ob ad H.size v (by rw [hE.n]; exact hu8) i (by rw [hE.n]; exact hin) 5 (by decide)) (rw_V q219 q220 q221 q2 q222) kd_X0_told ⟨Nat.le_of_ble_eq_true rfl, Nat.le_of_ble_eq_true rfl⟩ (ci := 0) rfl rfl rfl (C.2.2.2.2.2.1.sub (tys' := [(cI, .int)]) [0] rfl) hPb hDb S.2.2 hl.1 rfl rfl (Nat.le_of_ble_eq_true rfl) dL_law_868 ⟨(show kc + 0 ≤ 728402 by omega), (show nc + 0 ≤ 6916263 by omega)⟩) (fun v w' H locs hv _ hP9 hD9 hS9 => ?_)
    obtain ⟨rfl, rfl⟩ := hv
    have S : sS D A s cI cR o z (rf_pay u) (ra_w cI ob ad v ++ ((a7, .inl (cI, u.2.1, .inl (f7))) :: (a8, .inl (cI, u.2.1, .inl (f8))) :: (a9, .inl (cI, u.2.1, .inl (f9))) :: (a10, .inl (cI, u.2.1, .inl (f10))) :: (a12, .inl (cI, 3, .inl (upd (upd (upd (f12) 0 ((pu u i 0) - (km (rl_L u i) (pu u i) 0))) 1 ((pu u i 1) - (km (rl_L u i) (pu u i) 1))) 2 ((pu u i 2) - (km (rl_L u i) (pu u i) 2))))) :: (a16, .inl (cI, 3, .inl (wf))) :: hw_w cI cB h6 u.2.1 r6 g)) H locs := ⟨hP9, hD9, hS9⟩
    refine g_top (y := (rf_pay u).1 5 i) (e9_told hE i (by decide)) ?_
    refine lv_icmp_eq (tgt := 876) hx hb dL_law_871 (by decide) (fun c21 => ?_) (fun c21 => absurd (pa_cm B hT1 hin) c21)
    refine lv_iinc (v := nI (i + 1)) (lv' := [(20, .int (nI (i + 1))), (22, .int (nI 4)), (0, .ref (t 9)), (1, .ref ob), (2, .ref o), (3, .int (nI ti)), (5, .int (nI u.2.1)), (6, .ref h6), (7, .ref a7), (8, .ref a8), (9, .ref a9), (10, .ref a10), (12, .ref a12), (13, .int (rf_sm (fun r => ks (rl_L u r) (pu u r) 3 / 4) u.2.1)), (15, .int ((rf_py u u.2.1).1)), (16, .ref a16), (17, .int (rf_sm (its u) (i + 1))), (18, .int (rf_sm ((rf_pay u).1 5) (i + 1))), (19, .int (rf_sm (fun r => ks (rl_L u r) (pu u r) 3 / 4) (i + 1))), (21, .int (its u i))]) hx hb dL_law_876 hl (k := 18) rfl (nI_1 _) (by decide) rfl (fun ls hl => ?_)
    refine lv_goto (tgt := 596) hx hb dL_law_879 (by decide) ?_
    exact ih (i + 1) (by omega) _ _ _ _ e12 S (lv_sub hl [2, 3, 4, 5, 6, 7, 8, 9, 10, 11, 12, 13, 14, 15, 16, 17, 18, 0] rfl)
set_option maxHeartbeats 4000000 in
set_option maxRecDepth 100000 in
theorem law_mid {p : Program} {l : Launch} {e : Env} {s : State} {m : MethodId} {args : Array Value} {below : List Frame} {meth : Method} {c : Code} {Q : State → Prop} {D : va_G} {t : Nat → Nat} {A : Nat → Prop} {cI cR cB : ClassId} {o ob T ti h6 a7 a8 a9 a10 kc nc : Nat} {r6 : Nat → Nat} {v : S0} {f7 f8 f9 f10 : Nat → Int32} {H : Heap} {locs : List Loc} {ls : Array Slot} {g : Nat → Nat → Int32} {ad : Nat → Nat} {z : SA} {u : S0} (C : gC p s m args meth c code 23 RL D (ty3 cI cR cB) t A) (B : rB T u) (hT1 : T + 1 ≤ 400) (hE : E9 u v) (h7 : ∀ k : Nat, k < u.2.1 → f7 k = u.1 4 k) (h8 : ∀ k : Nat, k < u.2.1 → f8 k = rf_tk u k) (h9 : ∀ k : Nat, k < u.2.1 → f9 k = rf_cm u k) (h10 : ∀ k : Nat, k < u.2.1 → f10 k = u.1 6 k) (hg : ∀ k c : Nat, k < u.2.1 → c < 3 → g k c = km (rl_L u k) (pu u k) c) (hkc : kc ≤ 600000) (hnc : nc ≤ 6800000) (S : sS D A s cI cR o z u (ra_w cI ob ad v ++ ((a7, .inl (cI, u.2.1, .inl (f7))) :: (a8, .inl (cI, u.2.1, .inl (f8))) :: (a9, .inl (cI, u.2.1, .inl (f9))) :: (a10, .inl (cI, u.2.1, .inl (f10))) :: hw_w cI cB h6 u.2.1 r6 g)) H locs) (hl : lv_has ls 23 [(0, .ref (t 9)), (1, .ref ob), (2, .ref o), (3, .int (nI ti)), (5, .int (nI u.2.1)), (6, .ref h6), (7, .ref a7), (8, .ref a8), (9, .ref a9), (10, .ref a10), (11, .int (rf_sm (rf_ww u 7) u.2.1)), (12, .int (nI u.2.1))]) (kk : ∀ (z : SA) (v : S0) (H : Heap) (locs : List Loc) (ls : Array Slot), E9 (rf_pay u) v → sS D A s cI cR o z (rf_pay u) (ra_w cI ob ad v) H locs → lv_has ls 23 [(0, .ref (t 9)), (1, .ref ob), (2, .ref o), (3, .int (nI (ti + 1)))] → W p l e room_1 s m args below meth c H locs (kc + 19) (nc + 62) Q (F0 m 22 ls [])) : W p l e room_1 s m args below meth c H locs kc nc Q (F0 m 458 ls []) := by
  have hx := C.1
  have hb := C.2.1
  have hown := C.2.2.2.1
  have hts := C.2.2.2.2.1
  have hu8 : u.2.1 ≤ 8 := B.1
  have h494 : ∀ (H : Heap) (locs : List Loc) (ls : Array Slot), sS D A s cI cR o z u (ra_w cI ob ad v ++ ((a7, .inl (cI, u.2.1, .inl (f7))) :: (a8, .inl (cI, u.2.1, .inl (f8))) :: (a9, .inl (cI, u.2.1, .inl (f9))) :: (a10, .inl (cI, u.2.1, .inl (f10))) :: hw_w cI cB h6 u.2.1 r6 g)) H locs → lv_has ls 23 [(0, .ref (t 9)), (1, .ref ob), (2, .ref o), (3, .int (nI ti)), (5, .int (nI u.2.1)), (6, .ref h6), (7, .ref a7), (8, .ref a8), (9, .ref a9), (10, .ref a10)] → W p l e room_1 s m args below meth c H locs kc nc Q (F0 m 494 ls []) := by
    intro H locs ls S hl
    refine lv_iconst (v := 3) hx hb dL_law_494 (by decide) ?_
    refine x_new C S (N := 3) rfl (by omega) q4 (cells' := kc + 1) (slots' := nc + 3) rfl rfl (show kc + 1 ≤ 728402 by omega) (show nc + 3 ≤ 6916263 by omega) dL_law_495 (fun a1 H S => ?_)
    have S : sS D A s cI cR o z u (ra_w cI ob ad v ++ ((a7, .inl (cI, u.2.1, .inl (f7))) :: (a8, .inl (cI, u.2.1, .inl (f8))) :: (a9, .inl (cI, u.2.1, .inl (f9))) :: (a10, .inl (cI, u.2.1, .inl (f10))) :: (a1, .inl (cI, 3, .inl (fun _ => 0))) :: hw_w cI cB h6 u.2.1 r6 g)) H locs := S.re (fun q hq => by simp only [List.mem_append, List.mem_cons, List.not_mem_nil, or_false, false_or] at hq ⊢; first | exact hq | grind) (fun a => by simp only [List.map_append, List.map_cons, List.map_nil, List.count_append, List.count_cons, List.count_nil]; omega)
    refine lv_dup hx hb dL_law_497 rfl ?_
    refine lv_iconst (v := 0) hx hb dL_law_498 (by decide) ?_
    refine lv_aload_n hx hb dL_law_499 rfl (lv_at hl 1 rfl) ?_
    refine lv_iconst (v := 0) hx hb dL_law_500 (by decide) ?_
    refine m_ci (wa := rs_w cI cR o z u) (wb := ra_w cI ob ad v) (wd := ((a7, .inl (cI, u.2.1, .inl (f7))) :: (a8, .inl (cI, u.2.1, .inl (f8))) :: (a9, .inl (cI, u.2.1, .inl (f9))) :: (a10, .inl (cI, u.2.1, .inl (f10))) :: (a1, .inl (cI, 3, .inl (fun _ => 0))) :: hw_w cI cB h6 u.2.1 r6 g)) (cells' := kc + 1) (slots' := nc + 3) rfl rfl C S.1 S.2.1 S.2.2 (fun hPb hDb => g_runV (wr := ((a7, .inl (cI, u.2.1, .inl (f7))) :: (a8, .inl (cI, u.2.1, .inl (f8))) :: (a9, .inl (cI, u.2.1, .inl (f9))) :: (a10, .inl (cI, u.2.1, .inl (f10))) :: (a1, .inl (cI, 3, .inl (fun _ => 0))) :: hw_w cI cB h6 u.2.1 r6 g) ++ rs_w cI cR o z u) (n := 1) (As := [.int 0]) C (mX0_chest l D t cI ob ad H.size v 0 (by decide)) (rw_V q231 q232 q233 q2 q234) kd_X0_chest ⟨Nat.le_of_ble_eq_true rfl, Nat.le_of_ble_eq_true rfl⟩ (ci := 0) rfl rfl rfl (C.2.2.2.2.2.1.sub (tys' := [(cI, .int)]) [0] rfl) hPb hDb S.2.2 hl.1 rfl rfl (Nat.le_of_ble_eq_true rfl) dL_law_501 ⟨(show kc + 1 + 0 ≤ 728402 by omega), (show nc + 3 + 0 ≤ 6916263 by omega)⟩) (fun v w' H locs hv _ hP9 hD9 hS9 => ?_)
    obtain ⟨rfl, rfl⟩ := hv
    have S : sS D A s cI cR o z u (ra_w cI ob ad v ++ ((a7, .inl (cI, u.2.1, .inl (f7))) :: (a8, .inl (cI, u.2.1, .inl (f8))) :: (a9, .inl (cI, u.2.1, .inl (f9))) :: (a10, .inl (cI, u.2.1, .inl (f10))) :: (a1, .inl (cI, 3, .inl (fun _ => 0))) :: hw_w cI cB h6 u.2.1 r6 g)) H locs := ⟨hP9, hD9, hS9⟩
    refine g_top (y := u.1 8 0) (congrFun (hE.2 8 (by decide)) 0) ?_
    refine x_st C S 17 (n := 3) (f := (fun _ => 0)) (i := 0) rfl (by omega) (by omega) rfl dL_law_504 (fun H locs S => ?_)
    have S : sS D A s cI cR o z u (ra_w cI ob ad v ++ ((a7, .inl (cI, u.2.1, .inl (f7))) :: (a8, .inl (cI, u.2.1, .inl (f8))) :: (a9, .inl (cI, u.2.1, .inl (f9))) :: (a10, .inl (cI, u.2.1, .inl (f10))) :: (a1, .inl (cI, 3, .inl (upd (fun _ => 0) 0 (u.1 8 0)))) :: hw_w cI cB h6 u.2.1 r6 g)) H locs := S
    refine lv_dup hx hb dL_law_505 rfl ?_
    refine lv_iconst (v := 1) hx hb dL_law_506 (by decide) ?_
    refine lv_aload_n hx hb dL_law_507 rfl (lv_at hl 1 rfl) ?_
    refine lv_iconst (v := 1) hx hb dL_law_508 (by decide) ?_
    refine m_ci (wa := rs_w cI cR o z u) (wb := ra_w cI ob ad v) (wd := ((a7, .inl (cI, u.2.1, .inl (f7))) :: (a8, .inl (cI, u.2.1, .inl (f8))) :: (a9, .inl (cI, u.2.1, .inl (f9))) :: (a10, .inl (cI, u.2.1, .inl (f10))) :: (a1, .inl (cI, 3, .inl (upd (fun _ => 0) 0 (u.1 8 0)))) :: hw_w cI cB h6 u.2.1 r6 g)) (cells' := kc + 1) (slots' := nc + 3) rfl rfl C S.1 S.2.1 S.2.2 (fun hPb hDb => g_runV (wr := ((a7, .inl (cI, u.2.1, .inl (f7))) :: (a8, .inl (cI, u.2.1, .inl (f8))) :: (a9, .inl (cI, u.2.1, .inl (f9))) :: (a10, .inl (cI, u.2.1, .inl (f10))) :: (a1, .inl (cI, 3, .inl (upd (fun _ => 0) 0 (u.1 8 0)))) :: hw_w cI cB h6 u.2.1 r6 g) ++ rs_w cI cR o z u) (n := 1) (As := [.int 1]) C (mX0_chest l D t cI ob ad H.size v 1 (by decide)) (rw_V q231 q232 q233 q2 q234) kd_X0_chest ⟨Nat.le_of_ble_eq_true rfl, Nat.le_of_ble_eq_true rfl⟩ (ci := 0) rfl rfl rfl (C.2.2.2.2.2.1.sub (tys' := [(cI, .int)]) [0] rfl) hPb hDb S.2.2 hl.1 rfl rfl (Nat.le_of_ble_eq_true rfl) dL_law_509 ⟨(show kc + 1 + 0 ≤ 728402 by omega), (show nc + 3 + 0 ≤ 6916263 by omega)⟩) (fun v w' H locs hv _ hP9 hD9 hS9 => ?_)
    obtain ⟨rfl, rfl⟩ := hv
    have S : sS D A s cI cR o z u (ra_w cI ob ad v ++ ((a7, .inl (cI, u.2.1, .inl (f7))) :: (a8, .inl (cI, u.2.1, .inl (f8))) :: (a9, .inl (cI, u.2.1, .inl (f9))) :: (a10, .inl (cI, u.2.1, .inl (f10))) :: (a1, .inl (cI, 3, .inl (upd (fun _ => 0) 0 (u.1 8 0)))) :: hw_w cI cB h6 u.2.1 r6 g)) H locs := ⟨hP9, hD9, hS9⟩
    refine g_top (y := u.1 8 1) (congrFun (hE.2 8 (by decide)) 1) ?_
    refine x_st C S 17 (n := 3) (f := (upd (fun _ => 0) 0 (u.1 8 0))) (i := 1) rfl (by omega) (by omega) rfl dL_law_512 (fun H locs S => ?_)
    have S : sS D A s cI cR o z u (ra_w cI ob ad v ++ ((a7, .inl (cI, u.2.1, .inl (f7))) :: (a8, .inl (cI, u.2.1, .inl (f8))) :: (a9, .inl (cI, u.2.1, .inl (f9))) :: (a10, .inl (cI, u.2.1, .inl (f10))) :: (a1, .inl (cI, 3, .inl (upd (upd (fun _ => 0) 0 (u.1 8 0)) 1 (u.1 8 1)))) :: hw_w cI cB h6 u.2.1 r6 g)) H locs := S
    refine lv_dup hx hb dL_law_513 rfl ?_
    refine lv_iconst (v := 2) hx hb dL_law_514 (by decide) ?_
    refine lv_aload_n hx hb dL_law_515 rfl (lv_at hl 1 rfl) ?_
    refine lv_iconst (v := 2) hx hb dL_law_516 (by decide) ?_
    refine m_ci (wa := rs_w cI cR o z u) (wb := ra_w cI ob ad v) (wd := ((a7, .inl (cI, u.2.1, .inl (f7))) :: (a8, .inl (cI, u.2.1, .inl (f8))) :: (a9, .inl (cI, u.2.1, .inl (f9))) :: (a10, .inl (cI, u.2.1, .inl (f10))) :: (a1, .inl (cI, 3, .inl (upd (upd (fun _ => 0) 0 (u.1 8 0)) 1 (u.1 8 1)))) :: hw_w cI cB h6 u.2.1 r6 g)) (cells' := kc + 1) (slots' := nc + 3) rfl rfl C S.1 S.2.1 S.2.2 (fun hPb hDb => g_runV (wr := ((a7, .inl (cI, u.2.1, .inl (f7))) :: (a8, .inl (cI, u.2.1, .inl (f8))) :: (a9, .inl (cI, u.2.1, .inl (f9))) :: (a10, .inl (cI, u.2.1, .inl (f10))) :: (a1, .inl (cI, 3, .inl (upd (upd (fun _ => 0) 0 (u.1 8 0)) 1 (u.1 8 1)))) :: hw_w cI cB h6 u.2.1 r6 g) ++ rs_w cI cR o z u) (n := 1) (As := [.int 2]) C (mX0_chest l D t cI ob ad H.size v 2 (by decide)) (rw_V q231 q232 q233 q2 q234) kd_X0_chest ⟨Nat.le_of_ble_eq_true rfl, Nat.le_of_ble_eq_true rfl⟩ (ci := 0) rfl rfl rfl (C.2.2.2.2.2.1.sub (tys' := [(cI, .int)]) [0] rfl) hPb hDb S.2.2 hl.1 rfl rfl (Nat.le_of_ble_eq_true rfl) dL_law_517 ⟨(show kc + 1 + 0 ≤ 728402 by omega), (show nc + 3 + 0 ≤ 6916263 by omega)⟩) (fun v w' H locs hv _ hP9 hD9 hS9 => ?_)
    obtain ⟨rfl, rfl⟩ := hv
    have S : sS D A s cI cR o z u (ra_w cI ob ad v ++ ((a7, .inl (cI, u.2.1, .inl (f7))) :: (a8, .inl (cI, u.2.1, .inl (f8))) :: (a9, .inl (cI, u.2.1, .inl (f9))) :: (a10, .inl (cI, u.2.1, .inl (f10))) :: (a1, .inl (cI, 3, .inl (upd (upd (fun _ => 0) 0 (u.1 8 0)) 1 (u.1 8 1)))) :: hw_w cI cB h6 u.2.1 r6 g)) H locs := ⟨hP9, hD9, hS9⟩
    refine g_top (y := u.1 8 2) (congrFun (hE.2 8 (by decide)) 2) ?_
    refine x_st C S 17 (n := 3) (f := (upd (upd (fun _ => 0) 0 (u.1 8 0)) 1 (u.1 8 1))) (i := 2) rfl (by omega) (by omega) rfl dL_law_520 (fun H locs S => ?_)
    have S : sS D A s cI cR o z u (ra_w cI ob ad v ++ ((a7, .inl (cI, u.2.1, .inl (f7))) :: (a8, .inl (cI, u.2.1, .inl (f8))) :: (a9, .inl (cI, u.2.1, .inl (f9))) :: (a10, .inl (cI, u.2.1, .inl (f10))) :: (a1, .inl (cI, 3, .inl (upd (upd (upd (fun _ => 0) 0 (u.1 8 0)) 1 (u.1 8 1)) 2 (u.1 8 2)))) :: hw_w cI cB h6 u.2.1 r6 g)) H locs := S
    refine lv_astore (lv' := [(12, .ref a1), (0, .ref (t 9)), (1, .ref ob), (2, .ref o), (3, .int (nI ti)), (5, .int (nI u.2.1)), (6, .ref h6), (7, .ref a7), (8, .ref a8), (9, .ref a9), (10, .ref a10)]) hx hb dL_law_521 hl (by decide) rfl (fun ls hl => ?_)
    refine lv_aload_n hx hb dL_law_523 rfl (lv_at hl 2 rfl) ?_
    refine m_ci (wa := rs_w cI cR o z u) (wb := ra_w cI ob ad v) (wd := ((a7, .inl (cI, u.2.1, .inl (f7))) :: (a8, .inl (cI, u.2.1, .inl (f8))) :: (a9, .inl (cI, u.2.1, .inl (f9))) :: (a10, .inl (cI, u.2.1, .inl (f10))) :: (a1, .inl (cI, 3, .inl (upd (upd (upd (fun _ => 0) 0 (u.1 8 0)) 1 (u.1 8 1)) 2 (u.1 8 2)))) :: hw_w cI cB h6 u.2.1 r6 g)) (cells' := kc + 1) (slots' := nc + 3) rfl rfl C S.1 S.2.1 S.2.2 (fun hPb hDb => g_runV (wr := ((a7, .inl (cI, u.2.1, .inl (f7))) :: (a8, .inl (cI, u.2.1, .inl (f8))) :: (a9, .inl (cI, u.2.1, .inl (f9))) :: (a10, .inl (cI, u.2.1, .inl (f10))) :: (a1, .inl (cI, 3, .inl (upd (upd (upd (fun _ => 0) 0 (u.1 8 0)) 1 (u.1 8 1)) 2 (u.1 8 2)))) :: hw_w cI cB h6 u.2.1 r6 g) ++ rs_w cI cR o z u) (n := 0) (As := []) C (mX0_lacks l D t cI ob ad H.size v (by rw [hE.n]; exact hu8)) (rw_V q235 q236 q237 q2 q238) kd_X0_lacks ⟨Nat.le_of_ble_eq_true rfl, Nat.le_of_ble_eq_true rfl⟩ (ci := 0) rfl rfl rfl (C.2.2.2.2.2.1.sub (tys' := [(cI, .int)]) [0] rfl) hPb hDb S.2.2 hl.1 rfl rfl (Nat.le_of_ble_eq_true rfl) dL_law_524 ⟨(show kc + 1 + 0 ≤ 728402 by omega), (show nc + 3 + 0 ≤ 6916263 by omega)⟩) (fun v w' H locs hv _ hP9 hD9 hS9 => ?_)
    obtain ⟨rfl, rfl⟩ := hv
    have S : sS D A s cI cR o z u (ra_w cI ob ad ((rf_lk (rf_cp v 8 12 3) v.2.1).2) ++ ((a7, .inl (cI, u.2.1, .inl (f7))) :: (a8, .inl (cI, u.2.1, .inl (f8))) :: (a9, .inl (cI, u.2.1, .inl (f9))) :: (a10, .inl (cI, u.2.1, .inl (f10))) :: (a1, .inl (cI, 3, .inl (upd (upd (upd (fun _ => 0) 0 (u.1 8 0)) 1 (u.1 8 1)) 2 (u.1 8 2)))) :: hw_w cI cB h6 u.2.1 r6 g)) H locs := ⟨hP9, hD9, hS9⟩
    refine g_top (y := rf_sm (fun r => ks (rl_L u r) (pu u r) 3 / 4) u.2.1) (e9_lkA B hE) ?_
    have hE : E9 u ((rf_lk (rf_cp v 8 12 3) v.2.1).2) := hE.tr e9_lkS
    refine lv_istore (lv' := [(13, .int (rf_sm (fun r => ks (rl_L u r) (pu u r) 3 / 4) u.2.1)), (12, .ref a1), (0, .ref (t 9)), (1, .ref ob), (2, .ref o), (3, .int (nI ti)), (5, .int (nI u.2.1)), (6, .ref h6), (7, .ref a7), (8, .ref a8), (9, .ref a9), (10, .ref a10)]) hx hb dL_law_527 hl (by decide) rfl (fun ls hl => ?_)
    refine lv_aload_n hx hb dL_law_529 rfl (lv_at hl 3 rfl) ?_
    refine lv_iconst (v := 0) hx hb dL_law_530 (by decide) ?_
    refine m_ci (wa := rs_w cI cR o z u) (wb := ra_w cI ob ad ((rf_lk (rf_cp v 8 12 3) v.2.1).2)) (wd := ((a7, .inl (cI, u.2.1, .inl (f7))) :: (a8, .inl (cI, u.2.1, .inl (f8))) :: (a9, .inl (cI, u.2.1, .inl (f9))) :: (a10, .inl (cI, u.2.1, .inl (f10))) :: (a1, .inl (cI, 3, .inl (upd (upd (upd (fun _ => 0) 0 (u.1 8 0)) 1 (u.1 8 1)) 2 (u.1 8 2)))) :: hw_w cI cB h6 u.2.1 r6 g)) (cells' := kc + 1) (slots' := nc + 3) rfl rfl C S.1 S.2.1 S.2.2 (fun hPb hDb => g_runV (wr := ((a7, .inl (cI, u.2.1, .inl (f7))) :: (a8, .inl (cI, u.2.1, .inl (f8))) :: (a9, .inl (cI, u.2.1, .inl (f9))) :: (a10, .inl (cI, u.2.1, .inl (f10))) :: (a1, .inl (cI, 3, .inl (upd (upd (upd (fun _ => 0) 0 (u.1 8 0)) 1 (u.1 8 1)) 2 (u.1 8 2)))) :: hw_w cI cB h6 u.2.1 r6 g) ++ rs_w cI cR o z u) (n := 1) (As := [.int 0]) C (mX0_count l D t cI ob ad H.size ((rf_lk (rf_cp v 8 12 3) v.2.1).2) (by rw [hE.n]; exact hu8) 0 (by decide)) (rw_V q192 q193 q194 q2 q195) kd_X0_count ⟨Nat.le_of_ble_eq_true rfl, Nat.le_of_ble_eq_true rfl⟩ (ci := 0) rfl rfl rfl (C.2.2.2.2.2.1.sub (tys' := [(cI, .int)]) [0] rfl) hPb hDb S.2.2 hl.1 rfl rfl (Nat.le_of_ble_eq_true rfl) dL_law_531 ⟨(show kc + 1 + 0 ≤ 728402 by omega), (show nc + 3 + 0 ≤ 6916263 by omega)⟩) (fun v w' H locs hv _ hP9 hD9 hS9 => ?_)
    obtain ⟨rfl, rfl⟩ := hv
    have S : sS D A s cI cR o z u (ra_w cI ob ad ((rf_lk (rf_cp v 8 12 3) v.2.1).2) ++ ((a7, .inl (cI, u.2.1, .inl (f7))) :: (a8, .inl (cI, u.2.1, .inl (f8))) :: (a9, .inl (cI, u.2.1, .inl (f9))) :: (a10, .inl (cI, u.2.1, .inl (f10))) :: (a1, .inl (cI, 3, .inl (upd (upd (upd (fun _ => 0) 0 (u.1 8 0)) 1 (u.1 8 1)) 2 (u.1 8 2)))) :: hw_w cI cB h6 u.2.1 r6 g)) H locs := ⟨hP9, hD9, hS9⟩
    refine g_top (y := u.2.2) (e9_c0 hE) ?_
    refine lv_istore (lv' := [(14, .int u.2.2), (13, .int (rf_sm (fun r => ks (rl_L u r) (pu u r) 3 / 4) u.2.1)), (12, .ref a1), (0, .ref (t 9)), (1, .ref ob), (2, .ref o), (3, .int (nI ti)), (5, .int (nI u.2.1)), (6, .ref h6), (7, .ref a7), (8, .ref a8), (9, .ref a9), (10, .ref a10)]) hx hb dL_law_534 hl (by decide) rfl (fun ls hl => ?_)
    refine lv_aload_n hx hb dL_law_536 rfl (lv_at hl 4 rfl) ?_
    refine m_ci (wa := rs_w cI cR o z u) (wb := ra_w cI ob ad ((rf_lk (rf_cp v 8 12 3) v.2.1).2)) (wd := ((a7, .inl (cI, u.2.1, .inl (f7))) :: (a8, .inl (cI, u.2.1, .inl (f8))) :: (a9, .inl (cI, u.2.1, .inl (f9))) :: (a10, .inl (cI, u.2.1, .inl (f10))) :: (a1, .inl (cI, 3, .inl (upd (upd (upd (fun _ => 0) 0 (u.1 8 0)) 1 (u.1 8 1)) 2 (u.1 8 2)))) :: hw_w cI cB h6 u.2.1 r6 g)) (cells' := kc + 1) (slots' := nc + 3) rfl rfl C S.1 S.2.1 S.2.2 (fun hPb hDb => g_runV (wr := ((a7, .inl (cI, u.2.1, .inl (f7))) :: (a8, .inl (cI, u.2.1, .inl (f8))) :: (a9, .inl (cI, u.2.1, .inl (f9))) :: (a10, .inl (cI, u.2.1, .inl (f10))) :: (a1, .inl (cI, 3, .inl (upd (upd (upd (fun _ => 0) 0 (u.1 8 0)) 1 (u.1 8 1)) 2 (u.1 8 2)))) :: hw_w cI cB h6 u.2.1 r6 g) ++ rs_w cI cR o z u) (n := 0) (As := []) C (mX0_pay l D t cI ob ad H.size ((rf_lk (rf_cp v 8 12 3) v.2.1).2) (by rw [hE.n]; exact hu8)) (rw_V q106 q107 q108 q2 q109) kd_X0_pay ⟨Nat.le_of_ble_eq_true rfl, Nat.le_of_ble_eq_true rfl⟩ (ci := 0) rfl rfl rfl (C.2.2.2.2.2.1.sub (tys' := [(cI, .int)]) [0] rfl) hPb hDb S.2.2 hl.1 rfl rfl (Nat.le_of_ble_eq_true rfl) dL_law_537 ⟨(show kc + 1 + 0 ≤ 728402 by omega), (show nc + 3 + 0 ≤ 6916263 by omega)⟩) (fun v w' H locs hv _ hP9 hD9 hS9 => ?_)
    obtain ⟨rfl, rfl⟩ := hv
    have S : sS D A s cI cR o z u (ra_w cI ob ad ((rf_py ((rf_lk (rf_cp v 8 12 3) v.2.1).2) ((rf_lk (rf_cp v 8 12 3) v.2.1).2).2.1).2.1, (rf_py ((rf_lk (rf_cp v 8 12 3) v.2.1).2) ((rf_lk (rf_cp v 8 12 3) v.2.1).2).2.1).2.2.1, (rf_py ((rf_lk (rf_cp v 8 12 3) v.2.1).2) ((rf_lk (rf_cp v 8 12 3) v.2.1).2).2.1).2.2.2 + 1) ++ ((a7, .inl (cI, u.2.1, .inl (f7))) :: (a8, .inl (cI, u.2.1, .inl (f8))) :: (a9, .inl (cI, u.2.1, .inl (f9))) :: (a10, .inl (cI, u.2.1, .inl (f10))) :: (a1, .inl (cI, 3, .inl (upd (upd (upd (fun _ => 0) 0 (u.1 8 0)) 1 (u.1 8 1)) 2 (u.1 8 2)))) :: hw_w cI cB h6 u.2.1 r6 g)) H locs := ⟨hP9, hD9, hS9⟩
    refine g_top (y := (rf_py u u.2.1).1) (pay_9 hE).2 ?_
    have hE := (pay_9 hE).1
    refine lv_istore (lv' := [(15, .int ((rf_py u u.2.1).1)), (14, .int u.2.2), (13, .int (rf_sm (fun r => ks (rl_L u r) (pu u r) 3 / 4) u.2.1)), (12, .ref a1), (0, .ref (t 9)), (1, .ref ob), (2, .ref o), (3, .int (nI ti)), (5, .int (nI u.2.1)), (6, .ref h6), (7, .ref a7), (8, .ref a8), (9, .ref a9), (10, .ref a10)]) hx hb dL_law_540 hl (by decide) rfl (fun ls hl => ?_)
    refine lv_aload_n hx hb dL_law_542 rfl (lv_at hl 6 rfl) ?_
    refine m_ci (wa := []) (wb := rs_w cI cR o z u) (wd := ra_w cI ob ad ((rf_py ((rf_lk (rf_cp v 8 12 3) v.2.1).2) ((rf_lk (rf_cp v 8 12 3) v.2.1).2).2.1).2.1, (rf_py ((rf_lk (rf_cp v 8 12 3) v.2.1).2) ((rf_lk (rf_cp v 8 12 3) v.2.1).2).2.1).2.2.1, (rf_py ((rf_lk (rf_cp v 8 12 3) v.2.1).2) ((rf_lk (rf_cp v 8 12 3) v.2.1).2).2.1).2.2.2 + 1) ++ ((a7, .inl (cI, u.2.1, .inl (f7))) :: (a8, .inl (cI, u.2.1, .inl (f8))) :: (a9, .inl (cI, u.2.1, .inl (f9))) :: (a10, .inl (cI, u.2.1, .inl (f10))) :: (a1, .inl (cI, 3, .inl (upd (upd (upd (fun _ => 0) 0 (u.1 8 0)) 1 (u.1 8 1)) 2 (u.1 8 2)))) :: hw_w cI cB h6 u.2.1 r6 g)) (cells' := kc + 1 + 17) (slots' := nc + 3 + 56) rfl rfl C S.1 S.2.1 S.2.2 (fun hPb hDb => g_runVj (n := 0) (As := []) C (mX2_pay l D t cI cR cB o z H.size u T B hT1) (rw_V q155 q156 q157 q29 q158) kd_X2_pay ⟨Nat.le_of_ble_eq_true rfl, Nat.le_of_ble_eq_true rfl⟩ (ci := 2) rfl rfl 0 rfl C.2.2.2.2.2.1 hPb hDb S.2.2 hl.1 rfl rfl (Nat.le_of_ble_eq_true rfl) dL_law_543 ⟨(show kc + 1 + 17 ≤ 728402 by omega), (show nc + 3 + 56 ≤ 6916263 by omega)⟩) (fun v9 w' H locs hv _ hP9 hD9 hS9 => ?_)
    obtain ⟨rfl, hq9, r9, g9, -, rfl⟩ := hv
    have S : sS D A s cI cR o (z.1, z.2.1, some hq9) (rf_pay u) (ra_w cI ob ad ((rf_py ((rf_lk (rf_cp v 8 12 3) v.2.1).2) ((rf_lk (rf_cp v 8 12 3) v.2.1).2).2.1).2.1, (rf_py ((rf_lk (rf_cp v 8 12 3) v.2.1).2) ((rf_lk (rf_cp v 8 12 3) v.2.1).2).2.1).2.2.1, (rf_py ((rf_lk (rf_cp v 8 12 3) v.2.1).2) ((rf_lk (rf_cp v 8 12 3) v.2.1).2).2.1).2.2.2 + 1) ++ ((a7, .inl (cI, u.2.1, .inl (f7))) :: (a8, .inl (cI, u.2.1, .inl (f8))) :: (a9, .inl (cI, u.2.1, .inl (f9))) :: (a10, .inl (cI, u.2.1, .inl (f10))) :: (a1, .inl (cI, 3, .inl (upd (upd (upd (fun _ => 0) 0 (u.1 8 0)) 1 (u.1 8 1)) 2 (u.1 8 2)))) :: hw_w cI cB h6 u.2.1 r6 g)) H locs := by
      have S9 : sS D A s cI cR o (z.1, z.2.1, some hq9) (rf_pay u) (hw_w cI cB hq9 u.2.1 r9 g9 ++ (ra_w cI ob ad ((rf_py ((rf_lk (rf_cp v 8 12 3) v.2.1).2) ((rf_lk (rf_cp v 8 12 3) v.2.1).2).2.1).2.1, (rf_py ((rf_lk (rf_cp v 8 12 3) v.2.1).2) ((rf_lk (rf_cp v 8 12 3) v.2.1).2).2.1).2.2.1, (rf_py ((rf_lk (rf_cp v 8 12 3) v.2.1).2) ((rf_lk (rf_cp v 8 12 3) v.2.1).2).2.1).2.2.2 + 1) ++ ((a7, .inl (cI, u.2.1, .inl (f7))) :: (a8, .inl (cI, u.2.1, .inl (f8))) :: (a9, .inl (cI, u.2.1, .inl (f9))) :: (a10, .inl (cI, u.2.1, .inl (f10))) :: (a1, .inl (cI, 3, .inl (upd (upd (upd (fun _ => 0) 0 (u.1 8 0)) 1 (u.1 8 1)) 2 (u.1 8 2)))) :: hw_w cI cB h6 u.2.1 r6 g))) H locs := by rw [List.append_assoc] at hP9 hD9; exact ⟨hP9, hD9, hS9⟩
      exact S9.swap.drop
    generalize (z.1, z.2.1, some hq9) = z at S
    refine lv_iload hx hb dL_law_546 (lv_at hl 0 rfl) ?_
    refine lv_icmp_ne (tgt := 563) hx hb dL_law_548 (by decide) (fun c2 => absurd rfl c2) (fun c2 => ?_)
    refine lv_aload_n hx hb dL_law_551 rfl (lv_at hl 5 rfl) ?_
    refine lv_iconst (v := 0) hx hb dL_law_552 (by decide) ?_
    refine m_ci (wa := rs_w cI cR o z (rf_pay u)) (wb := ra_w cI ob ad ((rf_py ((rf_lk (rf_cp v 8 12 3) v.2.1).2) ((rf_lk (rf_cp v 8 12 3) v.2.1).2).2.1).2.1, (rf_py ((rf_lk (rf_cp v 8 12 3) v.2.1).2) ((rf_lk (rf_cp v 8 12 3) v.2.1).2).2.1).2.2.1, (rf_py ((rf_lk (rf_cp v 8 12 3) v.2.1).2) ((rf_lk (rf_cp v 8 12 3) v.2.1).2).2.1).2.2.2 + 1)) (wd := ((a7, .inl (cI, u.2.1, .inl (f7))) :: (a8, .inl (cI, u.2.1, .inl (f8))) :: (a9, .inl (cI, u.2.1, .inl (f9))) :: (a10, .inl (cI, u.2.1, .inl (f10))) :: (a1, .inl (cI, 3, .inl (upd (upd (upd (fun _ => 0) 0 (u.1 8 0)) 1 (u.1 8 1)) 2 (u.1 8 2)))) :: hw_w cI cB h6 u.2.1 r6 g)) (cells' := kc + 1 + 17) (slots' := nc + 3 + 56) rfl rfl C S.1 S.2.1 S.2.2 (fun hPb hDb => g_runV (wr := ((a7, .inl (cI, u.2.1, .inl (f7))) :: (a8, .inl (cI, u.2.1, .inl (f8))) :: (a9, .inl (cI, u.2.1, .inl (f9))) :: (a10, .inl (cI, u.2.1, .inl (f10))) :: (a1, .inl (cI, 3, .inl (upd (upd (upd (fun _ => 0) 0 (u.1 8 0)) 1 (u.1 8 1)) 2 (u.1 8 2)))) :: hw_w cI cB h6 u.2.1 r6 g) ++ rs_w cI cR o z (rf_pay u)) (n := 1) (As := [.int 0]) C (mX0_count l D t cI ob ad H.size ((rf_py ((rf_lk (rf_cp v 8 12 3) v.2.1).2) ((rf_lk (rf_cp v 8 12 3) v.2.1).2).2.1).2.1, (rf_py ((rf_lk (rf_cp v 8 12 3) v.2.1).2) ((rf_lk (rf_cp v 8 12 3) v.2.1).2).2.1).2.2.1, (rf_py ((rf_lk (rf_cp v 8 12 3) v.2.1).2) ((rf_lk (rf_cp v 8 12 3) v.2.1).2).2.1).2.2.2 + 1) (by rw [hE.n]; exact hu8) 0 (by decide)) (rw_V q192 q193 q194 q2 q195) kd_X0_count ⟨Nat.le_of_ble_eq_true rfl, Nat.le_of_ble_eq_true rfl⟩ (ci := 0) rfl rfl rfl (C.2.2.2.2.2.1.sub (tys' := [(cI, .int)]) [0] rfl) hPb hDb S.2.2 hl.1 rfl rfl (Nat.le_of_ble_eq_true rfl) dL_law_553 ⟨(show kc + 1 + 17 + 0 ≤ 728402 by omega), (show nc + 3 + 56 + 0 ≤ 6916263 by omega)⟩) (fun v w' H locs hv _ hP9 hD9 hS9 => ?_)
    obtain ⟨rfl, rfl⟩ := hv
    have S : sS D A s cI cR o z (rf_pay u) (ra_w cI ob ad ((rf_py ((rf_lk (rf_cp v 8 12 3) v.2.1).2) ((rf_lk (rf_cp v 8 12 3) v.2.1).2).2.1).2.1, (rf_py ((rf_lk (rf_cp v 8 12 3) v.2.1).2) ((rf_lk (rf_cp v 8 12 3) v.2.1).2).2.1).2.2.1, (rf_py ((rf_lk (rf_cp v 8 12 3) v.2.1).2) ((rf_lk (rf_cp v 8 12 3) v.2.1).2).2.1).2.2.2 + 1) ++ ((a7, .inl (cI, u.2.1, .inl (f7))) :: (a8, .inl (cI, u.2.1, .inl (f8))) :: (a9, .inl (cI, u.2.1, .inl (f9))) :: (a10, .inl (cI, u.2.1, .inl (f10))) :: (a1, .inl (cI, 3, .inl (upd (upd (upd (fun _ => 0) 0 (u.1 8 0)) 1 (u.1 8 1)) 2 (u.1 8 2)))) :: hw_w cI cB h6 u.2.1 r6 g)) H locs := ⟨hP9, hD9, hS9⟩
    refine g_top (y := (rf_pay u).2.2) (e9_c0 hE) ?_
    refine lv_iload hx hb dL_law_556 (lv_at hl 1 rfl) ?_
    refine lv_iconst (v := 1) hx hb dL_law_558 (by decide) ?_
    refine lv_iadd hx hb dL_law_559 ?_
    refine lv_icmp_eq (tgt := 565) hx hb dL_law_560 (by decide) (fun c3 => ?_) (fun c3 => absurd (rfl) c3)
    refine lv_iconst (v := 3) hx hb dL_law_565 (by decide) ?_
    refine x_new C S (N := 3) rfl (by omega) q4 (cells' := kc + 1 + 17 + 1) (slots' := nc + 3 + 56 + 3) rfl rfl (show kc + 1 + 17 + 1 ≤ 728402 by omega) (show nc + 3 + 56 + 3 ≤ 6916263 by omega) dL_law_566 (fun a4 H S => ?_)
    have S : sS D A s cI cR o z (rf_pay u) (ra_w cI ob ad ((rf_py ((rf_lk (rf_cp v 8 12 3) v.2.1).2) ((rf_lk (rf_cp v 8 12 3) v.2.1).2).2.1).2.1, (rf_py ((rf_lk (rf_cp v 8 12 3) v.2.1).2) ((rf_lk (rf_cp v 8 12 3) v.2.1).2).2.1).2.2.1, (rf_py ((rf_lk (rf_cp v 8 12 3) v.2.1).2) ((rf_lk (rf_cp v 8 12 3) v.2.1).2).2.1).2.2.2 + 1) ++ ((a7, .inl (cI, u.2.1, .inl (f7))) :: (a8, .inl (cI, u.2.1, .inl (f8))) :: (a9, .inl (cI, u.2.1, .inl (f9))) :: (a10, .inl (cI, u.2.1, .inl (f10))) :: (a1, .inl (cI, 3, .inl (upd (upd (upd (fun _ => 0) 0 (u.1 8 0)) 1 (u.1 8 1)) 2 (u.1 8 2)))) :: (a4, .inl (cI, 3, .inl (fun _ => 0))) :: hw_w cI cB h6 u.2.1 r6 g)) H locs := S.re (fun q hq => by simp only [List.mem_append, List.mem_cons, List.not_mem_nil, or_false, false_or] at hq ⊢; first | exact hq | grind) (fun a => by simp only [List.map_append, List.map_cons, List.map_nil, List.count_append, List.count_cons, List.count_nil]; omega)
    refine lv_dup hx hb dL_law_568 rfl ?_
    refine lv_iconst (v := 0) hx hb dL_law_569 (by decide) ?_
    refine lv_bipush (v := 120) hx hb dL_law_570 (by decide) ?_
    refine x_st C S 18 (n := 3) (f := (fun _ => 0)) (i := 0) rfl (by omega) (by omega) rfl dL_law_572 (fun H locs S => ?_)
    have S : sS D A s cI cR o z (rf_pay u) (ra_w cI ob ad ((rf_py ((rf_lk (rf_cp v 8 12 3) v.2.1).2) ((rf_lk (rf_cp v 8 12 3) v.2.1).2).2.1).2.1, (rf_py ((rf_lk (rf_cp v 8 12 3) v.2.1).2) ((rf_lk (rf_cp v 8 12 3) v.2.1).2).2.1).2.2.1, (rf_py ((rf_lk (rf_cp v 8 12 3) v.2.1).2) ((rf_lk (rf_cp v 8 12 3) v.2.1).2).2.1).2.2.2 + 1) ++ ((a7, .inl (cI, u.2.1, .inl (f7))) :: (a8, .inl (cI, u.2.1, .inl (f8))) :: (a9, .inl (cI, u.2.1, .inl (f9))) :: (a10, .inl (cI, u.2.1, .inl (f10))) :: (a1, .inl (cI, 3, .inl (upd (upd (upd (fun _ => 0) 0 (u.1 8 0)) 1 (u.1 8 1)) 2 (u.1 8 2)))) :: (a4, .inl (cI, 3, .inl (upd (fun _ => 0) 0 120))) :: hw_w cI cB h6 u.2.1 r6 g)) H locs := S
    refine lv_dup hx hb dL_law_573 rfl ?_
    refine lv_iconst (v := 1) hx hb dL_law_574 (by decide) ?_
    refine lv_bipush (v := 48) hx hb dL_law_575 (by decide) ?_
    refine x_st C S 18 (n := 3) (f := (upd (fun _ => 0) 0 120)) (i := 1) rfl (by omega) (by omega) rfl dL_law_577 (fun H locs S => ?_)
    have S : sS D A s cI cR o z (rf_pay u) (ra_w cI ob ad ((rf_py ((rf_lk (rf_cp v 8 12 3) v.2.1).2) ((rf_lk (rf_cp v 8 12 3) v.2.1).2).2.1).2.1, (rf_py ((rf_lk (rf_cp v 8 12 3) v.2.1).2) ((rf_lk (rf_cp v 8 12 3) v.2.1).2).2.1).2.2.1, (rf_py ((rf_lk (rf_cp v 8 12 3) v.2.1).2) ((rf_lk (rf_cp v 8 12 3) v.2.1).2).2.1).2.2.2 + 1) ++ ((a7, .inl (cI, u.2.1, .inl (f7))) :: (a8, .inl (cI, u.2.1, .inl (f8))) :: (a9, .inl (cI, u.2.1, .inl (f9))) :: (a10, .inl (cI, u.2.1, .inl (f10))) :: (a1, .inl (cI, 3, .inl (upd (upd (upd (fun _ => 0) 0 (u.1 8 0)) 1 (u.1 8 1)) 2 (u.1 8 2)))) :: (a4, .inl (cI, 3, .inl (upd (upd (fun _ => 0) 0 120) 1 48))) :: hw_w cI cB h6 u.2.1 r6 g)) H locs := S
    refine lv_dup hx hb dL_law_578 rfl ?_
    refine lv_iconst (v := 2) hx hb dL_law_579 (by decide) ?_
    refine lv_iconst (v := 4) hx hb dL_law_580 (by decide) ?_
    refine x_st C S 18 (n := 3) (f := (upd (upd (fun _ => 0) 0 120) 1 48)) (i := 2) rfl (by omega) (by omega) rfl dL_law_581 (fun H locs S => ?_)
    have S : sS D A s cI cR o z (rf_pay u) (ra_w cI ob ad ((rf_py ((rf_lk (rf_cp v 8 12 3) v.2.1).2) ((rf_lk (rf_cp v 8 12 3) v.2.1).2).2.1).2.1, (rf_py ((rf_lk (rf_cp v 8 12 3) v.2.1).2) ((rf_lk (rf_cp v 8 12 3) v.2.1).2).2.1).2.2.1, (rf_py ((rf_lk (rf_cp v 8 12 3) v.2.1).2) ((rf_lk (rf_cp v 8 12 3) v.2.1).2).2.1).2.2.2 + 1) ++ ((a7, .inl (cI, u.2.1, .inl (f7))) :: (a8, .inl (cI, u.2.1, .inl (f8))) :: (a9, .inl (cI, u.2.1, .inl (f9))) :: (a10, .inl (cI, u.2.1, .inl (f10))) :: (a1, .inl (cI, 3, .inl (upd (upd (upd (fun _ => 0) 0 (u.1 8 0)) 1 (u.1 8 1)) 2 (u.1 8 2)))) :: (a4, .inl (cI, 3, .inl (upd (upd (upd (fun _ => 0) 0 120) 1 48) 2 4))) :: hw_w cI cB h6 u.2.1 r6 g)) H locs := S
    refine lv_astore (lv' := [(16, .ref a4), (15, .int ((rf_py u u.2.1).1)), (14, .int u.2.2), (13, .int (rf_sm (fun r => ks (rl_L u r) (pu u r) 3 / 4) u.2.1)), (12, .ref a1), (0, .ref (t 9)), (1, .ref ob), (2, .ref o), (3, .int (nI ti)), (5, .int (nI u.2.1)), (6, .ref h6), (7, .ref a7), (8, .ref a8), (9, .ref a9), (10, .ref a10)]) hx hb dL_law_582 hl (by decide) rfl (fun ls hl => ?_)
    refine lv_iconst (v := 0) hx hb dL_law_584 (by decide) ?_
    refine lv_istore (lv' := [(17, .int 0), (16, .ref a4), (15, .int ((rf_py u u.2.1).1)), (14, .int u.2.2), (13, .int (rf_sm (fun r => ks (rl_L u r) (pu u r) 3 / 4) u.2.1)), (12, .ref a1), (0, .ref (t 9)), (1, .ref ob), (2, .ref o), (3, .int (nI ti)), (5, .int (nI u.2.1)), (6, .ref h6), (7, .ref a7), (8, .ref a8), (9, .ref a9), (10, .ref a10)]) hx hb dL_law_585 hl (by decide) rfl (fun ls hl => ?_)
    refine lv_iconst (v := 0) hx hb dL_law_587 (by decide) ?_
    refine lv_istore (lv' := [(18, .int 0), (17, .int 0), (16, .ref a4), (15, .int ((rf_py u u.2.1).1)), (14, .int u.2.2), (13, .int (rf_sm (fun r => ks (rl_L u r) (pu u r) 3 / 4) u.2.1)), (12, .ref a1), (0, .ref (t 9)), (1, .ref ob), (2, .ref o), (3, .int (nI ti)), (5, .int (nI u.2.1)), (6, .ref h6), (7, .ref a7), (8, .ref a8), (9, .ref a9), (10, .ref a10)]) hx hb dL_law_588 hl (by decide) rfl (fun ls hl => ?_)
    refine lv_iconst (v := 0) hx hb dL_law_590 (by decide) ?_
    refine lv_istore (lv' := [(19, .int 0), (18, .int 0), (17, .int 0), (16, .ref a4), (15, .int ((rf_py u u.2.1).1)), (14, .int u.2.2), (13, .int (rf_sm (fun r => ks (rl_L u r) (pu u r) 3 / 4) u.2.1)), (12, .ref a1), (0, .ref (t 9)), (1, .ref ob), (2, .ref o), (3, .int (nI ti)), (5, .int (nI u.2.1)), (6, .ref h6), (7, .ref a7), (8, .ref a8), (9, .ref a9), (10, .ref a10)]) hx hb dL_law_591 hl (by decide) rfl (fun ls hl => ?_)
    refine lv_iconst (v := 0) hx hb dL_law_593 (by decide) ?_
    refine lv_istore (lv' := [(20, .int 0), (19, .int 0), (18, .int 0), (17, .int 0), (16, .ref a4), (15, .int ((rf_py u u.2.1).1)), (14, .int u.2.2), (13, .int (rf_sm (fun r => ks (rl_L u r) (pu u r) 3 / 4) u.2.1)), (12, .ref a1), (0, .ref (t 9)), (1, .ref ob), (2, .ref o), (3, .int (nI ti)), (5, .int (nI u.2.1)), (6, .ref h6), (7, .ref a7), (8, .ref a8), (9, .ref a9), (10, .ref a10)]) hx hb dL_law_594 hl (by decide) rfl (fun ls hl => ?_)
    have hw9 : ∀ c : Nat, c < 3 → (upd (upd (upd (fun _ => 0) 0 120) 1 48) 2 4) c = rt_RX0_COIN_WORTH c := fun c hc => by rcases (show c = 0 ∨ c = 1 ∨ c = 2 by omega) with rfl | rfl | rfl <;> rfl
    have h12 : ∀ c : Nat, c < 3 → (upd (upd (upd (fun _ => 0) 0 (u.1 8 0)) 1 (u.1 8 1)) 2 (u.1 8 2)) c = pu u 0 c := fun c hc => by rcases (show c = 0 ∨ c = 1 ∨ c = 2 by omega) with rfl | rfl | rfl <;> rfl
    refine lpL_r2 (kc := kc + 1 + 17 + 1) (nc := nc + 3 + 56 + 3) C B hT1 hE h7 h8 h9 h10 hg hw9 (by omega) (by omega) (fun f12 H locs ls h12 S hl => ?_) u.2.1 0 (by omega) _ _ _ _ h12 S (lv_sub hl [9, 10, 11, 12, 13, 14, 15, 16, 17, 18, 8, 7, 5, 4, 3, 2, 1, 0] rfl)
    refine lv_iconst (v := 0) hx hb dL_law_882 (by decide) ?_
    refine lv_istore (lv' := [(20, .int 0), (0, .ref (t 9)), (1, .ref ob), (2, .ref o), (3, .int (nI ti)), (5, .int (nI u.2.1)), (6, .ref h6), (7, .ref a7), (8, .ref a8), (9, .ref a9), (10, .ref a10), (12, .ref a1), (13, .int (rf_sm (fun r => ks (rl_L u r) (pu u r) 3 / 4) u.2.1)), (15, .int ((rf_py u u.2.1).1)), (16, .ref a4), (17, .int (rf_sm (its u) u.2.1)), (18, .int (rf_sm ((rf_pay u).1 5) u.2.1)), (19, .int (rf_sm (fun r => ks (rl_L u r) (pu u r) 3 / 4) u.2.1))]) hx hb dL_law_883 hl (by decide) rfl (fun ls hl => ?_)
    refine lv_iload hx hb dL_law_885 (lv_at hl 0 rfl) ?_
    refine lv_iconst (v := 3) hx hb dL_law_887 (by decide) ?_
    refine lv_icmp_ge (tgt := 921) hx hb dL_law_888 (by decide) (fun c5 => absurd c5 (by decide)) (fun c5 => ?_)
    refine lv_aload_n hx hb dL_law_891 rfl (lv_at hl 2 rfl) ?_
    refine lv_iload hx hb dL_law_892 (lv_at hl 0 rfl) ?_
    refine m_ci (wa := rs_w cI cR o z (rf_pay u)) (wb := ra_w cI ob ad ((rf_py ((rf_lk (rf_cp v 8 12 3) v.2.1).2) ((rf_lk (rf_cp v 8 12 3) v.2.1).2).2.1).2.1, (rf_py ((rf_lk (rf_cp v 8 12 3) v.2.1).2) ((rf_lk (rf_cp v 8 12 3) v.2.1).2).2.1).2.2.1, (rf_py ((rf_lk (rf_cp v 8 12 3) v.2.1).2) ((rf_lk (rf_cp v 8 12 3) v.2.1).2).2.1).2.2.2 + 1)) (wd := ((a7, .inl (cI, u.2.1, .inl (f7))) :: (a8, .inl (cI, u.2.1, .inl (f8))) :: (a9, .inl (cI, u.2.1, .inl (f9))) :: (a10, .inl (cI, u.2.1, .inl (f10))) :: (a1, .inl (cI, 3, .inl (f12))) :: (a4, .inl (cI, 3, .inl (upd (upd (upd (fun _ => 0) 0 120) 1 48) 2 4))) :: hw_w cI cB h6 u.2.1 r6 g)) (cells' := kc + 1 + 17 + 1) (slots' := nc + 3 + 56 + 3) rfl rfl C S.1 S.2.1 S.2.2 (fun hPb hDb => g_runV (wr := ((a7, .inl (cI, u.2.1, .inl (f7))) :: (a8, .inl (cI, u.2.1, .inl (f8))) :: (a9, .inl (cI, u.2.1, .inl (f9))) :: (a10, .inl (cI, u.2.1, .inl (f10))) :: (a1, .inl (cI, 3, .inl (f12))) :: (a4, .inl (cI, 3, .inl (upd (upd (upd (fun _ => 0) 0 120) 1 48) 2 4))) :: hw_w cI cB h6 u.2.1 r6 g) ++ rs_w cI cR o z (rf_pay u)) (n := 1) (As := [.int 0]) C (mX0_chest l D t cI ob ad H.size ((rf_py ((rf_lk (rf_cp v 8 12 3) v.2.1).2) ((rf_lk (rf_cp v 8 12 3) v.2.1).2).2.1).2.1, (rf_py ((rf_lk (rf_cp v 8 12 3) v.2.1).2) ((rf_lk (rf_cp v 8 12 3) v.2.1).2).2.1).2.2.1, (rf_py ((rf_lk (rf_cp v 8 12 3) v.2.1).2) ((rf_lk (rf_cp v 8 12 3) v.2.1).2).2.1).2.2.2 + 1) 0 (by decide)) (rw_V q231 q232 q233 q2 q234) kd_X0_chest ⟨Nat.le_of_ble_eq_true rfl, Nat.le_of_ble_eq_true rfl⟩ (ci := 0) rfl rfl rfl (C.2.2.2.2.2.1.sub (tys' := [(cI, .int)]) [0] rfl) hPb hDb S.2.2 hl.1 rfl rfl (Nat.le_of_ble_eq_true rfl) dL_law_894 ⟨(show kc + 1 + 17 + 1 + 0 ≤ 728402 by omega), (show nc + 3 + 56 + 3 + 0 ≤ 6916263 by omega)⟩) (fun v w' H locs hv _ hP9 hD9 hS9 => ?_)
    obtain ⟨rfl, rfl⟩ := hv
    have S : sS D A s cI cR o z (rf_pay u) (ra_w cI ob ad ((rf_py ((rf_lk (rf_cp v 8 12 3) v.2.1).2) ((rf_lk (rf_cp v 8 12 3) v.2.1).2).2.1).2.1, (rf_py ((rf_lk (rf_cp v 8 12 3) v.2.1).2) ((rf_lk (rf_cp v 8 12 3) v.2.1).2).2.1).2.2.1, (rf_py ((rf_lk (rf_cp v 8 12 3) v.2.1).2) ((rf_lk (rf_cp v 8 12 3) v.2.1).2).2.1).2.2.2 + 1) ++ ((a7, .inl (cI, u.2.1, .inl (f7))) :: (a8, .inl (cI, u.2.1, .inl (f8))) :: (a9, .inl (cI, u.2.1, .inl (f9))) :: (a10, .inl (cI, u.2.1, .inl (f10))) :: (a1, .inl (cI, 3, .inl (f12))) :: (a4, .inl (cI, 3, .inl (upd (upd (upd (fun _ => 0) 0 120) 1 48) 2 4))) :: hw_w cI cB h6 u.2.1 r6 g)) H locs := ⟨hP9, hD9, hS9⟩
    refine g_top (y := (rf_pay u).1 8 0) (congrFun (hE.2 8 (by decide)) 0) ?_
    refine lv_aload hx hb dL_law_897 (lv_at hl 11 rfl) ?_
    refine lv_iload hx hb dL_law_899 (lv_at hl 0 rfl) ?_
    refine x_ld C S 17 (n := 3) (f := f12) (i := 0) rfl (by omega) (by omega) rfl dL_law_901 ?_
    refine g_top (y := pu u u.2.1 0) (h12 0 (by decide)) ?_
    refine lv_icmp_ne (tgt := 913) hx hb dL_law_902 (by decide) (fun c6 => absurd rfl c6) (fun c6 => ?_)
    refine lv_aload hx hb dL_law_905 (lv_at hl 11 rfl) ?_
    refine lv_iload hx hb dL_law_907 (lv_at hl 0 rfl) ?_
    refine x_ld C S 17 (n := 3) (f := f12) (i := 0) rfl (by omega) (by omega) rfl dL_law_909 ?_
    refine g_top (y := pu u u.2.1 0) (h12 0 (by decide)) ?_
    refine lv_if_ge (tgt := 915) hx hb dL_law_910 (by decide) (fun c7 => ?_) (fun c7 => absurd (Int32.not_lt.mp (pa_8n B hT1 (c := 0) (by decide))) c7)
    refine lv_iinc (v := nI 1) (lv' := [(20, .int (nI 1)), (0, .ref (t 9)), (1, .ref ob), (2, .ref o), (3, .int (nI ti)), (5, .int (nI u.2.1)), (6, .ref h6), (7, .ref a7), (8, .ref a8), (9, .ref a9), (10, .ref a10), (12, .ref a1), (13, .int (rf_sm (fun r => ks (rl_L u r) (pu u r) 3 / 4) u.2.1)), (15, .int ((rf_py u u.2.1).1)), (16, .ref a4), (17, .int (rf_sm (its u) u.2.1)), (18, .int (rf_sm ((rf_pay u).1 5) u.2.1)), (19, .int (rf_sm (fun r => ks (rl_L u r) (pu u r) 3 / 4) u.2.1))]) hx hb dL_law_915 hl (k := 0) rfl (nI_1 _) (by decide) rfl (fun ls hl => ?_)
    refine lv_goto (tgt := 885) hx hb dL_law_918 (by decide) ?_
    refine lv_iload hx hb dL_law_885 (lv_at hl 0 rfl) ?_
    refine lv_iconst (v := 3) hx hb dL_law_887 (by decide) ?_
    refine lv_icmp_ge (tgt := 921) hx hb dL_law_888 (by decide) (fun c8 => absurd c8 (by decide)) (fun c8 => ?_)
    refine lv_aload_n hx hb dL_law_891 rfl (lv_at hl 2 rfl) ?_
    refine lv_iload hx hb dL_law_892 (lv_at hl 0 rfl) ?_
    refine m_ci (wa := rs_w cI cR o z (rf_pay u)) (wb := ra_w cI ob ad ((rf_py ((rf_lk (rf_cp v 8 12 3) v.2.1).2) ((rf_lk (rf_cp v 8 12 3) v.2.1).2).2.1).2.1, (rf_py ((rf_lk (rf_cp v 8 12 3) v.2.1).2) ((rf_lk (rf_cp v 8 12 3) v.2.1).2).2.1).2.2.1, (rf_py ((rf_lk (rf_cp v 8 12 3) v.2.1).2) ((rf_lk (rf_cp v 8 12 3) v.2.1).2).2.1).2.2.2 + 1)) (wd := ((a7, .inl (cI, u.2.1, .inl (f7))) :: (a8, .inl (cI, u.2.1, .inl (f8))) :: (a9, .inl (cI, u.2.1, .inl (f9))) :: (a10, .inl (cI, u.2.1, .inl (f10))) :: (a1, .inl (cI, 3, .inl (f12))) :: (a4, .inl (cI, 3, .inl (upd (upd (upd (fun _ => 0) 0 120) 1 48) 2 4))) :: hw_w cI cB h6 u.2.1 r6 g)) (cells' := kc + 1 + 17 + 1) (slots' := nc + 3 + 56 + 3) rfl rfl C S.1 S.2.1 S.2.2 (fun hPb hDb => g_runV (wr := ((a7, .inl (cI, u.2.1, .inl (f7))) :: (a8, .inl (cI, u.2.1, .inl (f8))) :: (a9, .inl (cI, u.2.1, .inl (f9))) :: (a10, .inl (cI, u.2.1, .inl (f10))) :: (a1, .inl (cI, 3, .inl (f12))) :: (a4, .inl (cI, 3, .inl (upd (upd (upd (fun _ => 0) 0 120) 1 48) 2 4))) :: hw_w cI cB h6 u.2.1 r6 g) ++ rs_w cI cR o z (rf_pay u)) (n := 1) (As := [.int (nI 1)]) C (mX0_chest l D t cI ob ad H.size ((rf_py ((rf_lk (rf_cp v 8 12 3) v.2.1).2) ((rf_lk (rf_cp v 8 12 3) v.2.1).2).2.1).2.1, (rf_py ((rf_lk (rf_cp v 8 12 3) v.2.1).2) ((rf_lk (rf_cp v 8 12 3) v.2.1).2).2.1).2.2.1, (rf_py ((rf_lk (rf_cp v 8 12 3) v.2.1).2) ((rf_lk (rf_cp v 8 12 3) v.2.1).2).2.1).2.2.2 + 1) 1 (by decide)) (rw_V q231 q232 q233 q2 q234) kd_X0_chest ⟨Nat.le_of_ble_eq_true rfl, Nat.le_of_ble_eq_true rfl⟩ (ci := 0) rfl rfl rfl (C.2.2.2.2.2.1.sub (tys' := [(cI, .int)]) [0] rfl) hPb hDb S.2.2 hl.1 rfl rfl (Nat.le_of_ble_eq_true rfl) dL_law_894 ⟨(show kc + 1 + 17 + 1 + 0 ≤ 728402 by omega), (show nc + 3 + 56 + 3 + 0 ≤ 6916263 by omega)⟩) (fun v w' H locs hv _ hP9 hD9 hS9 => ?_)
    obtain ⟨rfl, rfl⟩ := hv
    have S : sS D A s cI cR o z (rf_pay u) (ra_w cI ob ad ((rf_py ((rf_lk (rf_cp v 8 12 3) v.2.1).2) ((rf_lk (rf_cp v 8 12 3) v.2.1).2).2.1).2.1, (rf_py ((rf_lk (rf_cp v 8 12 3) v.2.1).2) ((rf_lk (rf_cp v 8 12 3) v.2.1).2).2.1).2.2.1, (rf_py ((rf_lk (rf_cp v 8 12 3) v.2.1).2) ((rf_lk (rf_cp v 8 12 3) v.2.1).2).2.1).2.2.2 + 1) ++ ((a7, .inl (cI, u.2.1, .inl (f7))) :: (a8, .inl (cI, u.2.1, .inl (f8))) :: (a9, .inl (cI, u.2.1, .inl (f9))) :: (a10, .inl (cI, u.2.1, .inl (f10))) :: (a1, .inl (cI, 3, .inl (f12))) :: (a4, .inl (cI, 3, .inl (upd (upd (upd (fun _ => 0) 0 120) 1 48) 2 4))) :: hw_w cI cB h6 u.2.1 r6 g)) H locs := ⟨hP9, hD9, hS9⟩
    refine g_top (y := (rf_pay u).1 8 1) (congrFun (hE.2 8 (by decide)) 1) ?_
    refine lv_aload hx hb dL_law_897 (lv_at hl 11 rfl) ?_
    refine lv_iload hx hb dL_law_899 (lv_at hl 0 rfl) ?_
    refine x_ld C S 17 (n := 3) (f := f12) (i := 1) rfl (by omega) (by omega) rfl dL_law_901 ?_
    refine g_top (y := pu u u.2.1 1) (h12 1 (by decide)) ?_
    refine lv_icmp_ne (tgt := 913) hx hb dL_law_902 (by decide) (fun c9 => absurd rfl c9) (fun c9 => ?_)
    refine lv_aload hx hb dL_law_905 (lv_at hl 11 rfl) ?_
    refine lv_iload hx hb dL_law_907 (lv_at hl 0 rfl) ?_
    refine x_ld C S 17 (n := 3) (f := f12) (i := 1) rfl (by omega) (by omega) rfl dL_law_909 ?_
    refine g_top (y := pu u u.2.1 1) (h12 1 (by decide)) ?_
    refine lv_if_ge (tgt := 915) hx hb dL_law_910 (by decide) (fun c10 => ?_) (fun c10 => absurd (Int32.not_lt.mp (pa_8n B hT1 (c := 1) (by decide))) c10)
    refine lv_iinc (v := nI 2) (lv' := [(20, .int (nI 2)), (0, .ref (t 9)), (1, .ref ob), (2, .ref o), (3, .int (nI ti)), (5, .int (nI u.2.1)), (6, .ref h6), (7, .ref a7), (8, .ref a8), (9, .ref a9), (10, .ref a10), (12, .ref a1), (13, .int (rf_sm (fun r => ks (rl_L u r) (pu u r) 3 / 4) u.2.1)), (15, .int ((rf_py u u.2.1).1)), (16, .ref a4), (17, .int (rf_sm (its u) u.2.1)), (18, .int (rf_sm ((rf_pay u).1 5) u.2.1)), (19, .int (rf_sm (fun r => ks (rl_L u r) (pu u r) 3 / 4) u.2.1))]) hx hb dL_law_915 hl (k := 0) rfl (nI_1 _) (by decide) rfl (fun ls hl => ?_)
    refine lv_goto (tgt := 885) hx hb dL_law_918 (by decide) ?_
    refine lv_iload hx hb dL_law_885 (lv_at hl 0 rfl) ?_
    refine lv_iconst (v := 3) hx hb dL_law_887 (by decide) ?_
    refine lv_icmp_ge (tgt := 921) hx hb dL_law_888 (by decide) (fun c11 => absurd c11 (by decide)) (fun c11 => ?_)
    refine lv_aload_n hx hb dL_law_891 rfl (lv_at hl 2 rfl) ?_
    refine lv_iload hx hb dL_law_892 (lv_at hl 0 rfl) ?_
    refine m_ci (wa := rs_w cI cR o z (rf_pay u)) (wb := ra_w cI ob ad ((rf_py ((rf_lk (rf_cp v 8 12 3) v.2.1).2) ((rf_lk (rf_cp v 8 12 3) v.2.1).2).2.1).2.1, (rf_py ((rf_lk (rf_cp v 8 12 3) v.2.1).2) ((rf_lk (rf_cp v 8 12 3) v.2.1).2).2.1).2.2.1, (rf_py ((rf_lk (rf_cp v 8 12 3) v.2.1).2) ((rf_lk (rf_cp v 8 12 3) v.2.1).2).2.1).2.2.2 + 1)) (wd := ((a7, .inl (cI, u.2.1, .inl (f7))) :: (a8, .inl (cI, u.2.1, .inl (f8))) :: (a9, .inl (cI, u.2.1, .inl (f9))) :: (a10, .inl (cI, u.2.1, .inl (f10))) :: (a1, .inl (cI, 3, .inl (f12))) :: (a4, .inl (cI, 3, .inl (upd (upd (upd (fun _ => 0) 0 120) 1 48) 2 4))) :: hw_w cI cB h6 u.2.1 r6 g)) (cells' := kc + 1 + 17 + 1) (slots' := nc + 3 + 56 + 3) rfl rfl C S.1 S.2.1 S.2.2 (fun hPb hDb => g_runV (wr := ((a7, .inl (cI, u.2.1, .inl (f7))) :: (a8, .inl (cI, u.2.1, .inl (f8))) :: (a9, .inl (cI, u.2.1, .inl (f9))) :: (a10, .inl (cI, u.2.1, .inl (f10))) :: (a1, .inl (cI, 3, .inl (f12))) :: (a4, .inl (cI, 3, .inl (upd (upd (upd (fun _ => 0) 0 120) 1 48) 2 4))) :: hw_w cI cB h6 u.2.1 r6 g) ++ rs_w cI cR o z (rf_pay u)) (n := 1) (As := [.int (nI 2)]) C (mX0_chest l D t cI ob ad H.size ((rf_py ((rf_lk (rf_cp v 8 12 3) v.2.1).2) ((rf_lk (rf_cp v 8 12 3) v.2.1).2).2.1).2.1, (rf_py ((rf_lk (rf_cp v 8 12 3) v.2.1).2) ((rf_lk (rf_cp v 8 12 3) v.2.1).2).2.1).2.2.1, (rf_py ((rf_lk (rf_cp v 8 12 3) v.2.1).2) ((rf_lk (rf_cp v 8 12 3) v.2.1).2).2.1).2.2.2 + 1) 2 (by decide)) (rw_V q231 q232 q233 q2 q234) kd_X0_chest ⟨Nat.le_of_ble_eq_true rfl, Nat.le_of_ble_eq_true rfl⟩ (ci := 0) rfl rfl rfl (C.2.2.2.2.2.1.sub (tys' := [(cI, .int)]) [0] rfl) hPb hDb S.2.2 hl.1 rfl rfl (Nat.le_of_ble_eq_true rfl) dL_law_894 ⟨(show kc + 1 + 17 + 1 + 0 ≤ 728402 by omega), (show nc + 3 + 56 + 3 + 0 ≤ 6916263 by omega)⟩) (fun v w' H locs hv _ hP9 hD9 hS9 => ?_)
    obtain ⟨rfl, rfl⟩ := hv
    have S : sS D A s cI cR o z (rf_pay u) (ra_w cI ob ad ((rf_py ((rf_lk (rf_cp v 8 12 3) v.2.1).2) ((rf_lk (rf_cp v 8 12 3) v.2.1).2).2.1).2.1, (rf_py ((rf_lk (rf_cp v 8 12 3) v.2.1).2) ((rf_lk (rf_cp v 8 12 3) v.2.1).2).2.1).2.2.1, (rf_py ((rf_lk (rf_cp v 8 12 3) v.2.1).2) ((rf_lk (rf_cp v 8 12 3) v.2.1).2).2.1).2.2.2 + 1) ++ ((a7, .inl (cI, u.2.1, .inl (f7))) :: (a8, .inl (cI, u.2.1, .inl (f8))) :: (a9, .inl (cI, u.2.1, .inl (f9))) :: (a10, .inl (cI, u.2.1, .inl (f10))) :: (a1, .inl (cI, 3, .inl (f12))) :: (a4, .inl (cI, 3, .inl (upd (upd (upd (fun _ => 0) 0 120) 1 48) 2 4))) :: hw_w cI cB h6 u.2.1 r6 g)) H locs := ⟨hP9, hD9, hS9⟩
    refine g_top (y := (rf_pay u).1 8 2) (congrFun (hE.2 8 (by decide)) 2) ?_
    refine lv_aload hx hb dL_law_897 (lv_at hl 11 rfl) ?_
    refine lv_iload hx hb dL_law_899 (lv_at hl 0 rfl) ?_
    refine x_ld C S 17 (n := 3) (f := f12) (i := 2) rfl (by omega) (by omega) rfl dL_law_901 ?_
    refine g_top (y := pu u u.2.1 2) (h12 2 (by decide)) ?_
    refine lv_icmp_ne (tgt := 913) hx hb dL_law_902 (by decide) (fun c12 => absurd rfl c12) (fun c12 => ?_)
    refine lv_aload hx hb dL_law_905 (lv_at hl 11 rfl) ?_
    refine lv_iload hx hb dL_law_907 (lv_at hl 0 rfl) ?_
    refine x_ld C S 17 (n := 3) (f := f12) (i := 2) rfl (by omega) (by omega) rfl dL_law_909 ?_
    refine g_top (y := pu u u.2.1 2) (h12 2 (by decide)) ?_
    refine lv_if_ge (tgt := 915) hx hb dL_law_910 (by decide) (fun c13 => ?_) (fun c13 => absurd (Int32.not_lt.mp (pa_8n B hT1 (c := 2) (by decide))) c13)
    refine lv_iinc (v := nI 3) (lv' := [(20, .int (nI 3)), (0, .ref (t 9)), (1, .ref ob), (2, .ref o), (3, .int (nI ti)), (5, .int (nI u.2.1)), (6, .ref h6), (7, .ref a7), (8, .ref a8), (9, .ref a9), (10, .ref a10), (12, .ref a1), (13, .int (rf_sm (fun r => ks (rl_L u r) (pu u r) 3 / 4) u.2.1)), (15, .int ((rf_py u u.2.1).1)), (16, .ref a4), (17, .int (rf_sm (its u) u.2.1)), (18, .int (rf_sm ((rf_pay u).1 5) u.2.1)), (19, .int (rf_sm (fun r => ks (rl_L u r) (pu u r) 3 / 4) u.2.1))]) hx hb dL_law_915 hl (k := 0) rfl (nI_1 _) (by decide) rfl (fun ls hl => ?_)
    refine lv_goto (tgt := 885) hx hb dL_law_918 (by decide) ?_
    refine lv_iload hx hb dL_law_885 (lv_at hl 0 rfl) ?_
    refine lv_iconst (v := 3) hx hb dL_law_887 (by decide) ?_
    refine lv_icmp_ge (tgt := 921) hx hb dL_law_888 (by decide) (fun c14 => ?_) (fun c14 => absurd (by decide) c14)
    refine lv_iload hx hb dL_law_921 (lv_at hl 15 rfl) ?_
    refine lv_iload hx hb dL_law_923 (lv_at hl 13 rfl) ?_
    refine lv_icmp_ne (tgt := 945) hx hb dL_law_925 (by decide) (fun c15 => absurd (pa_all B _ (Nat.le_refl _)) c15) (fun c15 => ?_)
    refine lv_iload hx hb dL_law_928 (lv_at hl 16 rfl) ?_
    refine lv_aload_n hx hb dL_law_930 rfl (lv_at hl 2 rfl) ?_
    refine lv_iconst (v := 3) hx hb dL_law_931 (by decide) ?_
    refine m_ci (wa := rs_w cI cR o z (rf_pay u)) (wb := ra_w cI ob ad ((rf_py ((rf_lk (rf_cp v 8 12 3) v.2.1).2) ((rf_lk (rf_cp v 8 12 3) v.2.1).2).2.1).2.1, (rf_py ((rf_lk (rf_cp v 8 12 3) v.2.1).2) ((rf_lk (rf_cp v 8 12 3) v.2.1).2).2.1).2.2.1, (rf_py ((rf_lk (rf_cp v 8 12 3) v.2.1).2) ((rf_lk (rf_cp v 8 12 3) v.2.1).2).2.1).2.2.2 + 1)) (wd := ((a7, .inl (cI, u.2.1, .inl (f7))) :: (a8, .inl (cI, u.2.1, .inl (f8))) :: (a9, .inl (cI, u.2.1, .inl (f9))) :: (a10, .inl (cI, u.2.1, .inl (f10))) :: (a1, .inl (cI, 3, .inl (f12))) :: (a4, .inl (cI, 3, .inl (upd (upd (upd (fun _ => 0) 0 120) 1 48) 2 4))) :: hw_w cI cB h6 u.2.1 r6 g)) (cells' := kc + 1 + 17 + 1) (slots' := nc + 3 + 56 + 3) rfl rfl C S.1 S.2.1 S.2.2 (fun hPb hDb => g_runV (wr := ((a7, .inl (cI, u.2.1, .inl (f7))) :: (a8, .inl (cI, u.2.1, .inl (f8))) :: (a9, .inl (cI, u.2.1, .inl (f9))) :: (a10, .inl (cI, u.2.1, .inl (f10))) :: (a1, .inl (cI, 3, .inl (f12))) :: (a4, .inl (cI, 3, .inl (upd (upd (upd (fun _ => 0) 0 120) 1 48) 2 4))) :: hw_w cI cB h6 u.2.1 r6 g) ++ rs_w cI cR o z (rf_pay u)) (n := 1) (As := [.int 3]) C (mX0_count l D t cI ob ad H.size ((rf_py ((rf_lk (rf_cp v 8 12 3) v.2.1).2) ((rf_lk (rf_cp v 8 12 3) v.2.1).2).2.1).2.1, (rf_py ((rf_lk (rf_cp v 8 12 3) v.2.1).2) ((rf_lk (rf_cp v 8 12 3) v.2.1).2).2.1).2.2.1, (rf_py ((rf_lk (rf_cp v 8 12 3) v.2.1).2) ((rf_lk (rf_cp v 8 12 3) v.2.1).2).2.1).2.2.2 + 1) (by rw [hE.n]; exact hu8) 3 (by decide)) (rw_V q192 q193 q194 q2 q195) kd_X0_count ⟨Nat.le_of_ble_eq_true rfl, Nat.le_of_ble_eq_true rfl⟩ (ci := 0) rfl rfl rfl (C.2.2.2.2.2.1.sub (tys' := [(cI, .int)]) [0] rfl) hPb hDb S.2.2 hl.1 rfl rfl (Nat.le_of_ble_eq_true rfl) dL_law_932 ⟨(show kc + 1 + 17 + 1 + 0 ≤ 728402 by omega), (show nc + 3 + 56 + 3 + 0 ≤ 6916263 by omega)⟩) (fun v w' H locs hv _ hP9 hD9 hS9 => ?_)
    obtain ⟨rfl, rfl⟩ := hv
    have S : sS D A s cI cR o z (rf_pay u) (ra_w cI ob ad ((rf_py ((rf_lk (rf_cp v 8 12 3) v.2.1).2) ((rf_lk (rf_cp v 8 12 3) v.2.1).2).2.1).2.1, (rf_py ((rf_lk (rf_cp v 8 12 3) v.2.1).2) ((rf_lk (rf_cp v 8 12 3) v.2.1).2).2.1).2.2.1, (rf_py ((rf_lk (rf_cp v 8 12 3) v.2.1).2) ((rf_lk (rf_cp v 8 12 3) v.2.1).2).2.1).2.2.2 + 1) ++ ((a7, .inl (cI, u.2.1, .inl (f7))) :: (a8, .inl (cI, u.2.1, .inl (f8))) :: (a9, .inl (cI, u.2.1, .inl (f9))) :: (a10, .inl (cI, u.2.1, .inl (f10))) :: (a1, .inl (cI, 3, .inl (f12))) :: (a4, .inl (cI, 3, .inl (upd (upd (upd (fun _ => 0) 0 120) 1 48) 2 4))) :: hw_w cI cB h6 u.2.1 r6 g)) H locs := ⟨hP9, hD9, hS9⟩
    refine g_top (y := rf_sm ((rf_pay u).1 5) (rf_pay u).2.1) (e9_c3 hE) ?_
    refine lv_icmp_ne (tgt := 945) hx hb dL_law_935 (by decide) (fun c16 => absurd rfl c16) (fun c16 => ?_)
    refine lv_iload hx hb dL_law_938 (lv_at hl 17 rfl) ?_
    refine lv_iload hx hb dL_law_940 (lv_at hl 12 rfl) ?_
    refine lv_icmp_eq (tgt := 947) hx hb dL_law_942 (by decide) (fun c17 => ?_) (fun c17 => absurd (rfl) c17)
    refine lv_iinc (v := nI (ti + 1)) (lv' := [(3, .int (nI (ti + 1))), (20, .int (nI 3)), (0, .ref (t 9)), (1, .ref ob), (2, .ref o), (5, .int (nI u.2.1)), (6, .ref h6), (7, .ref a7), (8, .ref a8), (9, .ref a9), (10, .ref a10), (12, .ref a1), (13, .int (rf_sm (fun r => ks (rl_L u r) (pu u r) 3 / 4) u.2.1)), (15, .int ((rf_py u u.2.1).1)), (16, .ref a4), (17, .int (rf_sm (its u) u.2.1)), (18, .int (rf_sm ((rf_pay u).1 5) u.2.1)), (19, .int (rf_sm (fun r => ks (rl_L u r) (pu u r) 3 / 4) u.2.1))]) hx hb dL_law_947 hl (k := 4) rfl (nI_1 _) (by decide) rfl (fun ls hl => ?_)
    refine lv_goto (tgt := 22) hx hb dL_law_950 (by decide) ?_
    refine W.widen (k := kc + 19) (n := nc + 62) (by omega) (by omega) ?_
    exact kk _ _ _ _ _ hE S.drop (lv_sub hl [2, 3, 4, 0] rfl)
  by_cases hn : u.2.1 = 0
  · refine lv_iload hx hb dL_law_458 (lv_at hl 10 rfl) ?_
    refine lv_aload_n hx hb dL_law_460 rfl (lv_at hl 1 rfl) ?_
    refine lv_iconst (v := 5) hx hb dL_law_461 (by decide) ?_
    refine m_ci (wa := rs_w cI cR o z u) (wb := ra_w cI ob ad v) (wd := ((a7, .inl (cI, u.2.1, .inl (f7))) :: (a8, .inl (cI, u.2.1, .inl (f8))) :: (a9, .inl (cI, u.2.1, .inl (f9))) :: (a10, .inl (cI, u.2.1, .inl (f10))) :: hw_w cI cB h6 u.2.1 r6 g)) (cells' := kc) (slots' := nc) rfl rfl C S.1 S.2.1 S.2.2 (fun hPb hDb => g_runV (wr := ((a7, .inl (cI, u.2.1, .inl (f7))) :: (a8, .inl (cI, u.2.1, .inl (f8))) :: (a9, .inl (cI, u.2.1, .inl (f9))) :: (a10, .inl (cI, u.2.1, .inl (f10))) :: hw_w cI cB h6 u.2.1 r6 g) ++ rs_w cI cR o z u) (n := 1) (As := [.int 5]) C (mX0_count l D t cI ob ad H.size v (by rw [hE.n]; exact hu8) 5 (by decide)) (rw_V q192 q193 q194 q2 q195) kd_X0_count ⟨Nat.le_of_ble_eq_true rfl, Nat.le_of_ble_eq_true rfl⟩ (ci := 0) rfl rfl rfl (C.2.2.2.2.2.1.sub (tys' := [(cI, .int)]) [0] rfl) hPb hDb S.2.2 hl.1 rfl rfl (Nat.le_of_ble_eq_true rfl) dL_law_462 ⟨(show kc + 0 ≤ 728402 by omega), (show nc + 0 ≤ 6916263 by omega)⟩) (fun v w' H locs hv _ hP9 hD9 hS9 => ?_)
    obtain ⟨rfl, rfl⟩ := hv
    have S : sS D A s cI cR o z u (ra_w cI ob ad v ++ ((a7, .inl (cI, u.2.1, .inl (f7))) :: (a8, .inl (cI, u.2.1, .inl (f8))) :: (a9, .inl (cI, u.2.1, .inl (f9))) :: (a10, .inl (cI, u.2.1, .inl (f10))) :: hw_w cI cB h6 u.2.1 r6 g)) H locs := ⟨hP9, hD9, hS9⟩
    refine g_top (y := rf_sm (rf_ww u 7) u.2.1) (e9_c5 hE) ?_
    refine lv_icmp_ne (tgt := 492) hx hb dL_law_465 (by decide) (fun c1 => absurd rfl c1) (fun c1 => ?_)
    refine lv_aload_n hx hb dL_law_468 rfl (lv_at hl 1 rfl) ?_
    refine m_cd (wa := rs_w cI cR o z u) (wb := ra_w cI ob ad v) (wd := ((a7, .inl (cI, u.2.1, .inl (f7))) :: (a8, .inl (cI, u.2.1, .inl (f8))) :: (a9, .inl (cI, u.2.1, .inl (f9))) :: (a10, .inl (cI, u.2.1, .inl (f10))) :: hw_w cI cB h6 u.2.1 r6 g)) (cells' := kc) (slots' := nc) rfl rfl C S.1 S.2.1 S.2.2 (fun hPb hDb => g_runV (wr := ((a7, .inl (cI, u.2.1, .inl (f7))) :: (a8, .inl (cI, u.2.1, .inl (f8))) :: (a9, .inl (cI, u.2.1, .inl (f9))) :: (a10, .inl (cI, u.2.1, .inl (f10))) :: hw_w cI cB h6 u.2.1 r6 g) ++ rs_w cI cR o z u) (n := 0) (As := []) C (mX0_mean l D t cI ob ad H.size v (by rw [hE.n]; exact hu8)) (rw_V q227 q228 q229 q2 q230) kd_X0_mean ⟨Nat.le_of_ble_eq_true rfl, Nat.le_of_ble_eq_true rfl⟩ (ci := 0) rfl rfl rfl (C.2.2.2.2.2.1.sub (tys' := [(cI, .int)]) [0] rfl) hPb hDb S.2.2 hl.1 rfl rfl (Nat.le_of_ble_eq_true rfl) dL_law_469 ⟨(show kc + 0 ≤ 728402 by omega), (show nc + 0 ≤ 6916263 by omega)⟩) (fun v w' H locs hv _ hP9 hD9 hS9 => ?_)
    obtain ⟨rfl, rfl⟩ := hv
    have S : sS D A s cI cR o z u (ra_w cI ob ad v ++ ((a7, .inl (cI, u.2.1, .inl (f7))) :: (a8, .inl (cI, u.2.1, .inl (f8))) :: (a9, .inl (cI, u.2.1, .inl (f9))) :: (a10, .inl (cI, u.2.1, .inl (f10))) :: hw_w cI cB h6 u.2.1 r6 g)) H locs := ⟨hP9, hD9, hS9⟩
    refine g_topd (y := rf_mn u) (e9_mn hE) ?_
    refine lv_iload hx hb dL_law_472 (lv_at hl 4 rfl) ?_
    refine lv_if_ne (tgt := 481) hx hb dL_law_474 (by decide) (fun c2 => absurd ((nI_eq (a := u.2.1) (b := 0) (by omega) (by omega)).mpr (by omega)) c2) (fun c2 => ?_)
    refine lv_dconst0 hx hb dL_law_477 ?_
    refine lv_goto (tgt := 488) hx hb dL_law_478 (by decide) ?_
    refine lv_dcmp hx hb dL_law_488 ?_
    refine g_top (y := 0) (is_m0 hn _) ?_
    refine lv_if_eq (tgt := 494) hx hb dL_law_489 (by decide) (fun c3 => ?_) (fun c3 => absurd (by decide) c3)
    exact h494 _ _ _ S (lv_sub hl [0, 1, 2, 3, 4, 5, 6, 7, 8, 9] rfl)
  · refine lv_iload hx hb dL_law_458 (lv_at hl 10 rfl) ?_
    refine lv_aload_n hx hb dL_law_460 rfl (lv_at hl 1 rfl) ?_
    refine lv_iconst (v := 5) hx hb dL_law_461 (by decide) ?_
    refine m_ci (wa := rs_w cI cR o z u) (wb := ra_w cI ob ad v) (wd := ((a7, .inl (cI, u.2.1, .inl (f7))) :: (a8, .inl (cI, u.2.1, .inl (f8))) :: (a9, .inl (cI, u.2.1, .inl (f9))) :: (a10, .inl (cI, u.2.1, .inl (f10))) :: hw_w cI cB h6 u.2.1 r6 g)) (cells' := kc) (slots' := nc) rfl rfl C S.1 S.2.1 S.2.2 (fun hPb hDb => g_runV (wr := ((a7, .inl (cI, u.2.1, .inl (f7))) :: (a8, .inl (cI, u.2.1, .inl (f8))) :: (a9, .inl (cI, u.2.1, .inl (f9))) :: (a10, .inl (cI, u.2.1, .inl (f10))) :: hw_w cI cB h6 u.2.1 r6 g) ++ rs_w cI cR o z u) (n := 1) (As := [.int 5]) C (mX0_count l D t cI ob ad H.size v (by rw [hE.n]; exact hu8) 5 (by decide)) (rw_V q192 q193 q194 q2 q195) kd_X0_count ⟨Nat.le_of_ble_eq_true rfl, Nat.le_of_ble_eq_true rfl⟩ (ci := 0) rfl rfl rfl (C.2.2.2.2.2.1.sub (tys' := [(cI, .int)]) [0] rfl) hPb hDb S.2.2 hl.1 rfl rfl (Nat.le_of_ble_eq_true rfl) dL_law_462 ⟨(show kc + 0 ≤ 728402 by omega), (show nc + 0 ≤ 6916263 by omega)⟩) (fun v w' H locs hv _ hP9 hD9 hS9 => ?_)
    obtain ⟨rfl, rfl⟩ := hv
    have S : sS D A s cI cR o z u (ra_w cI ob ad v ++ ((a7, .inl (cI, u.2.1, .inl (f7))) :: (a8, .inl (cI, u.2.1, .inl (f8))) :: (a9, .inl (cI, u.2.1, .inl (f9))) :: (a10, .inl (cI, u.2.1, .inl (f10))) :: hw_w cI cB h6 u.2.1 r6 g)) H locs := ⟨hP9, hD9, hS9⟩
    refine g_top (y := rf_sm (rf_ww u 7) u.2.1) (e9_c5 hE) ?_
    refine lv_icmp_ne (tgt := 492) hx hb dL_law_465 (by decide) (fun c1 => absurd rfl c1) (fun c1 => ?_)
    refine lv_aload_n hx hb dL_law_468 rfl (lv_at hl 1 rfl) ?_
    refine m_cd (wa := rs_w cI cR o z u) (wb := ra_w cI ob ad v) (wd := ((a7, .inl (cI, u.2.1, .inl (f7))) :: (a8, .inl (cI, u.2.1, .inl (f8))) :: (a9, .inl (cI, u.2.1, .inl (f9))) :: (a10, .inl (cI, u.2.1, .inl (f10))) :: hw_w cI cB h6 u.2.1 r6 g)) (cells' := kc) (slots' := nc) rfl rfl C S.1 S.2.1 S.2.2 (fun hPb hDb => g_runV (wr := ((a7, .inl (cI, u.2.1, .inl (f7))) :: (a8, .inl (cI, u.2.1, .inl (f8))) :: (a9, .inl (cI, u.2.1, .inl (f9))) :: (a10, .inl (cI, u.2.1, .inl (f10))) :: hw_w cI cB h6 u.2.1 r6 g) ++ rs_w cI cR o z u) (n := 0) (As := []) C (mX0_mean l D t cI ob ad H.size v (by rw [hE.n]; exact hu8)) (rw_V q227 q228 q229 q2 q230) kd_X0_mean ⟨Nat.le_of_ble_eq_true rfl, Nat.le_of_ble_eq_true rfl⟩ (ci := 0) rfl rfl rfl (C.2.2.2.2.2.1.sub (tys' := [(cI, .int)]) [0] rfl) hPb hDb S.2.2 hl.1 rfl rfl (Nat.le_of_ble_eq_true rfl) dL_law_469 ⟨(show kc + 0 ≤ 728402 by omega), (show nc + 0 ≤ 6916263 by omega)⟩) (fun v w' H locs hv _ hP9 hD9 hS9 => ?_)
    obtain ⟨rfl, rfl⟩ := hv
    have S : sS D A s cI cR o z u (ra_w cI ob ad v ++ ((a7, .inl (cI, u.2.1, .inl (f7))) :: (a8, .inl (cI, u.2.1, .inl (f8))) :: (a9, .inl (cI, u.2.1, .inl (f9))) :: (a10, .inl (cI, u.2.1, .inl (f10))) :: hw_w cI cB h6 u.2.1 r6 g)) H locs := ⟨hP9, hD9, hS9⟩
    refine g_topd (y := rf_mn u) (e9_mn hE) ?_
    refine lv_iload hx hb dL_law_472 (lv_at hl 4 rfl) ?_
    refine lv_if_ne (tgt := 481) hx hb dL_law_474 (by decide) (fun c2 => ?_) (fun c2 => absurd c2 (fun h9 => absurd ((nI_eq (a := u.2.1) (b := 0) (by omega) (by omega)).mp h9) (by omega)))
    refine lv_iload hx hb dL_law_481 (lv_at hl 10 rfl) ?_
    refine lv_i2d hx hb dL_law_483 ?_
    refine lv_iload hx hb dL_law_484 (lv_at hl 4 rfl) ?_
    refine lv_i2d hx hb dL_law_486 ?_
    refine lv_ddiv hx hb dL_law_487 (mn_nn _ (nI_ne0 (by omega) (by omega))) ?_
    refine lv_dcmp hx hb dL_law_488 ?_
    refine g_top (y := 0) (is_m1 hu8 hn _) ?_
    refine lv_if_eq (tgt := 494) hx hb dL_law_489 (by decide) (fun c3 => ?_) (fun c3 => absurd (by decide) c3)
    exact h494 _ _ _ S (lv_sub hl [0, 1, 2, 3, 4, 5, 6, 7, 8, 9] rfl)

