theorem hr_up {i : Nat} {pa : Nat → Nat} {q : Nat} (h : q = pa i) : va_up (fun k => if k < i then some (pa k) else none) i (some q) = fun k => if k < i + 1 then some (pa k) else none := by
  funext k
  unfold va_up
  by_cases e : k = i
  · subst e
    simp [h]
  · by_cases h : k < i
    · simp [e, h, Nat.lt_succ_of_lt h]
    · simp [e, h, show ¬ k < i + 1 by omega]
theorem hr_up2 {n : Nat} {pa : Nat → Nat} {q : Nat} : va_up (fun k => if k < n then some (pa k) else none) n (some q) = fun k => if k < n + 1 then some ((fun k => if k = n then q else pa k) k) else none := by
  funext k
  unfold va_up
  by_cases e : k = n
  · subst e
    simp
  · by_cases h : k < n
    · simp [e, h, Nat.lt_succ_of_lt h]
    · simp [e, h, show ¬ k < n + 1 by omega]
section HROWS
variable {p : Program} {l : Launch} {e : Env} {R : Room} {s : State} {m : MethodId} {args : Array Value} {below : List Frame} {meth : Method} {c : Code} {H : Heap} {locs : List Loc} {cells slots : Nat} {Q : State → Prop}
variable {cc : ByteArray} {nL pc : Nat} {ls : Array Slot} {rest : List Value} {D : va_G} {cI cR cB : ClassId} {t : Nat → Nat} {A : Nat → Prop} {o ob : Nat} {ad : Nat → Nat} {z : SA} {u : S0} {X : va_W} {own : String}
theorem x_aldv (C : gC p s m args meth c cc nL own D (ty3 cI cR cB) t A) (S : sS D A s cI cR o z u X H locs) (j : Nat) {a n i v : Nat} {f : Nat → Option Nat} {i0 : Int32} (hj : X[j]? = some (a, .inl (cR, n, .inr (.inr (.inr (.inr f)))))) (hn : n < 1000) (hi : i < n) (h0 : i0 = nI i) (hv : f i = some v) (hdg : decode cc pc = .ok (.aaload, 1))
    (kk : W p l e R s m args below meth c H locs cells slots Q (F0 m (pc + 1) ls (.ref v :: rest))) : W p l e R s m args below meth c H locs cells slots Q (F0 m pc ls (.int i0 :: .ref a :: rest)) :=
  x_ald C S j hj hn hi h0 hdg (by rw [hv]; exact kk)
theorem s_ph (C : gC p s m args meth c cc nL own D (ty3 cI cR cB) t A) {T m9 q : Nat} {x : Int32} (B : rB T u) (h8 : u.2.1 < 8) (S : sS D A s cI cR o z u (ra_w cI ob ad u ++ hr_X cR u.2.1 z m9 q x) H locs) {idx : Nat} (hq : Cond.fieldLink own idx RX2 "all" "[LReaperWagesLaw$Reaper;" ∈ wsL_law) (hdg : decode cc pc = .ok (.putfield idx, 3))
    (kk : ∀ (H1 : Heap) (locs1 : List Loc), sS D A s cI cR o (fun k => if k = 2 then m9 else z.1 k, fun k => if k = u.2.1 then q else z.2.1 k, z.2.2) ((ra_s u 0 u.2.1 x).1, u.2.1 + 1, u.2.2) (ra_w cI ob ad u) H1 locs1 → W p l e R s m args below meth c H1 locs1 cells slots Q (F0 m (pc + 3) ls rest)) : W p l e R s m args below meth c H locs cells slots Q (F0 m pc ls (.ref m9 :: .ref o :: rest)) :=
  va_put (D := D) (ci := 2) (v := .ref m9) (ty := .array (.object RX1)) (C := RX2) (T := TX2) (N := 5) C.1 C.2.1 C.2.2.2.2.1 inlX2 tyX2 tyX2_ok nmX2 C.2.2.2.1 C.2.2.2.2.2.1 S.1 S.2.1 S.2.2 0 rfl rfl 3 (by decide) (C.2.2.2.2.1 _ hq) (fun x h => h) rfl (by decide +kernel) rfl rfl (Nat.le_of_ble_eq_true rfl) hdg (fun H1 locs1 hP1 hD1 hS1 => kk H1 locs1 (hr_S B h8 hP1 hD1 hS1))
end HROWS
theorem hr_8 {n : Nat} (h : n ≤ 8) (hn : ¬ nI n = 8) : n < 8 := by
  rcases Nat.lt_or_ge n 8 with h2 | h2
  · exact h2
  · have : n = 8 := by omega
    subst this
    exact absurd rfl hn
theorem kd_L_act : yL_act.cls ≠ "java/lang/invoke/MethodHandle" ∧ yL_act.cls ≠ "java/lang/invoke/VarHandle" ∧ (parseMethodDescriptor yL_act.desc).map (fun d => d.parameters.length) = some 3 := by decide +kernel
set_option maxHeartbeats 4000000 in
set_option maxRecDepth 100000 in
theorem act_rate {p : Program} {l : Launch} {e : Env} {s : State} {m : MethodId} {args : Array Value} {below : List Frame} {meth : Method} {c : Code} {D : va_G} {t : Nat → Nat} {A : Nat → Prop} {H : Heap} {locs : List Loc} {ls : Array Slot} {cI cR cB : ClassId} {o ob T : Nat} {ad : Nat → Nat} {x : Int32} {z : SA} {u : S0}  (C : gC p s m args meth c cL_act 15 RL D (ty3 cI cR cB) t A) (hrt : meth.sig.returnType = some .boolean) (B : rB T u) (hT1 : T + 1 ≤ 400)  (S : sS D A s cI cR o z u (ra_w cI ob ad u) H locs) (hl : lv_has ls 15 [(0, .ref ob), (1, .ref o), (2, .int x), (3, .int (nI u.2.1))]) : W p l e (rm_ 7 20 70 156) s m args below meth c H locs 0 0 (MQ below (va_Qi (fun r w' => r = 1 ∧ ∃ (z' : SA) (u' : S0), rB (T + 1) u' ∧ w' = rs_w cI cR o z' u' ++ ra_w cI ob ad u') (fun w' U => gQ D A w' U) A) args s 20 70 A) (F0 m 203 ls []) := by
  have hx := C.1
  have hb := C.2.1
  have hown := C.2.2.2.1
  have hts := C.2.2.2.2.1
  have hu8 : u.2.1 ≤ 8 := B.1
  refine lv_iload_n hx hb dL_act_203 rfl (lv_at hl 2 rfl) ?_
  refine lv_iconst (v := 1) hx hb dL_act_204 (by decide) ?_
  refine lv_ishr hx hb dL_act_205 ?_
  refine lv_iconst (v := 5) hx hb dL_act_206 (by decide) ?_
  refine m_ci (wa := []) (wb := []) (wd := rs_w cI cR o z u ++ (ra_w cI ob ad u)) (cells' := 0) (slots' := 0) rfl rfl C S.1 S.2.1 S.2.2 (fun hPb hDb => g_runS (wr := (rs_w cI cR o z u ++ (ra_w cI ob ad u)) ++ []) (n := 2) (As := [.int (x >>> (1 &&& 31)), .int 5]) C (mL_below l D t cI cR cB H.size (x >>> (1 &&& 31)) 5 (by decide) (by decide)) (rw_S q41 q42 q25 q43) kd_L_below ⟨Nat.le_of_ble_eq_true rfl, Nat.le_of_ble_eq_true rfl⟩ C.2.2.2.2.2.1 hPb hDb S.2.2 hl.1 rfl rfl (Nat.le_of_ble_eq_true rfl) dL_act_207 ⟨Nat.le_of_ble_eq_true rfl, Nat.le_of_ble_eq_true rfl⟩) (fun v w' H locs hv _ hP9 hD9 hS9 => ?_)
  obtain ⟨⟨j1, hj1, rfl⟩, rfl⟩ := hv
  have S : sS D A s cI cR o z u (ra_w cI ob ad u) H locs := ⟨hP9, hD9, hS9⟩
  refine lv_istore (lv' := [(7, .int (nI j1)), (0, .ref ob), (1, .ref o), (2, .int x), (3, .int (nI u.2.1))]) hx hb dL_act_210 hl (by decide) rfl (fun ls hl => ?_)
  refine lv_aload_n hx hb dL_act_212 rfl (lv_at hl 2 rfl) ?_
  refine s_gf C S 1 (by decide) (v := .ref (z.1 0)) rfl rfl q53 dL_act_213 ?_
  refine lv_iload hx hb dL_act_216 (lv_at hl 0 rfl) ?_
  refine s_l7 C S (i := j1) hj1 rfl dL_act_218 ?_
  refine lv_istore (lv' := [(8, .int (u.1 7 j1)), (7, .int (nI j1)), (0, .ref ob), (1, .ref o), (2, .int x), (3, .int (nI u.2.1))]) hx hb dL_act_219 hl (by decide) rfl (fun ls hl => ?_)
  refine lv_aload_n hx hb dL_act_221 rfl (lv_at hl 3 rfl) ?_
  refine s_gf C S 1 (by decide) (v := .ref (z.1 0)) rfl rfl q53 dL_act_222 ?_
  refine lv_iload hx hb dL_act_225 (lv_at hl 1 rfl) ?_
  refine lv_iload hx hb dL_act_227 (lv_at hl 1 rfl) ?_
  refine lv_iload_n hx hb dL_act_229 rfl (lv_at hl 4 rfl) ?_
  refine lv_iconst (v := 3) hx hb dL_act_230 (by decide) ?_
  refine lv_ishr hx hb dL_act_231 ?_
  refine m_ci (wa := []) (wb := []) (wd := rs_w cI cR o z u ++ (ra_w cI ob ad u)) (cells' := 2) (slots' := 10) rfl rfl C S.1 S.2.1 S.2.2 (fun hPb hDb => g_runS (wr := (rs_w cI cR o z u ++ (ra_w cI ob ad u)) ++ []) (n := 2) (As := [.int (nI j1), .int (x >>> (3 &&& 31))]) C (mL_rate l D t cI cR cB H.size j1 hj1 (x >>> (3 &&& 31))) (rw_S q77 q78 q25 q79) kd_L_rate ⟨Nat.le_of_ble_eq_true rfl, Nat.le_of_ble_eq_true rfl⟩ C.2.2.2.2.2.1 hPb hDb S.2.2 hl.1 rfl rfl (Nat.le_of_ble_eq_true rfl) dL_act_232 ⟨Nat.le_of_ble_eq_true rfl, Nat.le_of_ble_eq_true rfl⟩) (fun v w' H locs hv _ hP9 hD9 hS9 => ?_)
  obtain ⟨h1v, h2v, rfl⟩ := hv
  have S : sS D A s cI cR o z u (ra_w cI ob ad u) H locs := ⟨hP9, hD9, hS9⟩
  refine s_t7 C S (i := j1) hj1 rfl dL_act_235 (fun H locs S => ?_)
  refine lv_aload_n hx hb dL_act_236 rfl (lv_at hl 2 rfl) ?_
  refine lv_iload hx hb dL_act_237 (lv_at hl 1 rfl) ?_
  refine lv_aload_n hx hb dL_act_239 rfl (lv_at hl 3 rfl) ?_
  refine s_gf C S 1 (by decide) (v := .ref (z.1 0)) rfl rfl q53 dL_act_240 ?_
  refine lv_iload hx hb dL_act_243 (lv_at hl 1 rfl) ?_
  refine s_l7 C S (i := j1) hj1 rfl dL_act_245 ?_
  refine g_top (y := v) ra_sS ?_
  refine m_ci (wa := rs_w cI cR o z (ra_s u 7 j1 v)) (wb := ra_w cI ob ad u) (wd := []) (cells' := 2) (slots' := 10) rfl rfl C S.1 S.2.1 S.2.2 (fun hPb hDb => g_runV (wr := ([]) ++ rs_w cI cR o z (ra_s u 7 j1 v)) (n := 2) (As := [.int (nI j1), .int v]) C (mX0_setRate l D t cI ob ad H.size u j1 hj1 v h1v h2v) (rw_V q80 q81 q82 q2 q83) kd_X0_setRate ⟨Nat.le_of_ble_eq_true rfl, Nat.le_of_ble_eq_true rfl⟩ (ci := 0) rfl rfl rfl (C.2.2.2.2.2.1.sub (tys' := [(cI, .int)]) [0] rfl) hPb hDb S.2.2 hl.1 rfl rfl (Nat.le_of_ble_eq_true rfl) dL_act_246 ⟨Nat.le_of_ble_eq_true rfl, Nat.le_of_ble_eq_true rfl⟩) (fun v w' H locs hv _ hP9 hD9 hS9 => ?_)
  obtain ⟨rfl, rfl⟩ := hv
  have S : sS D A s cI cR o z (ra_s u 7 j1 v) (ra_w cI ob ad (ra_s u 7 j1 v)) H locs := ⟨hP9, hD9, hS9⟩
  refine lv_iload hx hb dL_act_249 (lv_at hl 0 rfl) ?_
  refine lv_icmp_ne (tgt := 258) hx hb dL_act_251 (by decide) (fun c2 => absurd rfl c2) (fun c2 => ?_)
  refine lv_iconst (v := 1) hx hb dL_act_254 (by decide) ?_
  refine lv_goto (tgt := 259) hx hb dL_act_255 (by decide) ?_
  refine W.widen (k := 20) (n := 70) (Nat.le_of_ble_eq_true rfl) (Nat.le_of_ble_eq_true rfl) ?_
  exact g_zret C hrt rfl S.1 S.2.1 S.2.2 dL_act_259 ⟨rfl, z, ra_s u 7 j1 v, rB_rate B hT1 hj1 h1v h2v, rfl⟩
set_option maxHeartbeats 4000000 in
set_option maxRecDepth 100000 in
theorem act_fill {p : Program} {l : Launch} {e : Env} {s : State} {m : MethodId} {args : Array Value} {below : List Frame} {meth : Method} {c : Code} {D : va_G} {t : Nat → Nat} {A : Nat → Prop} {H : Heap} {locs : List Loc} {ls : Array Slot} {cI cR cB : ClassId} {o ob T : Nat} {ad : Nat → Nat} {x : Int32} {z : SA} {u : S0}  (C : gC p s m args meth c cL_act 15 RL D (ty3 cI cR cB) t A) (hrt : meth.sig.returnType = some .boolean) (B : rB T u) (hT1 : T + 1 ≤ 400)  (S : sS D A s cI cR o z u (ra_w cI ob ad u) H locs) (hl : lv_has ls 15 [(0, .ref ob), (1, .ref o), (2, .int x), (3, .int (nI u.2.1))]) : W p l e (rm_ 7 20 70 156) s m args below meth c H locs 0 0 (MQ below (va_Qi (fun r w' => r = 1 ∧ ∃ (z' : SA) (u' : S0), rB (T + 1) u' ∧ w' = rs_w cI cR o z' u' ++ ra_w cI ob ad u') (fun w' U => gQ D A w' U) A) args s 20 70 A) (F0 m 260 ls []) := by
  have hx := C.1
  have hb := C.2.1
  have hown := C.2.2.2.1
  have hts := C.2.2.2.2.1
  have hu8 : u.2.1 ≤ 8 := B.1
  refine lv_iload_n hx hb dL_act_260 rfl (lv_at hl 2 rfl) ?_
  refine lv_iconst (v := 1) hx hb dL_act_261 (by decide) ?_
  refine lv_ishr hx hb dL_act_262 ?_
  refine lv_iconst (v := 3) hx hb dL_act_263 (by decide) ?_
  refine m_ci (wa := []) (wb := []) (wd := rs_w cI cR o z u ++ (ra_w cI ob ad u)) (cells' := 0) (slots' := 0) rfl rfl C S.1 S.2.1 S.2.2 (fun hPb hDb => g_runS (wr := (rs_w cI cR o z u ++ (ra_w cI ob ad u)) ++ []) (n := 2) (As := [.int (x >>> (1 &&& 31)), .int 3]) C (mL_below l D t cI cR cB H.size (x >>> (1 &&& 31)) 3 (by decide) (by decide)) (rw_S q41 q42 q25 q43) kd_L_below ⟨Nat.le_of_ble_eq_true rfl, Nat.le_of_ble_eq_true rfl⟩ C.2.2.2.2.2.1 hPb hDb S.2.2 hl.1 rfl rfl (Nat.le_of_ble_eq_true rfl) dL_act_264 ⟨Nat.le_of_ble_eq_true rfl, Nat.le_of_ble_eq_true rfl⟩) (fun v w' H locs hv _ hP9 hD9 hS9 => ?_)
  obtain ⟨⟨j1, hj1, rfl⟩, rfl⟩ := hv
  have S : sS D A s cI cR o z u (ra_w cI ob ad u) H locs := ⟨hP9, hD9, hS9⟩
  refine lv_istore (lv' := [(9, .int (nI j1)), (0, .ref ob), (1, .ref o), (2, .int x), (3, .int (nI u.2.1))]) hx hb dL_act_267 hl (by decide) rfl (fun ls hl => ?_)
  refine lv_iconst (v := 1) hx hb dL_act_269 (by decide) ?_
  refine lv_iload_n hx hb dL_act_270 rfl (lv_at hl 3 rfl) ?_
  refine lv_iconst (v := 3) hx hb dL_act_271 (by decide) ?_
  refine lv_ishr hx hb dL_act_272 ?_
  refine lv_iload_n hx hb dL_act_273 rfl (lv_at hl 3 rfl) ?_
  refine lv_iconst (v := 3) hx hb dL_act_274 (by decide) ?_
  refine m_ci (wa := []) (wb := []) (wd := rs_w cI cR o z u ++ (ra_w cI ob ad u)) (cells' := 0) (slots' := 0) rfl rfl C S.1 S.2.1 S.2.2 (fun hPb hDb => g_runS (wr := (rs_w cI cR o z u ++ (ra_w cI ob ad u)) ++ []) (n := 2) (As := [.int x, .int 3]) C (mL_below l D t cI cR cB H.size x 3 (by decide) (by decide)) (rw_S q41 q42 q25 q43) kd_L_below ⟨Nat.le_of_ble_eq_true rfl, Nat.le_of_ble_eq_true rfl⟩ C.2.2.2.2.2.1 hPb hDb S.2.2 hl.1 rfl rfl (Nat.le_of_ble_eq_true rfl) dL_act_275 ⟨Nat.le_of_ble_eq_true rfl, Nat.le_of_ble_eq_true rfl⟩) (fun v w' H locs hv _ hP9 hD9 hS9 => ?_)
  obtain ⟨⟨j2, hj2, rfl⟩, rfl⟩ := hv
  have S : sS D A s cI cR o z u (ra_w cI ob ad u) H locs := ⟨hP9, hD9, hS9⟩
  refine lv_if_ne (tgt := 287) hx hb dL_act_278 (by decide) (fun c3 => ?_) (fun c3 => ?_)
  · refine lv_bipush (v := 30) hx hb dL_act_287 (by decide) ?_
    refine m_ci (wa := []) (wb := []) (wd := rs_w cI cR o z u ++ (ra_w cI ob ad u)) (cells' := 0) (slots' := 0) rfl rfl C S.1 S.2.1 S.2.2 (fun hPb hDb => g_runS (wr := (rs_w cI cR o z u ++ (ra_w cI ob ad u)) ++ []) (n := 2) (As := [.int (x >>> (3 &&& 31)), .int 30]) C (mL_below l D t cI cR cB H.size (x >>> (3 &&& 31)) 30 (by decide) (by decide)) (rw_S q41 q42 q25 q43) kd_L_below ⟨Nat.le_of_ble_eq_true rfl, Nat.le_of_ble_eq_true rfl⟩ C.2.2.2.2.2.1 hPb hDb S.2.2 hl.1 rfl rfl (Nat.le_of_ble_eq_true rfl) dL_act_289 ⟨Nat.le_of_ble_eq_true rfl, Nat.le_of_ble_eq_true rfl⟩) (fun v w' H locs hv _ hP9 hD9 hS9 => ?_)
    obtain ⟨⟨j4, hj4, rfl⟩, rfl⟩ := hv
    have S : sS D A s cI cR o z u (ra_w cI ob ad u) H locs := ⟨hP9, hD9, hS9⟩
    refine lv_iadd hx hb dL_act_292 ?_
    refine g_top (nI_add 1 j4) ?_
    refine lv_istore (lv' := [(10, .int (nI (1 + j4))), (9, .int (nI j1)), (0, .ref ob), (1, .ref o), (2, .int x), (3, .int (nI u.2.1))]) hx hb dL_act_293 hl (by decide) rfl (fun ls hl => ?_)
    refine lv_aload_n hx hb dL_act_295 rfl (lv_at hl 3 rfl) ?_
    refine s_gf C S 2 (by decide) (v := .ref (z.1 1)) rfl rfl q54 dL_act_296 ?_
    refine lv_iload hx hb dL_act_299 (lv_at hl 1 rfl) ?_
    refine lv_dup2_11 hx hb dL_act_301 rfl rfl ?_
    refine s_l8 C S (i := j1) hj1 rfl dL_act_302 ?_
    refine lv_iload hx hb dL_act_303 (lv_at hl 0 rfl) ?_
    refine lv_iadd hx hb dL_act_305 ?_
    refine s_t8 C S (i := j1) hj1 rfl dL_act_306 (fun H locs S => ?_)
    refine lv_aload_n hx hb dL_act_307 rfl (lv_at hl 2 rfl) ?_
    refine lv_iload hx hb dL_act_308 (lv_at hl 1 rfl) ?_
    refine lv_iload hx hb dL_act_310 (lv_at hl 0 rfl) ?_
    refine m_ci (wa := rs_w cI cR o z (ra_s u 8 j1 ((u.1 8 j1) + (nI (1 + j4))))) (wb := ra_w cI ob ad u) (wd := []) (cells' := 0) (slots' := 0) rfl rfl C S.1 S.2.1 S.2.2 (fun hPb hDb => g_runV (wr := ([]) ++ rs_w cI cR o z (ra_s u 8 j1 ((u.1 8 j1) + (nI (1 + j4))))) (n := 2) (As := [.int (nI j1), .int (nI (1 + j4))]) C (mX0_fill l D t cI ob ad H.size u j1 hj1 (nI (1 + j4)) (mv_1 (by omega) (by omega)) (nI_le (b := 500) (by omega) (by omega))) (rw_V q94 q95 q96 q2 q97) kd_X0_fill ⟨Nat.le_of_ble_eq_true rfl, Nat.le_of_ble_eq_true rfl⟩ (ci := 0) rfl rfl rfl (C.2.2.2.2.2.1.sub (tys' := [(cI, .int)]) [0] rfl) hPb hDb S.2.2 hl.1 rfl rfl (Nat.le_of_ble_eq_true rfl) dL_act_312 ⟨Nat.le_of_ble_eq_true rfl, Nat.le_of_ble_eq_true rfl⟩) (fun v w' H locs hv _ hP9 hD9 hS9 => ?_)
    obtain ⟨rfl, rfl⟩ := hv
    have S : sS D A s cI cR o z (ra_s u 8 j1 ((u.1 8 j1) + (nI (1 + j4)))) (ra_w cI ob ad (ra_s u 8 j1 (u.1 8 j1 + nI (1 + j4)))) H locs := ⟨hP9, hD9, hS9⟩
    refine lv_aload_n hx hb dL_act_315 rfl (lv_at hl 3 rfl) ?_
    refine s_gf C S 2 (by decide) (v := .ref (z.1 1)) rfl rfl q54 dL_act_316 ?_
    refine lv_iload hx hb dL_act_319 (lv_at hl 1 rfl) ?_
    refine s_l8 C S (i := j1) hj1 rfl dL_act_321 ?_
    refine g_top (y := (u.1 8 j1) + (nI (1 + j4))) ra_sS ?_
    refine lv_icmp_ne (tgt := 329) hx hb dL_act_322 (by decide) (fun c5 => absurd rfl c5) (fun c5 => ?_)
    refine lv_iconst (v := 1) hx hb dL_act_325 (by decide) ?_
    refine lv_goto (tgt := 330) hx hb dL_act_326 (by decide) ?_
    refine W.widen (k := 20) (n := 70) (Nat.le_of_ble_eq_true rfl) (Nat.le_of_ble_eq_true rfl) ?_
    exact g_zret C hrt rfl S.1 S.2.1 S.2.2 dL_act_330 ⟨rfl, z, ra_s u 8 j1 ((u.1 8 j1) + (nI (1 + j4))), rB_fill B hT1 hj1 (by omega), rfl⟩
  · refine lv_sipush (v := 500) hx hb dL_act_281 (by decide) ?_
    refine lv_goto (tgt := 289) hx hb dL_act_284 (by decide) ?_
    refine m_ci (wa := []) (wb := []) (wd := rs_w cI cR o z u ++ (ra_w cI ob ad u)) (cells' := 0) (slots' := 0) rfl rfl C S.1 S.2.1 S.2.2 (fun hPb hDb => g_runS (wr := (rs_w cI cR o z u ++ (ra_w cI ob ad u)) ++ []) (n := 2) (As := [.int (x >>> (3 &&& 31)), .int 500]) C (mL_below l D t cI cR cB H.size (x >>> (3 &&& 31)) 500 (by decide) (by decide)) (rw_S q41 q42 q25 q43) kd_L_below ⟨Nat.le_of_ble_eq_true rfl, Nat.le_of_ble_eq_true rfl⟩ C.2.2.2.2.2.1 hPb hDb S.2.2 hl.1 rfl rfl (Nat.le_of_ble_eq_true rfl) dL_act_289 ⟨Nat.le_of_ble_eq_true rfl, Nat.le_of_ble_eq_true rfl⟩) (fun v w' H locs hv _ hP9 hD9 hS9 => ?_)
    obtain ⟨⟨j6, hj6, rfl⟩, rfl⟩ := hv
    have S : sS D A s cI cR o z u (ra_w cI ob ad u) H locs := ⟨hP9, hD9, hS9⟩
    refine lv_iadd hx hb dL_act_292 ?_
    refine g_top (nI_add 1 j6) ?_
    refine lv_istore (lv' := [(10, .int (nI (1 + j6))), (9, .int (nI j1)), (0, .ref ob), (1, .ref o), (2, .int x), (3, .int (nI u.2.1))]) hx hb dL_act_293 hl (by decide) rfl (fun ls hl => ?_)
    refine lv_aload_n hx hb dL_act_295 rfl (lv_at hl 3 rfl) ?_
    refine s_gf C S 2 (by decide) (v := .ref (z.1 1)) rfl rfl q54 dL_act_296 ?_
    refine lv_iload hx hb dL_act_299 (lv_at hl 1 rfl) ?_
    refine lv_dup2_11 hx hb dL_act_301 rfl rfl ?_
    refine s_l8 C S (i := j1) hj1 rfl dL_act_302 ?_
    refine lv_iload hx hb dL_act_303 (lv_at hl 0 rfl) ?_
    refine lv_iadd hx hb dL_act_305 ?_
    refine s_t8 C S (i := j1) hj1 rfl dL_act_306 (fun H locs S => ?_)
    refine lv_aload_n hx hb dL_act_307 rfl (lv_at hl 2 rfl) ?_
    refine lv_iload hx hb dL_act_308 (lv_at hl 1 rfl) ?_
    refine lv_iload hx hb dL_act_310 (lv_at hl 0 rfl) ?_
    refine m_ci (wa := rs_w cI cR o z (ra_s u 8 j1 ((u.1 8 j1) + (nI (1 + j6))))) (wb := ra_w cI ob ad u) (wd := []) (cells' := 0) (slots' := 0) rfl rfl C S.1 S.2.1 S.2.2 (fun hPb hDb => g_runV (wr := ([]) ++ rs_w cI cR o z (ra_s u 8 j1 ((u.1 8 j1) + (nI (1 + j6))))) (n := 2) (As := [.int (nI j1), .int (nI (1 + j6))]) C (mX0_fill l D t cI ob ad H.size u j1 hj1 (nI (1 + j6)) (mv_1 (by omega) (by omega)) (nI_le (b := 500) (by omega) (by omega))) (rw_V q94 q95 q96 q2 q97) kd_X0_fill ⟨Nat.le_of_ble_eq_true rfl, Nat.le_of_ble_eq_true rfl⟩ (ci := 0) rfl rfl rfl (C.2.2.2.2.2.1.sub (tys' := [(cI, .int)]) [0] rfl) hPb hDb S.2.2 hl.1 rfl rfl (Nat.le_of_ble_eq_true rfl) dL_act_312 ⟨Nat.le_of_ble_eq_true rfl, Nat.le_of_ble_eq_true rfl⟩) (fun v w' H locs hv _ hP9 hD9 hS9 => ?_)
    obtain ⟨rfl, rfl⟩ := hv
    have S : sS D A s cI cR o z (ra_s u 8 j1 ((u.1 8 j1) + (nI (1 + j6)))) (ra_w cI ob ad (ra_s u 8 j1 (u.1 8 j1 + nI (1 + j6)))) H locs := ⟨hP9, hD9, hS9⟩
    refine lv_aload_n hx hb dL_act_315 rfl (lv_at hl 3 rfl) ?_
    refine s_gf C S 2 (by decide) (v := .ref (z.1 1)) rfl rfl q54 dL_act_316 ?_
    refine lv_iload hx hb dL_act_319 (lv_at hl 1 rfl) ?_
    refine s_l8 C S (i := j1) hj1 rfl dL_act_321 ?_
    refine g_top (y := (u.1 8 j1) + (nI (1 + j6))) ra_sS ?_
    refine lv_icmp_ne (tgt := 329) hx hb dL_act_322 (by decide) (fun c7 => absurd rfl c7) (fun c7 => ?_)
    refine lv_iconst (v := 1) hx hb dL_act_325 (by decide) ?_
    refine lv_goto (tgt := 330) hx hb dL_act_326 (by decide) ?_
    refine W.widen (k := 20) (n := 70) (Nat.le_of_ble_eq_true rfl) (Nat.le_of_ble_eq_true rfl) ?_
    exact g_zret C hrt rfl S.1 S.2.1 S.2.2 dL_act_330 ⟨rfl, z, ra_s u 8 j1 ((u.1 8 j1) + (nI (1 + j6))), rB_fill B hT1 hj1 (by omega), rfl⟩
set_option maxHeartbeats 4000000 in
set_option maxRecDepth 100000 in
theorem act_bind0 {p : Program} {l : Launch} {e : Env} {s : State} {m : MethodId} {args : Array Value} {below : List Frame} {meth : Method} {c : Code} {D : va_G} {t : Nat → Nat} {A : Nat → Prop} {H : Heap} {locs : List Loc} {ls : Array Slot} {cI cR cB : ClassId} {o ob T : Nat} {ad : Nat → Nat} {x : Int32} {z : SA} {u : S0}  (C : gC p s m args meth c cL_act 15 RL D (ty3 cI cR cB) t A) (hrt : meth.sig.returnType = some .boolean) (B : rB T u) (hT1 : T + 1 ≤ 400) (hn : u.2.1 = 0) (S : sS D A s cI cR o z u (ra_w cI ob ad u) H locs) (hl : lv_has ls 15 [(0, .ref ob), (1, .ref o), (2, .int x), (3, .int (nI u.2.1))]) : W p l e (rm_ 7 20 70 156) s m args below meth c H locs 0 0 (MQ below (va_Qi (fun r w' => r = 1 ∧ ∃ (z' : SA) (u' : S0), rB (T + 1) u' ∧ w' = rs_w cI cR o z' u' ++ ra_w cI ob ad u') (fun w' U => gQ D A w' U) A) args s 20 70 A) (F0 m 331 ls []) := by
  have hx := C.1
  have hb := C.2.1
  have hown := C.2.2.2.1
  have hts := C.2.2.2.2.1
  have hu8 : u.2.1 ≤ 8 := B.1
  refine lv_iload_n hx hb dL_act_331 rfl (lv_at hl 3 rfl) ?_
  refine lv_if_eq (tgt := 346) hx hb dL_act_332 (by decide) (fun c1 => ?_) (fun c1 => absurd ((nI_eq (a := u.2.1) (b := 0) (by omega) (by omega)).mpr (by omega)) c1)
  refine lv_iconst (v := 1) hx hb dL_act_346 (by decide) ?_
  refine W.widen (k := 20) (n := 70) (Nat.le_of_ble_eq_true rfl) (Nat.le_of_ble_eq_true rfl) ?_
  exact g_zret C hrt rfl S.1 S.2.1 S.2.2 dL_act_347 ⟨rfl, z, u, B.up hT1, rfl⟩
set_option maxHeartbeats 4000000 in
set_option maxRecDepth 100000 in
theorem act_bind {p : Program} {l : Launch} {e : Env} {s : State} {m : MethodId} {args : Array Value} {below : List Frame} {meth : Method} {c : Code} {D : va_G} {t : Nat → Nat} {A : Nat → Prop} {H : Heap} {locs : List Loc} {ls : Array Slot} {cI cR cB : ClassId} {o ob T : Nat} {ad : Nat → Nat} {x : Int32} {z : SA} {u : S0} {k : Nat} (C : gC p s m args meth c cL_act 15 RL D (ty3 cI cR cB) t A) (hrt : meth.sig.returnType = some .boolean) (B : rB T u) (hT1 : T + 1 ≤ 400) (hk : k < u.2.1) (S : sS D A s cI cR o z u (ra_w cI ob ad u) H locs) (hl : lv_has ls 15 [(0, .ref ob), (1, .ref o), (2, .int x), (3, .int (nI u.2.1)), (4, .int (nI k)), (5, .ref (z.2.1 k))]) : W p l e (rm_ 7 20 70 156) s m args below meth c H locs 0 0 (MQ below (va_Qi (fun r w' => r = 1 ∧ ∃ (z' : SA) (u' : S0), rB (T + 1) u' ∧ w' = rs_w cI cR o z' u' ++ ra_w cI ob ad u') (fun w' U => gQ D A w' U) A) args s 20 70 A) (F0 m 331 ls []) := by
  have hx := C.1
  have hb := C.2.1
  have hown := C.2.2.2.1
  have hts := C.2.2.2.2.1
  have hu8 : u.2.1 ≤ 8 := B.1
  refine lv_iload_n hx hb dL_act_331 rfl (lv_at hl 3 rfl) ?_
  refine lv_if_eq (tgt := 346) hx hb dL_act_332 (by decide) (fun c1 => absurd c1 (fun h9 => absurd ((nI_eq (a := u.2.1) (b := 0) (by omega) (by omega)).mp h9) (by omega))) (fun c1 => ?_)
  refine lv_aload hx hb dL_act_335 (lv_at hl 5 rfl) ?_
  refine r_gf C S 1 k (by decide) hk (v := .int (u.1 1 k)) rfl rfl q55 dL_act_337 ?_
  refine lv_sipush (v := 5000) hx hb dL_act_340 (by decide) ?_
  refine lv_icmp_le (tgt := 348) hx hb dL_act_343 (by decide) (fun c2 => ?_) (fun c2 => ?_)
  · refine lv_iconst (v := 1) hx hb dL_act_348 (by decide) ?_
    refine lv_iload_n hx hb dL_act_349 rfl (lv_at hl 2 rfl) ?_
    refine lv_iconst (v := 3) hx hb dL_act_350 (by decide) ?_
    refine lv_ishr hx hb dL_act_351 ?_
    refine lv_iload_n hx hb dL_act_352 rfl (lv_at hl 2 rfl) ?_
    refine lv_iconst (v := 2) hx hb dL_act_353 (by decide) ?_
    refine m_ci (wa := []) (wb := []) (wd := rs_w cI cR o z u ++ (ra_w cI ob ad u)) (cells' := 0) (slots' := 0) rfl rfl C S.1 S.2.1 S.2.2 (fun hPb hDb => g_runS (wr := (rs_w cI cR o z u ++ (ra_w cI ob ad u)) ++ []) (n := 2) (As := [.int x, .int 2]) C (mL_below l D t cI cR cB H.size x 2 (by decide) (by decide)) (rw_S q41 q42 q25 q43) kd_L_below ⟨Nat.le_of_ble_eq_true rfl, Nat.le_of_ble_eq_true rfl⟩ C.2.2.2.2.2.1 hPb hDb S.2.2 hl.1 rfl rfl (Nat.le_of_ble_eq_true rfl) dL_act_354 ⟨Nat.le_of_ble_eq_true rfl, Nat.le_of_ble_eq_true rfl⟩) (fun v w' H locs hv _ hP9 hD9 hS9 => ?_)
    obtain ⟨⟨j3, hj3, rfl⟩, rfl⟩ := hv
    have S : sS D A s cI cR o z u (ra_w cI ob ad u) H locs := ⟨hP9, hD9, hS9⟩
    refine lv_if_ne (tgt := 366) hx hb dL_act_357 (by decide) (fun c4 => ?_) (fun c4 => ?_)
    · refine lv_bipush (v := 90) hx hb dL_act_366 (by decide) ?_
      refine m_ci (wa := []) (wb := []) (wd := rs_w cI cR o z u ++ (ra_w cI ob ad u)) (cells' := 0) (slots' := 0) rfl rfl C S.1 S.2.1 S.2.2 (fun hPb hDb => g_runS (wr := (rs_w cI cR o z u ++ (ra_w cI ob ad u)) ++ []) (n := 2) (As := [.int (x >>> (3 &&& 31)), .int 90]) C (mL_below l D t cI cR cB H.size (x >>> (3 &&& 31)) 90 (by decide) (by decide)) (rw_S q41 q42 q25 q43) kd_L_below ⟨Nat.le_of_ble_eq_true rfl, Nat.le_of_ble_eq_true rfl⟩ C.2.2.2.2.2.1 hPb hDb S.2.2 hl.1 rfl rfl (Nat.le_of_ble_eq_true rfl) dL_act_368 ⟨Nat.le_of_ble_eq_true rfl, Nat.le_of_ble_eq_true rfl⟩) (fun v w' H locs hv _ hP9 hD9 hS9 => ?_)
      obtain ⟨⟨j5, hj5, rfl⟩, rfl⟩ := hv
      have S : sS D A s cI cR o z u (ra_w cI ob ad u) H locs := ⟨hP9, hD9, hS9⟩
      refine lv_iadd hx hb dL_act_371 ?_
      refine g_top (nI_add 1 j5) ?_
      refine lv_istore (lv' := [(11, .int (nI (1 + j5))), (0, .ref ob), (1, .ref o), (2, .int x), (3, .int (nI u.2.1)), (4, .int (nI k)), (5, .ref (z.2.1 k))]) hx hb dL_act_372 hl (by decide) rfl (fun ls hl => ?_)
      refine lv_aload hx hb dL_act_374 (lv_at hl 6 rfl) ?_
      refine lv_dup hx hb dL_act_376 rfl ?_
      refine r_gf C S 1 k (by decide) hk (v := .int (u.1 1 k)) rfl rfl q55 dL_act_377 ?_
      refine lv_iload hx hb dL_act_380 (lv_at hl 0 rfl) ?_
      refine lv_iadd hx hb dL_act_382 ?_
      refine r_pf C S 1 k (by decide) hk rfl rfl (by decide +kernel) q55 dL_act_383 (fun H locs S => ?_)
      refine lv_aload_n hx hb dL_act_386 rfl (lv_at hl 1 rfl) ?_
      refine lv_iload hx hb dL_act_387 (lv_at hl 5 rfl) ?_
      refine lv_iload hx hb dL_act_389 (lv_at hl 0 rfl) ?_
      refine m_ci (wa := rs_w cI cR o z (ra_s u 1 k ((u.1 1 k) + (nI (1 + j5))))) (wb := ra_w cI ob ad u) (wd := []) (cells' := 0) (slots' := 0) rfl rfl C S.1 S.2.1 S.2.2 (fun hPb hDb => g_runV (wr := ([]) ++ rs_w cI cR o z (ra_s u 1 k ((u.1 1 k) + (nI (1 + j5))))) (n := 2) (As := [.int (nI k), .int (nI (1 + j5))]) C (mX0_bind l D t cI ob ad H.size u hu8 k hk (nI (1 + j5)) (mv_1 (by omega) (by omega)) (nI_le (b := 999) (by omega) (by omega))) (rw_V q98 q99 q100 q2 q101) kd_X0_bind ⟨Nat.le_of_ble_eq_true rfl, Nat.le_of_ble_eq_true rfl⟩ (ci := 0) rfl rfl rfl (C.2.2.2.2.2.1.sub (tys' := [(cI, .int)]) [0] rfl) hPb hDb S.2.2 hl.1 rfl rfl (Nat.le_of_ble_eq_true rfl) dL_act_391 ⟨Nat.le_of_ble_eq_true rfl, Nat.le_of_ble_eq_true rfl⟩) (fun v w' H locs hv _ hP9 hD9 hS9 => ?_)
      obtain ⟨rfl, rfl⟩ := hv
      have S : sS D A s cI cR o z (ra_s u 1 k ((u.1 1 k) + (nI (1 + j5)))) (ra_w cI ob ad (ra_s u 1 k (u.1 1 k + nI (1 + j5)))) H locs := ⟨hP9, hD9, hS9⟩
      refine lv_aload hx hb dL_act_394 (lv_at hl 6 rfl) ?_
      refine r_gf C S 1 k (by decide) hk (v := .int ((ra_s u 1 k ((u.1 1 k) + (nI (1 + j5)))).1 1 k)) rfl rfl q55 dL_act_396 ?_
      refine g_top (y := (u.1 1 k) + (nI (1 + j5))) ra_sS ?_
      refine lv_icmp_ne (tgt := 406) hx hb dL_act_399 (by decide) (fun c6 => absurd rfl c6) (fun c6 => ?_)
      refine lv_iconst (v := 1) hx hb dL_act_402 (by decide) ?_
      refine lv_goto (tgt := 407) hx hb dL_act_403 (by decide) ?_
      refine W.widen (k := 20) (n := 70) (Nat.le_of_ble_eq_true rfl) (Nat.le_of_ble_eq_true rfl) ?_
      exact g_zret C hrt rfl S.1 S.2.1 S.2.2 dL_act_407 ⟨rfl, z, ra_s u 1 k ((u.1 1 k) + (nI (1 + j5))), rB_bind B hT1 hk (Int32.not_lt.mpr c2) (by omega), rfl⟩
    · refine lv_sipush (v := 999) hx hb dL_act_360 (by decide) ?_
      refine lv_goto (tgt := 368) hx hb dL_act_363 (by decide) ?_
      refine m_ci (wa := []) (wb := []) (wd := rs_w cI cR o z u ++ (ra_w cI ob ad u)) (cells' := 0) (slots' := 0) rfl rfl C S.1 S.2.1 S.2.2 (fun hPb hDb => g_runS (wr := (rs_w cI cR o z u ++ (ra_w cI ob ad u)) ++ []) (n := 2) (As := [.int (x >>> (3 &&& 31)), .int 999]) C (mL_below l D t cI cR cB H.size (x >>> (3 &&& 31)) 999 (by decide) (by decide)) (rw_S q41 q42 q25 q43) kd_L_below ⟨Nat.le_of_ble_eq_true rfl, Nat.le_of_ble_eq_true rfl⟩ C.2.2.2.2.2.1 hPb hDb S.2.2 hl.1 rfl rfl (Nat.le_of_ble_eq_true rfl) dL_act_368 ⟨Nat.le_of_ble_eq_true rfl, Nat.le_of_ble_eq_true rfl⟩) (fun v w' H locs hv _ hP9 hD9 hS9 => ?_)
      obtain ⟨⟨j7, hj7, rfl⟩, rfl⟩ := hv
      have S : sS D A s cI cR o z u (ra_w cI ob ad u) H locs := ⟨hP9, hD9, hS9⟩
      refine lv_iadd hx hb dL_act_371 ?_
      refine g_top (nI_add 1 j7) ?_
      refine lv_istore (lv' := [(11, .int (nI (1 + j7))), (0, .ref ob), (1, .ref o), (2, .int x), (3, .int (nI u.2.1)), (4, .int (nI k)), (5, .ref (z.2.1 k))]) hx hb dL_act_372 hl (by decide) rfl (fun ls hl => ?_)
      refine lv_aload hx hb dL_act_374 (lv_at hl 6 rfl) ?_
      refine lv_dup hx hb dL_act_376 rfl ?_
      refine r_gf C S 1 k (by decide) hk (v := .int (u.1 1 k)) rfl rfl q55 dL_act_377 ?_
      refine lv_iload hx hb dL_act_380 (lv_at hl 0 rfl) ?_
      refine lv_iadd hx hb dL_act_382 ?_
      refine r_pf C S 1 k (by decide) hk rfl rfl (by decide +kernel) q55 dL_act_383 (fun H locs S => ?_)
      refine lv_aload_n hx hb dL_act_386 rfl (lv_at hl 1 rfl) ?_
      refine lv_iload hx hb dL_act_387 (lv_at hl 5 rfl) ?_
      refine lv_iload hx hb dL_act_389 (lv_at hl 0 rfl) ?_
      refine m_ci (wa := rs_w cI cR o z (ra_s u 1 k ((u.1 1 k) + (nI (1 + j7))))) (wb := ra_w cI ob ad u) (wd := []) (cells' := 0) (slots' := 0) rfl rfl C S.1 S.2.1 S.2.2 (fun hPb hDb => g_runV (wr := ([]) ++ rs_w cI cR o z (ra_s u 1 k ((u.1 1 k) + (nI (1 + j7))))) (n := 2) (As := [.int (nI k), .int (nI (1 + j7))]) C (mX0_bind l D t cI ob ad H.size u hu8 k hk (nI (1 + j7)) (mv_1 (by omega) (by omega)) (nI_le (b := 999) (by omega) (by omega))) (rw_V q98 q99 q100 q2 q101) kd_X0_bind ⟨Nat.le_of_ble_eq_true rfl, Nat.le_of_ble_eq_true rfl⟩ (ci := 0) rfl rfl rfl (C.2.2.2.2.2.1.sub (tys' := [(cI, .int)]) [0] rfl) hPb hDb S.2.2 hl.1 rfl rfl (Nat.le_of_ble_eq_true rfl) dL_act_391 ⟨Nat.le_of_ble_eq_true rfl, Nat.le_of_ble_eq_true rfl⟩) (fun v w' H locs hv _ hP9 hD9 hS9 => ?_)
      obtain ⟨rfl, rfl⟩ := hv
      have S : sS D A s cI cR o z (ra_s u 1 k ((u.1 1 k) + (nI (1 + j7)))) (ra_w cI ob ad (ra_s u 1 k (u.1 1 k + nI (1 + j7)))) H locs := ⟨hP9, hD9, hS9⟩
      refine lv_aload hx hb dL_act_394 (lv_at hl 6 rfl) ?_
      refine r_gf C S 1 k (by decide) hk (v := .int ((ra_s u 1 k ((u.1 1 k) + (nI (1 + j7)))).1 1 k)) rfl rfl q55 dL_act_396 ?_
      refine g_top (y := (u.1 1 k) + (nI (1 + j7))) ra_sS ?_
      refine lv_icmp_ne (tgt := 406) hx hb dL_act_399 (by decide) (fun c8 => absurd rfl c8) (fun c8 => ?_)
      refine lv_iconst (v := 1) hx hb dL_act_402 (by decide) ?_
      refine lv_goto (tgt := 407) hx hb dL_act_403 (by decide) ?_
      refine W.widen (k := 20) (n := 70) (Nat.le_of_ble_eq_true rfl) (Nat.le_of_ble_eq_true rfl) ?_
      exact g_zret C hrt rfl S.1 S.2.1 S.2.2 dL_act_407 ⟨rfl, z, ra_s u 1 k ((u.1 1 k) + (nI (1 + j7))), rB_bind B hT1 hk (Int32.not_lt.mpr c2) (by omega), rfl⟩
  · refine lv_iconst (v := 1) hx hb dL_act_346 (by decide) ?_
    refine W.widen (k := 20) (n := 70) (Nat.le_of_ble_eq_true rfl) (Nat.le_of_ble_eq_true rfl) ?_
    exact g_zret C hrt rfl S.1 S.2.1 S.2.2 dL_act_347 ⟨rfl, z, u, B.up hT1, rfl⟩
set_option maxHeartbeats 4000000 in
set_option maxRecDepth 100000 in
theorem act_lend0 {p : Program} {l : Launch} {e : Env} {s : State} {m : MethodId} {args : Array Value} {below : List Frame} {meth : Method} {c : Code} {D : va_G} {t : Nat → Nat} {A : Nat → Prop} {H : Heap} {locs : List Loc} {ls : Array Slot} {cI cR cB : ClassId} {o ob T : Nat} {ad : Nat → Nat} {x : Int32} {z : SA} {u : S0}  (C : gC p s m args meth c cL_act 15 RL D (ty3 cI cR cB) t A) (hrt : meth.sig.returnType = some .boolean) (B : rB T u) (hT1 : T + 1 ≤ 400) (hn : u.2.1 = 0) (S : sS D A s cI cR o z u (ra_w cI ob ad u) H locs) (hl : lv_has ls 15 [(0, .ref ob), (1, .ref o), (2, .int x), (3, .int (nI u.2.1))]) : W p l e (rm_ 7 20 70 156) s m args below meth c H locs 0 0 (MQ below (va_Qi (fun r w' => r = 1 ∧ ∃ (z' : SA) (u' : S0), rB (T + 1) u' ∧ w' = rs_w cI cR o z' u' ++ ra_w cI ob ad u') (fun w' U => gQ D A w' U) A) args s 20 70 A) (F0 m 408 ls []) := by
  have hx := C.1
  have hb := C.2.1
  have hown := C.2.2.2.1
  have hts := C.2.2.2.2.1
  have hu8 : u.2.1 ≤ 8 := B.1
  refine lv_iload_n hx hb dL_act_408 rfl (lv_at hl 3 rfl) ?_
  refine lv_if_ne (tgt := 414) hx hb dL_act_409 (by decide) (fun c1 => absurd ((nI_eq (a := u.2.1) (b := 0) (by omega) (by omega)).mpr (by omega)) c1) (fun c1 => ?_)
  refine lv_iconst (v := 1) hx hb dL_act_412 (by decide) ?_
  refine W.widen (k := 20) (n := 70) (Nat.le_of_ble_eq_true rfl) (Nat.le_of_ble_eq_true rfl) ?_
  exact g_zret C hrt rfl S.1 S.2.1 S.2.2 dL_act_413 ⟨rfl, z, u, B.up hT1, rfl⟩
set_option maxHeartbeats 4000000 in
set_option maxRecDepth 100000 in
theorem act_lend {p : Program} {l : Launch} {e : Env} {s : State} {m : MethodId} {args : Array Value} {below : List Frame} {meth : Method} {c : Code} {D : va_G} {t : Nat → Nat} {A : Nat → Prop} {H : Heap} {locs : List Loc} {ls : Array Slot} {cI cR cB : ClassId} {o ob T : Nat} {ad : Nat → Nat} {x : Int32} {z : SA} {u : S0} {k : Nat} (C : gC p s m args meth c cL_act 15 RL D (ty3 cI cR cB) t A) (hrt : meth.sig.returnType = some .boolean) (B : rB T u) (hT1 : T + 1 ≤ 400) (hk : k < u.2.1) (S : sS D A s cI cR o z u (ra_w cI ob ad u) H locs) (hl : lv_has ls 15 [(0, .ref ob), (1, .ref o), (2, .int x), (3, .int (nI u.2.1)), (4, .int (nI k)), (5, .ref (z.2.1 k))]) : W p l e (rm_ 7 20 70 156) s m args below meth c H locs 0 0 (MQ below (va_Qi (fun r w' => r = 1 ∧ ∃ (z' : SA) (u' : S0), rB (T + 1) u' ∧ w' = rs_w cI cR o z' u' ++ ra_w cI ob ad u') (fun w' U => gQ D A w' U) A) args s 20 70 A) (F0 m 408 ls []) := by
  have hx := C.1
  have hb := C.2.1
  have hown := C.2.2.2.1
  have hts := C.2.2.2.2.1
  have hu8 : u.2.1 ≤ 8 := B.1
  refine lv_iload_n hx hb dL_act_408 rfl (lv_at hl 3 rfl) ?_
  refine lv_if_ne (tgt := 414) hx hb dL_act_409 (by decide) (fun c1 => ?_) (fun c1 => absurd c1 (fun h9 => absurd ((nI_eq (a := u.2.1) (b := 0) (by omega) (by omega)).mp h9) (by omega)))
  refine lv_iconst (v := 1) hx hb dL_act_414 (by decide) ?_
  refine lv_iload_n hx hb dL_act_415 rfl (lv_at hl 2 rfl) ?_
  refine lv_iconst (v := 3) hx hb dL_act_416 (by decide) ?_
  refine lv_ishr hx hb dL_act_417 ?_
  refine lv_iload_n hx hb dL_act_418 rfl (lv_at hl 2 rfl) ?_
  refine lv_iconst (v := 2) hx hb dL_act_419 (by decide) ?_
  refine m_ci (wa := []) (wb := []) (wd := rs_w cI cR o z u ++ (ra_w cI ob ad u)) (cells' := 0) (slots' := 0) rfl rfl C S.1 S.2.1 S.2.2 (fun hPb hDb => g_runS (wr := (rs_w cI cR o z u ++ (ra_w cI ob ad u)) ++ []) (n := 2) (As := [.int x, .int 2]) C (mL_below l D t cI cR cB H.size x 2 (by decide) (by decide)) (rw_S q41 q42 q25 q43) kd_L_below ⟨Nat.le_of_ble_eq_true rfl, Nat.le_of_ble_eq_true rfl⟩ C.2.2.2.2.2.1 hPb hDb S.2.2 hl.1 rfl rfl (Nat.le_of_ble_eq_true rfl) dL_act_420 ⟨Nat.le_of_ble_eq_true rfl, Nat.le_of_ble_eq_true rfl⟩) (fun v w' H locs hv _ hP9 hD9 hS9 => ?_)
  obtain ⟨⟨j2, hj2, rfl⟩, rfl⟩ := hv
  have S : sS D A s cI cR o z u (ra_w cI ob ad u) H locs := ⟨hP9, hD9, hS9⟩
  refine lv_if_ne (tgt := 432) hx hb dL_act_423 (by decide) (fun c3 => ?_) (fun c3 => ?_)
  · refine lv_sipush (v := 200) hx hb dL_act_432 (by decide) ?_
    refine m_ci (wa := []) (wb := []) (wd := rs_w cI cR o z u ++ (ra_w cI ob ad u)) (cells' := 0) (slots' := 0) rfl rfl C S.1 S.2.1 S.2.2 (fun hPb hDb => g_runS (wr := (rs_w cI cR o z u ++ (ra_w cI ob ad u)) ++ []) (n := 2) (As := [.int (x >>> (3 &&& 31)), .int 200]) C (mL_below l D t cI cR cB H.size (x >>> (3 &&& 31)) 200 (by decide) (by decide)) (rw_S q41 q42 q25 q43) kd_L_below ⟨Nat.le_of_ble_eq_true rfl, Nat.le_of_ble_eq_true rfl⟩ C.2.2.2.2.2.1 hPb hDb S.2.2 hl.1 rfl rfl (Nat.le_of_ble_eq_true rfl) dL_act_435 ⟨Nat.le_of_ble_eq_true rfl, Nat.le_of_ble_eq_true rfl⟩) (fun v w' H locs hv _ hP9 hD9 hS9 => ?_)
    obtain ⟨⟨j4, hj4, rfl⟩, rfl⟩ := hv
    have S : sS D A s cI cR o z u (ra_w cI ob ad u) H locs := ⟨hP9, hD9, hS9⟩
    refine lv_iadd hx hb dL_act_438 ?_
    refine g_top (nI_add 1 j4) ?_
    refine lv_istore (lv' := [(12, .int (nI (1 + j4))), (0, .ref ob), (1, .ref o), (2, .int x), (3, .int (nI u.2.1)), (4, .int (nI k)), (5, .ref (z.2.1 k))]) hx hb dL_act_439 hl (by decide) rfl (fun ls hl => ?_)
    refine lv_aload hx hb dL_act_441 (lv_at hl 6 rfl) ?_
    refine r_gf C S 4 k (by decide) hk (v := .int (u.1 4 k)) rfl rfl q56 dL_act_443 ?_
    refine lv_iload hx hb dL_act_446 (lv_at hl 0 rfl) ?_
    refine lv_iadd hx hb dL_act_448 ?_
    refine lv_sipush (v := 5000) hx hb dL_act_449 (by decide) ?_
    refine lv_icmp_le (tgt := 457) hx hb dL_act_452 (by decide) (fun c5 => ?_) (fun c5 => ?_)
    · refine lv_aload hx hb dL_act_457 (lv_at hl 6 rfl) ?_
      refine lv_dup hx hb dL_act_459 rfl ?_
      refine r_gf C S 4 k (by decide) hk (v := .int (u.1 4 k)) rfl rfl q56 dL_act_460 ?_
      refine lv_iload hx hb dL_act_463 (lv_at hl 0 rfl) ?_
      refine lv_iadd hx hb dL_act_465 ?_
      refine r_pf C S 4 k (by decide) hk rfl rfl (by decide +kernel) q56 dL_act_466 (fun H locs S => ?_)
      refine lv_aload_n hx hb dL_act_469 rfl (lv_at hl 1 rfl) ?_
      refine lv_iload hx hb dL_act_470 (lv_at hl 5 rfl) ?_
      refine lv_iload hx hb dL_act_472 (lv_at hl 0 rfl) ?_
      refine m_ci (wa := rs_w cI cR o z (ra_s u 4 k ((u.1 4 k) + (nI (1 + j4))))) (wb := ra_w cI ob ad u) (wd := []) (cells' := 0) (slots' := 0) rfl rfl C S.1 S.2.1 S.2.2 (fun hPb hDb => g_runV (wr := ([]) ++ rs_w cI cR o z (ra_s u 4 k ((u.1 4 k) + (nI (1 + j4))))) (n := 2) (As := [.int (nI k), .int (nI (1 + j4))]) C (mX0_lend l D t cI ob ad H.size u hu8 k hk (nI (1 + j4)) (mv_1 (by omega) (by omega)) (nI_le (b := 2000) (by omega) (by omega)) (Int32.not_lt.mpr c5)) (rw_V q102 q103 q104 q2 q105) kd_X0_lend ⟨Nat.le_of_ble_eq_true rfl, Nat.le_of_ble_eq_true rfl⟩ (ci := 0) rfl rfl rfl (C.2.2.2.2.2.1.sub (tys' := [(cI, .int)]) [0] rfl) hPb hDb S.2.2 hl.1 rfl rfl (Nat.le_of_ble_eq_true rfl) dL_act_474 ⟨Nat.le_of_ble_eq_true rfl, Nat.le_of_ble_eq_true rfl⟩) (fun v w' H locs hv _ hP9 hD9 hS9 => ?_)
      obtain ⟨rfl, rfl⟩ := hv
      have S : sS D A s cI cR o z (ra_s u 4 k ((u.1 4 k) + (nI (1 + j4)))) (ra_w cI ob ad (ra_s u 4 k (u.1 4 k + nI (1 + j4)))) H locs := ⟨hP9, hD9, hS9⟩
      refine lv_aload hx hb dL_act_477 (lv_at hl 6 rfl) ?_
      refine r_gf C S 4 k (by decide) hk (v := .int ((ra_s u 4 k ((u.1 4 k) + (nI (1 + j4)))).1 4 k)) rfl rfl q56 dL_act_479 ?_
      refine g_top (y := (u.1 4 k) + (nI (1 + j4))) ra_sS ?_
      refine lv_icmp_ne (tgt := 489) hx hb dL_act_482 (by decide) (fun c6 => absurd rfl c6) (fun c6 => ?_)
      refine lv_iconst (v := 1) hx hb dL_act_485 (by decide) ?_
      refine lv_goto (tgt := 490) hx hb dL_act_486 (by decide) ?_
      refine W.widen (k := 20) (n := 70) (Nat.le_of_ble_eq_true rfl) (Nat.le_of_ble_eq_true rfl) ?_
      exact g_zret C hrt rfl S.1 S.2.1 S.2.2 dL_act_490 ⟨rfl, z, ra_s u 4 k ((u.1 4 k) + (nI (1 + j4))), rB_lend B hT1 hk (Int32.not_lt.mpr c5) (by omega), rfl⟩
    · refine lv_iconst (v := 1) hx hb dL_act_455 (by decide) ?_
      refine W.widen (k := 20) (n := 70) (Nat.le_of_ble_eq_true rfl) (Nat.le_of_ble_eq_true rfl) ?_
      exact g_zret C hrt rfl S.1 S.2.1 S.2.2 dL_act_456 ⟨rfl, z, u, B.up hT1, rfl⟩
  · refine lv_sipush (v := 2000) hx hb dL_act_426 (by decide) ?_
    refine lv_goto (tgt := 435) hx hb dL_act_429 (by decide) ?_
    refine m_ci (wa := []) (wb := []) (wd := rs_w cI cR o z u ++ (ra_w cI ob ad u)) (cells' := 0) (slots' := 0) rfl rfl C S.1 S.2.1 S.2.2 (fun hPb hDb => g_runS (wr := (rs_w cI cR o z u ++ (ra_w cI ob ad u)) ++ []) (n := 2) (As := [.int (x >>> (3 &&& 31)), .int 2000]) C (mL_below l D t cI cR cB H.size (x >>> (3 &&& 31)) 2000 (by decide) (by decide)) (rw_S q41 q42 q25 q43) kd_L_below ⟨Nat.le_of_ble_eq_true rfl, Nat.le_of_ble_eq_true rfl⟩ C.2.2.2.2.2.1 hPb hDb S.2.2 hl.1 rfl rfl (Nat.le_of_ble_eq_true rfl) dL_act_435 ⟨Nat.le_of_ble_eq_true rfl, Nat.le_of_ble_eq_true rfl⟩) (fun v w' H locs hv _ hP9 hD9 hS9 => ?_)
    obtain ⟨⟨j7, hj7, rfl⟩, rfl⟩ := hv
    have S : sS D A s cI cR o z u (ra_w cI ob ad u) H locs := ⟨hP9, hD9, hS9⟩
    refine lv_iadd hx hb dL_act_438 ?_
    refine g_top (nI_add 1 j7) ?_
    refine lv_istore (lv' := [(12, .int (nI (1 + j7))), (0, .ref ob), (1, .ref o), (2, .int x), (3, .int (nI u.2.1)), (4, .int (nI k)), (5, .ref (z.2.1 k))]) hx hb dL_act_439 hl (by decide) rfl (fun ls hl => ?_)
    refine lv_aload hx hb dL_act_441 (lv_at hl 6 rfl) ?_
    refine r_gf C S 4 k (by decide) hk (v := .int (u.1 4 k)) rfl rfl q56 dL_act_443 ?_
    refine lv_iload hx hb dL_act_446 (lv_at hl 0 rfl) ?_
    refine lv_iadd hx hb dL_act_448 ?_
    refine lv_sipush (v := 5000) hx hb dL_act_449 (by decide) ?_
    refine lv_icmp_le (tgt := 457) hx hb dL_act_452 (by decide) (fun c8 => ?_) (fun c8 => ?_)
    · refine lv_aload hx hb dL_act_457 (lv_at hl 6 rfl) ?_
      refine lv_dup hx hb dL_act_459 rfl ?_
      refine r_gf C S 4 k (by decide) hk (v := .int (u.1 4 k)) rfl rfl q56 dL_act_460 ?_
      refine lv_iload hx hb dL_act_463 (lv_at hl 0 rfl) ?_
      refine lv_iadd hx hb dL_act_465 ?_
      refine r_pf C S 4 k (by decide) hk rfl rfl (by decide +kernel) q56 dL_act_466 (fun H locs S => ?_)
      refine lv_aload_n hx hb dL_act_469 rfl (lv_at hl 1 rfl) ?_
      refine lv_iload hx hb dL_act_470 (lv_at hl 5 rfl) ?_
      refine lv_iload hx hb dL_act_472 (lv_at hl 0 rfl) ?_
      refine m_ci (wa := rs_w cI cR o z (ra_s u 4 k ((u.1 4 k) + (nI (1 + j7))))) (wb := ra_w cI ob ad u) (wd := []) (cells' := 0) (slots' := 0) rfl rfl C S.1 S.2.1 S.2.2 (fun hPb hDb => g_runV (wr := ([]) ++ rs_w cI cR o z (ra_s u 4 k ((u.1 4 k) + (nI (1 + j7))))) (n := 2) (As := [.int (nI k), .int (nI (1 + j7))]) C (mX0_lend l D t cI ob ad H.size u hu8 k hk (nI (1 + j7)) (mv_1 (by omega) (by omega)) (nI_le (b := 2000) (by omega) (by omega)) (Int32.not_lt.mpr c8)) (rw_V q102 q103 q104 q2 q105) kd_X0_lend ⟨Nat.le_of_ble_eq_true rfl, Nat.le_of_ble_eq_true rfl⟩ (ci := 0) rfl rfl rfl (C.2.2.2.2.2.1.sub (tys' := [(cI, .int)]) [0] rfl) hPb hDb S.2.2 hl.1 rfl rfl (Nat.le_of_ble_eq_true rfl) dL_act_474 ⟨Nat.le_of_ble_eq_true rfl, Nat.le_of_ble_eq_true rfl⟩) (fun v w' H locs hv _ hP9 hD9 hS9 => ?_)
      obtain ⟨rfl, rfl⟩ := hv
      have S : sS D A s cI cR o z (ra_s u 4 k ((u.1 4 k) + (nI (1 + j7)))) (ra_w cI ob ad (ra_s u 4 k (u.1 4 k + nI (1 + j7)))) H locs := ⟨hP9, hD9, hS9⟩
      refine lv_aload hx hb dL_act_477 (lv_at hl 6 rfl) ?_
      refine r_gf C S 4 k (by decide) hk (v := .int ((ra_s u 4 k ((u.1 4 k) + (nI (1 + j7)))).1 4 k)) rfl rfl q56 dL_act_479 ?_
      refine g_top (y := (u.1 4 k) + (nI (1 + j7))) ra_sS ?_
      refine lv_icmp_ne (tgt := 489) hx hb dL_act_482 (by decide) (fun c9 => absurd rfl c9) (fun c9 => ?_)
      refine lv_iconst (v := 1) hx hb dL_act_485 (by decide) ?_
      refine lv_goto (tgt := 490) hx hb dL_act_486 (by decide) ?_
      refine W.widen (k := 20) (n := 70) (Nat.le_of_ble_eq_true rfl) (Nat.le_of_ble_eq_true rfl) ?_
      exact g_zret C hrt rfl S.1 S.2.1 S.2.2 dL_act_490 ⟨rfl, z, ra_s u 4 k ((u.1 4 k) + (nI (1 + j7))), rB_lend B hT1 hk (Int32.not_lt.mpr c8) (by omega), rfl⟩
    · refine lv_iconst (v := 1) hx hb dL_act_455 (by decide) ?_
      refine W.widen (k := 20) (n := 70) (Nat.le_of_ble_eq_true rfl) (Nat.le_of_ble_eq_true rfl) ?_
      exact g_zret C hrt rfl S.1 S.2.1 S.2.2 dL_act_456 ⟨rfl, z, u, B.up hT1, rfl⟩
set_option maxHeartbeats 4000000 in
set_option maxRecDepth 100000 in
theorem act_work0 {p : Program} {l : Launch} {e : Env} {s : State} {m : MethodId} {args : Array Value} {below : List Frame} {meth : Method} {c : Code} {D : va_G} {t : Nat → Nat} {A : Nat → Prop} {H : Heap} {locs : List Loc} {ls : Array Slot} {cI cR cB : ClassId} {o ob T : Nat} {ad : Nat → Nat} {x : Int32} {z : SA} {u : S0}  (C : gC p s m args meth c cL_act 15 RL D (ty3 cI cR cB) t A) (hrt : meth.sig.returnType = some .boolean) (B : rB T u) (hT1 : T + 1 ≤ 400) (hn : u.2.1 = 0) (S : sS D A s cI cR o z u (ra_w cI ob ad u) H locs) (hl : lv_has ls 15 [(0, .ref ob), (1, .ref o), (2, .int x), (3, .int (nI u.2.1))]) : W p l e (rm_ 7 20 70 156) s m args below meth c H locs 0 0 (MQ below (va_Qi (fun r w' => r = 1 ∧ ∃ (z' : SA) (u' : S0), rB (T + 1) u' ∧ w' = rs_w cI cR o z' u' ++ ra_w cI ob ad u') (fun w' U => gQ D A w' U) A) args s 20 70 A) (F0 m 518 ls []) := by
  have hx := C.1
  have hb := C.2.1
  have hown := C.2.2.2.1
  have hts := C.2.2.2.2.1
  have hu8 : u.2.1 ≤ 8 := B.1
  refine lv_iload_n hx hb dL_act_518 rfl (lv_at hl 3 rfl) ?_
  refine lv_if_ne (tgt := 524) hx hb dL_act_519 (by decide) (fun c1 => absurd ((nI_eq (a := u.2.1) (b := 0) (by omega) (by omega)).mpr (by omega)) c1) (fun c1 => ?_)
  refine lv_iconst (v := 1) hx hb dL_act_522 (by decide) ?_
  refine W.widen (k := 20) (n := 70) (Nat.le_of_ble_eq_true rfl) (Nat.le_of_ble_eq_true rfl) ?_
  exact g_zret C hrt rfl S.1 S.2.1 S.2.2 dL_act_523 ⟨rfl, z, u, B.up hT1, rfl⟩
set_option maxHeartbeats 4000000 in
set_option maxRecDepth 100000 in
theorem act_work {p : Program} {l : Launch} {e : Env} {s : State} {m : MethodId} {args : Array Value} {below : List Frame} {meth : Method} {c : Code} {D : va_G} {t : Nat → Nat} {A : Nat → Prop} {H : Heap} {locs : List Loc} {ls : Array Slot} {cI cR cB : ClassId} {o ob T : Nat} {ad : Nat → Nat} {x : Int32} {z : SA} {u : S0} {k : Nat} (C : gC p s m args meth c cL_act 15 RL D (ty3 cI cR cB) t A) (hrt : meth.sig.returnType = some .boolean) (B : rB T u) (hT1 : T + 1 ≤ 400) (hk : k < u.2.1) (S : sS D A s cI cR o z u (ra_w cI ob ad u) H locs) (hl : lv_has ls 15 [(0, .ref ob), (1, .ref o), (2, .int x), (3, .int (nI u.2.1)), (4, .int (nI k)), (5, .ref (z.2.1 k))]) : W p l e (rm_ 7 20 70 156) s m args below meth c H locs 0 0 (MQ below (va_Qi (fun r w' => r = 1 ∧ ∃ (z' : SA) (u' : S0), rB (T + 1) u' ∧ w' = rs_w cI cR o z' u' ++ ra_w cI ob ad u') (fun w' U => gQ D A w' U) A) args s 20 70 A) (F0 m 518 ls []) := by
  have hx := C.1
  have hb := C.2.1
  have hown := C.2.2.2.1
  have hts := C.2.2.2.2.1
  have hu8 : u.2.1 ≤ 8 := B.1
  refine lv_iload_n hx hb dL_act_518 rfl (lv_at hl 3 rfl) ?_
  refine lv_if_ne (tgt := 524) hx hb dL_act_519 (by decide) (fun c1 => ?_) (fun c1 => absurd c1 (fun h9 => absurd ((nI_eq (a := u.2.1) (b := 0) (by omega) (by omega)).mp h9) (by omega)))
  refine lv_iload_n hx hb dL_act_524 rfl (lv_at hl 2 rfl) ?_
  refine lv_iconst (v := 3) hx hb dL_act_525 (by decide) ?_
  refine lv_ishr hx hb dL_act_526 ?_
  refine lv_bipush (v := 17) hx hb dL_act_527 (by decide) ?_
  refine m_ci (wa := []) (wb := []) (wd := rs_w cI cR o z u ++ (ra_w cI ob ad u)) (cells' := 0) (slots' := 0) rfl rfl C S.1 S.2.1 S.2.2 (fun hPb hDb => g_runS (wr := (rs_w cI cR o z u ++ (ra_w cI ob ad u)) ++ []) (n := 2) (As := [.int (x >>> (3 &&& 31)), .int 17]) C (mL_below l D t cI cR cB H.size (x >>> (3 &&& 31)) 17 (by decide) (by decide)) (rw_S q41 q42 q25 q43) kd_L_below ⟨Nat.le_of_ble_eq_true rfl, Nat.le_of_ble_eq_true rfl⟩ C.2.2.2.2.2.1 hPb hDb S.2.2 hl.1 rfl rfl (Nat.le_of_ble_eq_true rfl) dL_act_529 ⟨Nat.le_of_ble_eq_true rfl, Nat.le_of_ble_eq_true rfl⟩) (fun v w' H locs hv _ hP9 hD9 hS9 => ?_)
  obtain ⟨⟨j2, hj2, rfl⟩, rfl⟩ := hv
  have S : sS D A s cI cR o z u (ra_w cI ob ad u) H locs := ⟨hP9, hD9, hS9⟩
  refine lv_istore (lv' := [(13, .int (nI j2)), (0, .ref ob), (1, .ref o), (2, .int x), (3, .int (nI u.2.1)), (4, .int (nI k)), (5, .ref (z.2.1 k))]) hx hb dL_act_532 hl (by decide) rfl (fun ls hl => ?_)
  refine lv_aload hx hb dL_act_534 (lv_at hl 6 rfl) ?_
  refine r_gf C S 2 k (by decide) hk (v := .int (u.1 2 k)) rfl rfl q57 dL_act_536 ?_
  refine lv_iload hx hb dL_act_539 (lv_at hl 0 rfl) ?_
  refine lv_iadd hx hb dL_act_541 ?_
  refine lv_bipush (v := 99) hx hb dL_act_542 (by decide) ?_
  refine lv_icmp_le (tgt := 549) hx hb dL_act_544 (by decide) (fun c3 => ?_) (fun c3 => ?_)
  · refine lv_iload_n hx hb dL_act_549 rfl (lv_at hl 3 rfl) ?_
    refine lv_iconst (v := 2) hx hb dL_act_550 (by decide) ?_
    refine lv_ishr hx hb dL_act_551 ?_
    refine lv_iconst (v := 3) hx hb dL_act_552 (by decide) ?_
    refine m_ci (wa := []) (wb := []) (wd := rs_w cI cR o z u ++ (ra_w cI ob ad u)) (cells' := 0) (slots' := 0) rfl rfl C S.1 S.2.1 S.2.2 (fun hPb hDb => g_runS (wr := (rs_w cI cR o z u ++ (ra_w cI ob ad u)) ++ []) (n := 2) (As := [.int (x >>> (2 &&& 31)), .int 3]) C (mL_below l D t cI cR cB H.size (x >>> (2 &&& 31)) 3 (by decide) (by decide)) (rw_S q41 q42 q25 q43) kd_L_below ⟨Nat.le_of_ble_eq_true rfl, Nat.le_of_ble_eq_true rfl⟩ C.2.2.2.2.2.1 hPb hDb S.2.2 hl.1 rfl rfl (Nat.le_of_ble_eq_true rfl) dL_act_553 ⟨Nat.le_of_ble_eq_true rfl, Nat.le_of_ble_eq_true rfl⟩) (fun v w' H locs hv _ hP9 hD9 hS9 => ?_)
    obtain ⟨⟨j4, hj4, rfl⟩, rfl⟩ := hv
    have S : sS D A s cI cR o z u (ra_w cI ob ad u) H locs := ⟨hP9, hD9, hS9⟩
    refine lv_if_ne (tgt := 563) hx hb dL_act_556 (by decide) (fun c5 => ?_) (fun c5 => ?_)
    · refine lv_iconst (v := 0) hx hb dL_act_563 (by decide) ?_
      refine lv_istore (lv' := [(14, .int 0), (13, .int (nI j2)), (0, .ref ob), (1, .ref o), (2, .int x), (3, .int (nI u.2.1)), (4, .int (nI k)), (5, .ref (z.2.1 k))]) hx hb dL_act_564 hl (by decide) rfl (fun ls hl => ?_)
      refine lv_aload hx hb dL_act_566 (lv_at hl 7 rfl) ?_
      refine lv_dup hx hb dL_act_568 rfl ?_
      refine r_gf C S 2 k (by decide) hk (v := .int (u.1 2 k)) rfl rfl q57 dL_act_569 ?_
      refine lv_iload hx hb dL_act_572 (lv_at hl 1 rfl) ?_
      refine lv_iadd hx hb dL_act_574 ?_
      refine r_pf C S 2 k (by decide) hk rfl rfl (by decide +kernel) q57 dL_act_575 (fun H locs S => ?_)
      refine lv_aload hx hb dL_act_578 (lv_at hl 7 rfl) ?_
      refine lv_dup hx hb dL_act_580 rfl ?_
      refine r_gf C S 3 k (by decide) hk (v := .int ((ra_s u 2 k ((u.1 2 k) + (nI j2))).1 3 k)) rfl rfl q58 dL_act_581 ?_
      refine g_top (y := u.1 3 k) (congrFun (ra_sN (by decide)) k) ?_
      refine lv_iload hx hb dL_act_584 (lv_at hl 0 rfl) ?_
      refine lv_if_eq (tgt := 593) hx hb dL_act_586 (by decide) (fun c6 => ?_) (fun c6 => absurd (by decide) c6)
      refine lv_iconst (v := 0) hx hb dL_act_593 (by decide) ?_
      refine lv_iadd hx hb dL_act_594 ?_
      refine r_pf C S 3 k (by decide) hk rfl rfl (by decide +kernel) q58 dL_act_595 (fun H locs S => ?_)
      rw [i32_0, wk_s (show u.1 3 k = (ra_s u 2 k ((u.1 2 k) + (nI j2))).1 3 k from (congrFun (ra_sN (by decide)) k).symm)] at S
      refine lv_aload_n hx hb dL_act_598 rfl (lv_at hl 2 rfl) ?_
      refine lv_iload hx hb dL_act_599 (lv_at hl 6 rfl) ?_
      refine lv_iload hx hb dL_act_601 (lv_at hl 1 rfl) ?_
      refine lv_iload hx hb dL_act_603 (lv_at hl 0 rfl) ?_
      refine m_ci (wa := rs_w cI cR o z (ra_s u 2 k ((u.1 2 k) + (nI j2)))) (wb := ra_w cI ob ad u) (wd := []) (cells' := 0) (slots' := 0) rfl rfl C S.1 S.2.1 S.2.2 (fun hPb hDb => g_runV (wr := ([]) ++ rs_w cI cR o z (ra_s u 2 k ((u.1 2 k) + (nI j2)))) (n := 3) (As := [.int (nI k), .int (nI j2), .int 0]) C (mX0_work l D t cI ob ad H.size u hu8 k hk (nI j2) 0 (nI_pos (by omega)) (nI_le (b := 16) (by omega) (by omega)) (Int32.not_lt.mpr c3)) (rw_V q188 q189 q190 q2 q191) kd_X0_work ⟨Nat.le_of_ble_eq_true rfl, Nat.le_of_ble_eq_true rfl⟩ (ci := 0) rfl rfl rfl (C.2.2.2.2.2.1.sub (tys' := [(cI, .int)]) [0] rfl) hPb hDb S.2.2 hl.1 rfl rfl (Nat.le_of_ble_eq_true rfl) dL_act_605 ⟨Nat.le_of_ble_eq_true rfl, Nat.le_of_ble_eq_true rfl⟩) (fun v w' H locs hv _ hP9 hD9 hS9 => ?_)
      obtain ⟨rfl, rfl⟩ := hv
      have S : sS D A s cI cR o z (ra_s u 2 k ((u.1 2 k) + (nI j2))) (ra_w cI ob ad (rf_wk u k (nI j2) 0)) H locs := ⟨hP9, hD9, hS9⟩
      rw [wk_0] at S
      refine lv_aload hx hb dL_act_608 (lv_at hl 7 rfl) ?_
      refine r_gf C S 2 k (by decide) hk (v := .int ((ra_s u 2 k ((u.1 2 k) + (nI j2))).1 2 k)) rfl rfl q57 dL_act_610 ?_
      refine g_top (y := (u.1 2 k) + (nI j2)) ra_sS ?_
      refine lv_icmp_ne (tgt := 620) hx hb dL_act_613 (by decide) (fun c7 => absurd rfl c7) (fun c7 => ?_)
      refine lv_iconst (v := 1) hx hb dL_act_616 (by decide) ?_
      refine lv_goto (tgt := 621) hx hb dL_act_617 (by decide) ?_
      refine W.widen (k := 20) (n := 70) (Nat.le_of_ble_eq_true rfl) (Nat.le_of_ble_eq_true rfl) ?_
      exact g_zret C hrt rfl S.1 S.2.1 S.2.2 dL_act_621 ⟨rfl, z, ra_s u 2 k ((u.1 2 k) + (nI j2)), rB_hours B hT1 hk (Int32.not_lt.mpr c3) (by omega), rfl⟩
    · refine lv_iconst (v := 1) hx hb dL_act_559 (by decide) ?_
      refine lv_goto (tgt := 564) hx hb dL_act_560 (by decide) ?_
      refine lv_istore (lv' := [(14, .int 1), (13, .int (nI j2)), (0, .ref ob), (1, .ref o), (2, .int x), (3, .int (nI u.2.1)), (4, .int (nI k)), (5, .ref (z.2.1 k))]) hx hb dL_act_564 hl (by decide) rfl (fun ls hl => ?_)
      refine lv_aload hx hb dL_act_566 (lv_at hl 7 rfl) ?_
      refine lv_dup hx hb dL_act_568 rfl ?_
      refine r_gf C S 2 k (by decide) hk (v := .int (u.1 2 k)) rfl rfl q57 dL_act_569 ?_
      refine lv_iload hx hb dL_act_572 (lv_at hl 1 rfl) ?_
      refine lv_iadd hx hb dL_act_574 ?_
      refine r_pf C S 2 k (by decide) hk rfl rfl (by decide +kernel) q57 dL_act_575 (fun H locs S => ?_)
      refine lv_aload hx hb dL_act_578 (lv_at hl 7 rfl) ?_
      refine lv_dup hx hb dL_act_580 rfl ?_
      refine r_gf C S 3 k (by decide) hk (v := .int ((ra_s u 2 k ((u.1 2 k) + (nI j2))).1 3 k)) rfl rfl q58 dL_act_581 ?_
      refine g_top (y := u.1 3 k) (congrFun (ra_sN (by decide)) k) ?_
      refine lv_iload hx hb dL_act_584 (lv_at hl 0 rfl) ?_
      refine lv_if_eq (tgt := 593) hx hb dL_act_586 (by decide) (fun c8 => absurd c8 (by decide)) (fun c8 => ?_)
      refine lv_iconst (v := 1) hx hb dL_act_589 (by decide) ?_
      refine lv_goto (tgt := 594) hx hb dL_act_590 (by decide) ?_
      refine lv_iadd hx hb dL_act_594 ?_
      refine r_pf C S 3 k (by decide) hk rfl rfl (by decide +kernel) q58 dL_act_595 (fun H locs S => ?_)
      refine lv_aload_n hx hb dL_act_598 rfl (lv_at hl 2 rfl) ?_
      refine lv_iload hx hb dL_act_599 (lv_at hl 6 rfl) ?_
      refine lv_iload hx hb dL_act_601 (lv_at hl 1 rfl) ?_
      refine lv_iload hx hb dL_act_603 (lv_at hl 0 rfl) ?_
      refine m_ci (wa := rs_w cI cR o z (ra_s (ra_s u 2 k ((u.1 2 k) + (nI j2))) 3 k ((u.1 3 k) + 1))) (wb := ra_w cI ob ad u) (wd := []) (cells' := 0) (slots' := 0) rfl rfl C S.1 S.2.1 S.2.2 (fun hPb hDb => g_runV (wr := ([]) ++ rs_w cI cR o z (ra_s (ra_s u 2 k ((u.1 2 k) + (nI j2))) 3 k ((u.1 3 k) + 1))) (n := 3) (As := [.int (nI k), .int (nI j2), .int 1]) C (mX0_work l D t cI ob ad H.size u hu8 k hk (nI j2) 1 (nI_pos (by omega)) (nI_le (b := 16) (by omega) (by omega)) (Int32.not_lt.mpr c3)) (rw_V q188 q189 q190 q2 q191) kd_X0_work ⟨Nat.le_of_ble_eq_true rfl, Nat.le_of_ble_eq_true rfl⟩ (ci := 0) rfl rfl rfl (C.2.2.2.2.2.1.sub (tys' := [(cI, .int)]) [0] rfl) hPb hDb S.2.2 hl.1 rfl rfl (Nat.le_of_ble_eq_true rfl) dL_act_605 ⟨Nat.le_of_ble_eq_true rfl, Nat.le_of_ble_eq_true rfl⟩) (fun v w' H locs hv _ hP9 hD9 hS9 => ?_)
      obtain ⟨rfl, rfl⟩ := hv
      have S : sS D A s cI cR o z (ra_s (ra_s u 2 k ((u.1 2 k) + (nI j2))) 3 k ((u.1 3 k) + 1)) (ra_w cI ob ad (rf_wk u k (nI j2) 1)) H locs := ⟨hP9, hD9, hS9⟩
      rw [wk_1] at S
      refine lv_aload hx hb dL_act_608 (lv_at hl 7 rfl) ?_
      refine r_gf C S 2 k (by decide) hk (v := .int ((ra_s (ra_s u 2 k ((u.1 2 k) + (nI j2))) 3 k ((u.1 3 k) + 1)).1 2 k)) rfl rfl q57 dL_act_610 ?_
      refine g_top (y := (u.1 2 k) + (nI j2)) ((congrFun (ra_sN (by decide)) k).trans ra_sS) ?_
      refine lv_icmp_ne (tgt := 620) hx hb dL_act_613 (by decide) (fun c9 => absurd rfl c9) (fun c9 => ?_)
      refine lv_iconst (v := 1) hx hb dL_act_616 (by decide) ?_
      refine lv_goto (tgt := 621) hx hb dL_act_617 (by decide) ?_
      refine W.widen (k := 20) (n := 70) (Nat.le_of_ble_eq_true rfl) (Nat.le_of_ble_eq_true rfl) ?_
      exact g_zret C hrt rfl S.1 S.2.1 S.2.2 dL_act_621 ⟨rfl, z, ra_s (ra_s u 2 k ((u.1 2 k) + (nI j2))) 3 k ((u.1 3 k) + 1), rB_work B hT1 hk (Int32.not_lt.mpr c3) (by omega), rfl⟩
  · refine lv_iconst (v := 1) hx hb dL_act_547 (by decide) ?_
    refine W.widen (k := 20) (n := 70) (Nat.le_of_ble_eq_true rfl) (Nat.le_of_ble_eq_true rfl) ?_
    exact g_zret C hrt rfl S.1 S.2.1 S.2.2 dL_act_548 ⟨rfl, z, u, B.up hT1, rfl⟩
set_option maxHeartbeats 4000000 in
set_option maxRecDepth 100000 in
theorem act_pay {p : Program} {l : Launch} {e : Env} {s : State} {m : MethodId} {args : Array Value} {below : List Frame} {meth : Method} {c : Code} {D : va_G} {t : Nat → Nat} {A : Nat → Prop} {H : Heap} {locs : List Loc} {ls : Array Slot} {cI cR cB : ClassId} {o ob T : Nat} {ad : Nat → Nat} {x : Int32} {z : SA} {u : S0}  (C : gC p s m args meth c cL_act 15 RL D (ty3 cI cR cB) t A) (hrt : meth.sig.returnType = some .boolean) (B : rB T u) (hT1 : T + 1 ≤ 400)  (S : sS D A s cI cR o z u (ra_w cI ob ad u) H locs) (hl : lv_has ls 15 [(0, .ref ob), (1, .ref o), (2, .int x), (3, .int (nI u.2.1))]) : W p l e (rm_ 7 20 70 156) s m args below meth c H locs 0 0 (MQ below (va_Qi (fun r w' => r = 1 ∧ ∃ (z' : SA) (u' : S0), rB (T + 1) u' ∧ w' = rs_w cI cR o z' u' ++ ra_w cI ob ad u') (fun w' U => gQ D A w' U) A) args s 20 70 A) (F0 m 491 ls []) := by
  have hx := C.1
  have hb := C.2.1
  have hown := C.2.2.2.1
  have hts := C.2.2.2.2.1
  have hu8 : u.2.1 ≤ 8 := B.1
  refine lv_iload_n hx hb dL_act_491 rfl (lv_at hl 2 rfl) ?_
  refine lv_iconst (v := 2) hx hb dL_act_492 (by decide) ?_
  refine m_ci (wa := []) (wb := []) (wd := rs_w cI cR o z u ++ (ra_w cI ob ad u)) (cells' := 0) (slots' := 0) rfl rfl C S.1 S.2.1 S.2.2 (fun hPb hDb => g_runS (wr := (rs_w cI cR o z u ++ (ra_w cI ob ad u)) ++ []) (n := 2) (As := [.int x, .int 2]) C (mL_below l D t cI cR cB H.size x 2 (by decide) (by decide)) (rw_S q41 q42 q25 q43) kd_L_below ⟨Nat.le_of_ble_eq_true rfl, Nat.le_of_ble_eq_true rfl⟩ C.2.2.2.2.2.1 hPb hDb S.2.2 hl.1 rfl rfl (Nat.le_of_ble_eq_true rfl) dL_act_493 ⟨Nat.le_of_ble_eq_true rfl, Nat.le_of_ble_eq_true rfl⟩) (fun v w' H locs hv _ hP9 hD9 hS9 => ?_)
  obtain ⟨⟨j1, hj1, rfl⟩, rfl⟩ := hv
  have S : sS D A s cI cR o z u (ra_w cI ob ad u) H locs := ⟨hP9, hD9, hS9⟩
  refine lv_if_ne (tgt := 501) hx hb dL_act_496 (by decide) (fun c2 => ?_) (fun c2 => ?_)
  · refine lv_aload_n hx hb dL_act_501 rfl (lv_at hl 0 rfl) ?_
    refine m_ci (wa := rs_w cI cR o z u) (wb := ra_w cI ob ad u) (wd := []) (cells' := 0) (slots' := 0) rfl rfl C S.1 S.2.1 S.2.2 (fun hPb hDb => g_runV (wr := ([]) ++ rs_w cI cR o z u) (n := 0) (As := []) C (mX0_pay l D t cI ob ad H.size u hu8) (rw_V q106 q107 q108 q2 q109) kd_X0_pay ⟨Nat.le_of_ble_eq_true rfl, Nat.le_of_ble_eq_true rfl⟩ (ci := 0) rfl rfl rfl (C.2.2.2.2.2.1.sub (tys' := [(cI, .int)]) [0] rfl) hPb hDb S.2.2 hl.1 rfl rfl (Nat.le_of_ble_eq_true rfl) dL_act_502 ⟨Nat.le_of_ble_eq_true rfl, Nat.le_of_ble_eq_true rfl⟩) (fun v w' H locs hv _ hP9 hD9 hS9 => ?_)
    obtain ⟨rfl, rfl⟩ := hv
    have S : sS D A s cI cR o z u (ra_w cI ob ad ((rf_py u u.2.1).2.1, (rf_py u u.2.1).2.2.1, (rf_py u u.2.1).2.2.2 + 1)) H locs := ⟨hP9, hD9, hS9⟩
    refine lv_aload_n hx hb dL_act_505 rfl (lv_at hl 1 rfl) ?_
    refine m_ci (wa := []) (wb := rs_w cI cR o z u) (wd := ra_w cI ob ad ((rf_py u u.2.1).2.1, (rf_py u u.2.1).2.2.1, (rf_py u u.2.1).2.2.2 + 1)) (cells' := 17) (slots' := 56) rfl rfl C S.1 S.2.1 S.2.2 (fun hPb hDb => g_runVj (n := 0) (As := []) C (mX2_pay l D t cI cR cB o z H.size u T B hT1) (rw_V q155 q156 q157 q29 q158) kd_X2_pay ⟨Nat.le_of_ble_eq_true rfl, Nat.le_of_ble_eq_true rfl⟩ (ci := 2) rfl rfl 0 rfl C.2.2.2.2.2.1 hPb hDb S.2.2 hl.1 rfl rfl (Nat.le_of_ble_eq_true rfl) dL_act_506 ⟨Nat.le_of_ble_eq_true rfl, Nat.le_of_ble_eq_true rfl⟩) (fun v w' H locs hv _ hP9 hD9 hS9 => ?_)
    obtain ⟨rfl, h9, r9, g9, -, rfl⟩ := hv
    have S : sS D A s cI cR o (z.1, z.2.1, some h9) (rf_pay u) (ra_w cI ob ad ((rf_py u u.2.1).2.1, (rf_py u u.2.1).2.2.1, (rf_py u u.2.1).2.2.2 + 1)) H locs := by
      have S9 : sS D A s cI cR o (z.1, z.2.1, some h9) (rf_pay u) (hw_w cI cB h9 u.2.1 r9 g9 ++ (ra_w cI ob ad ((rf_py u u.2.1).2.1, (rf_py u u.2.1).2.2.1, (rf_py u u.2.1).2.2.2 + 1))) H locs := by rw [List.append_assoc] at hP9 hD9; exact ⟨hP9, hD9, hS9⟩
      exact S9.swap.drop
    rw [pay_eq B] at S
    refine lv_icmp_ne (tgt := 516) hx hb dL_act_509 (by decide) (fun c3 => absurd rfl c3) (fun c3 => ?_)
    refine lv_iconst (v := 1) hx hb dL_act_512 (by decide) ?_
    refine lv_goto (tgt := 517) hx hb dL_act_513 (by decide) ?_
    refine W.widen (k := 20) (n := 70) (Nat.le_of_ble_eq_true rfl) (Nat.le_of_ble_eq_true rfl) ?_
    exact g_zret C hrt rfl S.1 S.2.1 S.2.2 dL_act_517 ⟨rfl, (z.1, z.2.1, some h9), (rf_pay u), rB_pay B hT1, rfl⟩
  · refine lv_iconst (v := 1) hx hb dL_act_499 (by decide) ?_
    refine W.widen (k := 20) (n := 70) (Nat.le_of_ble_eq_true rfl) (Nat.le_of_ble_eq_true rfl) ?_
    exact g_zret C hrt rfl S.1 S.2.1 S.2.2 dL_act_500 ⟨rfl, z, u, B.up hT1, rfl⟩
set_option maxHeartbeats 4000000 in
set_option maxRecDepth 100000 in
theorem lpL_act {p : Program} {l : Launch} {e : Env} {s : State} {m : MethodId} {args : Array Value} {below : List Frame} {meth : Method} {c : Code} {Q : State → Prop} {D : va_G} {t : Nat → Nat} {A : Nat → Prop} {cI cR cB : ClassId} {o ob m9 : Nat} {ad : Nat → Nat} {x : Int32} {z : SA} {u : S0} (C : gC p s m args meth c cL_act 15 RL D (ty3 cI cR cB) t A) (hu8 : u.2.1 ≤ 8) (kk : ∀ (H : Heap) (locs : List Loc) (ls : Array Slot), sS D A s cI cR o z u (ra_w cI ob ad u ++ [(m9, .inl (cR, u.2.1 + 1, .inr (.inr (.inr (.inr (fun k => if k < u.2.1 then some (z.2.1 k) else none))))))]) H locs → lv_has ls 15 [(0, .ref ob), (1, .ref o), (2, .int x), (3, .int (nI u.2.1)), (6, .ref m9), (7, .int (nI u.2.1))] → W p l e (rm_ 7 20 70 156) s m args below meth c H locs 1 9 Q (F0 m 151 ls [])) :
    ∀ (n i : Nat), i + n = u.2.1 → ∀ (H : Heap) (locs : List Loc) (ls : Array Slot), sS D A s cI cR o z u (ra_w cI ob ad u ++ [(m9, .inl (cR, u.2.1 + 1, .inr (.inr (.inr (.inr (fun k => if k < i then some (z.2.1 k) else none))))))]) H locs → lv_has ls 15 [(0, .ref ob), (1, .ref o), (2, .int x), (3, .int (nI u.2.1)), (6, .ref m9), (7, .int (nI i))] → W p l e (rm_ 7 20 70 156) s m args below meth c H locs 1 9 Q (F0 m 127 ls []) := by
  have hx := C.1
  have hb := C.2.1
  have hown := C.2.2.2.1
  have hts := C.2.2.2.2.1
  intro n
  induction n with
  | zero =>
    intro i hi H locs ls S hl
    have hiN : i = u.2.1 := by omega
    refine lv_iload hx hb dL_act_127 (lv_at hl 5 rfl) ?_
    refine lv_iload_n hx hb dL_act_129 rfl (lv_at hl 3 rfl) ?_
    refine lv_icmp_ge (tgt := 151) hx hb dL_act_130 (by decide) (fun c1 => ?_) (fun c1 => absurd ((nI_leI (a := u.2.1) (b := i) (by omega) (by omega)).mpr (by omega)) c1)
    rw [hiN] at S hl
    exact kk _ _ _ S (lv_sub hl [0, 1, 2, 3, 4, 5] rfl)
  | succ n ih =>
    intro i hi H locs ls S hl
    have hin : i < u.2.1 := by omega
    refine lv_iload hx hb dL_act_127 (lv_at hl 5 rfl) ?_
    refine lv_iload_n hx hb dL_act_129 rfl (lv_at hl 3 rfl) ?_
    refine lv_icmp_ge (tgt := 151) hx hb dL_act_130 (by decide) (fun c1 => absurd c1 (fun h9 => absurd ((nI_leI (a := u.2.1) (b := i) (by omega) (by omega)).mp h9) (by omega))) (fun c1 => ?_)
    refine lv_aload hx hb dL_act_133 (lv_at hl 4 rfl) ?_
    refine lv_iload hx hb dL_act_135 (lv_at hl 5 rfl) ?_
    refine lv_aload_n hx hb dL_act_137 rfl (lv_at hl 1 rfl) ?_
    refine s_gf C S 3 (by decide) (v := .ref (z.1 2)) rfl rfl q48 dL_act_138 ?_
    refine lv_iload hx hb dL_act_141 (lv_at hl 5 rfl) ?_
    refine s_al C S hu8 hin rfl dL_act_143 ?_
    refine x_ast C S 13 (4 + i) (n := u.2.1 + 1) (i := i) (f := fun k => if k < i then some (z.2.1 k) else none) rfl (rs_rpX hin) (by omega) (by omega) rfl dL_act_144 (fun H locs S => ?_)
    rw [hr_up rfl] at S
    have S : sS D A s cI cR o z u (ra_w cI ob ad u ++ [(m9, .inl (cR, u.2.1 + 1, .inr (.inr (.inr (.inr (fun k => if k < (i + 1) then some (z.2.1 k) else none))))))]) H locs := S
    refine lv_iinc (v := nI (i + 1)) (lv' := [(7, .int (nI (i + 1))), (0, .ref ob), (1, .ref o), (2, .int x), (3, .int (nI u.2.1)), (6, .ref m9)]) hx hb dL_act_145 hl (k := 5) rfl (nI_1 _) (by decide) rfl (fun ls hl => ?_)
    refine lv_goto (tgt := 127) hx hb dL_act_148 (by decide) ?_
    exact ih (i + 1) (by omega) _ _ _ S (lv_sub hl [1, 2, 3, 4, 5, 0] rfl)
set_option maxHeartbeats 4000000 in
set_option maxRecDepth 100000 in
theorem act_hire {p : Program} {l : Launch} {e : Env} {s : State} {m : MethodId} {args : Array Value} {below : List Frame} {meth : Method} {c : Code} {D : va_G} {t : Nat → Nat} {A : Nat → Prop} {H : Heap} {locs : List Loc} {ls : Array Slot} {cI cR cB : ClassId} {o ob T : Nat} {ad : Nat → Nat} {x : Int32} {z : SA} {u : S0}  (C : gC p s m args meth c cL_act 15 RL D (ty3 cI cR cB) t A) (hrt : meth.sig.returnType = some .boolean) (B : rB T u) (hT1 : T + 1 ≤ 400)  (S : sS D A s cI cR o z u (ra_w cI ob ad u) H locs) (hl : lv_has ls 15 [(0, .ref ob), (1, .ref o), (2, .int x), (3, .int (nI u.2.1))]) : W p l e (rm_ 7 20 70 156) s m args below meth c H locs 0 0 (MQ below (va_Qi (fun r w' => r = 1 ∧ ∃ (z' : SA) (u' : S0), rB (T + 1) u' ∧ w' = rs_w cI cR o z' u' ++ ra_w cI ob ad u') (fun w' U => gQ D A w' U) A) args s 20 70 A) (F0 m 108 ls []) := by
  have hx := C.1
  have hb := C.2.1
  have hown := C.2.2.2.1
  have hts := C.2.2.2.2.1
  have hu8 : u.2.1 ≤ 8 := B.1
  refine lv_iload_n hx hb dL_act_108 rfl (lv_at hl 3 rfl) ?_
  refine lv_bipush (v := 8) hx hb dL_act_109 (by decide) ?_
  refine lv_icmp_ne (tgt := 116) hx hb dL_act_111 (by decide) (fun c1 => ?_) (fun c1 => ?_)
  · have h8 : u.2.1 < 8 := hr_8 hu8 c1
    refine lv_iload_n hx hb dL_act_116 rfl (lv_at hl 3 rfl) ?_
    refine lv_iconst (v := 1) hx hb dL_act_117 (by decide) ?_
    refine lv_iadd hx hb dL_act_118 ?_
    refine g_top (nI_add u.2.1 1) ?_
    refine x_anw C S (N := u.2.1 + 1) rfl (by omega) q49 (C.2.2.2.2.2.2.2.1.2.2.2.2.2.2.2.2.2.1) (cells' := 0 + 1) (slots' := 0 + (u.2.1 + 1)) rfl rfl (Nat.le_of_ble_eq_true rfl) (show 0 + (u.2.1 + 1) ≤ 70 by omega) dL_act_119 (fun m9 H S => ?_)
    refine W.widen (k := 1) (n := 9) (by omega) (by omega) ?_
    refine lv_astore (lv' := [(6, .ref m9), (0, .ref ob), (1, .ref o), (2, .int x), (3, .int (nI u.2.1))]) hx hb dL_act_122 hl (by decide) rfl (fun ls hl => ?_)
    refine lv_iconst (v := 0) hx hb dL_act_124 (by decide) ?_
    refine lv_istore (lv' := [(7, .int 0), (6, .ref m9), (0, .ref ob), (1, .ref o), (2, .int x), (3, .int (nI u.2.1))]) hx hb dL_act_125 hl (by decide) rfl (fun ls hl => ?_)
    have S : sS D A s cI cR o z u (ra_w cI ob ad u ++ [(m9, .inl (cR, u.2.1 + 1, .inr (.inr (.inr (.inr (fun k => if k < 0 then some (z.2.1 k) else none))))))]) H locs := by
      have e : (fun k : Nat => if k < 0 then some (z.2.1 k) else none) = fun _ => (none : Option Nat) := funext fun k => if_neg (Nat.not_lt_zero k)
      rw [e]; exact S
    refine lpL_act C hu8 (fun H locs ls S hl => ?_) u.2.1 0 (by omega) _ _ _ S (lv_sub hl [2, 3, 4, 5, 1, 0] rfl)
    refine lv_aload hx hb dL_act_151 (lv_at hl 4 rfl) ?_
    refine lv_iload_n hx hb dL_act_153 rfl (lv_at hl 3 rfl) ?_
    refine x_new1 C S q49 q50 q51 (cells' := 2) (slots' := 16) rfl rfl (Nat.le_of_ble_eq_true rfl) (Nat.le_of_ble_eq_true rfl) dL_act_154 (fun q9 H S => ?_)
    refine lv_dup hx hb dL_act_157 rfl ?_
    have S0 : sS D A s cI cR o z u ((ra_w cI ob ad u ++ [(m9, .inl (cR, u.2.1 + 1, .inr (.inr (.inr (.inr (fun k => if k < u.2.1 then some (z.2.1 k) else none))))))]) ++ [(q9, .inr (1, [.int 0, .int 0, .int 0, .int 0, .int 0, .int 0, .int 0]))]) H locs := S
    refine m_cv (wa := rs_w cI cR o z u ++ (ra_w cI ob ad u ++ [(m9, .inl (cR, u.2.1 + 1, .inr (.inr (.inr (.inr (fun k => if k < u.2.1 then some (z.2.1 k) else none))))))])) (wb := [(q9, .inr (1, [.int 0, .int 0, .int 0, .int 0, .int 0, .int 0, .int 0]))]) (wd := []) (cells' := 2) (slots' := 16) rfl rfl C (by rw [List.append_assoc]; exact S0.1) (by rw [List.append_assoc]; exact S0.2.1) S.2.2 (fun hPb hDb => g_runIN (n := 0) (As := []) C (mX1_init l D t cI cR cB q9 H.size _) q60 q51 (C.2.2.2.2.2.2.2.1.2.2.2.2.2.2.2.1) q59 rfl kd_X1_init ⟨Nat.le_of_ble_eq_true rfl, Nat.le_of_ble_eq_true rfl⟩ C.2.2.2.2.2.1 hPb hDb S.2.2 hl.1 rfl rfl (Nat.le_of_ble_eq_true rfl) dL_act_158 ⟨Nat.le_of_ble_eq_true rfl, Nat.le_of_ble_eq_true rfl⟩) (fun w' H locs hv _ hP9 hD9 hS9 => ?_)
    subst hv
    have S : sS D A s cI cR o z u (ra_w cI ob ad u ++ [(m9, .inl (cR, u.2.1 + 1, .inr (.inr (.inr (.inr (fun k => if k < u.2.1 then some (z.2.1 k) else none)))))), (q9, .inr (1, [.int 0, .int 0, .int 0, .int 0, .int 0, .int 0, .int 0]))]) H locs := by
      rw [List.append_assoc] at hP9 hD9
      exact ⟨hP9, hD9, hS9⟩
    refine x_ast C S 13 ((rs_w cI cR o z u).length + 14) (n := u.2.1 + 1) (i := u.2.1) (f := fun k => if k < u.2.1 then some (z.2.1 k) else none) (v := q9) (vs := [.int 0, .int 0, .int 0, .int 0, .int 0, .int 0, .int 0]) rfl (rs_xp rfl) (by omega) (by omega) rfl dL_act_161 (fun H locs S => ?_)
    rw [hr_up2] at S
    have S : sS D A s cI cR o z u (ra_w cI ob ad u ++ hr_X cR u.2.1 z m9 q9 0) H locs := S
    refine lv_aload hx hb dL_act_162 (lv_at hl 4 rfl) ?_
    refine lv_iload_n hx hb dL_act_164 rfl (lv_at hl 3 rfl) ?_
    refine x_aldv C S 13 (n := u.2.1 + 1) (i := u.2.1) rfl (by omega) (by omega) rfl (v := q9) (by simp) dL_act_165 ?_
    refine lv_iload_n hx hb dL_act_166 rfl (lv_at hl 2 rfl) ?_
    refine lv_iconst (v := 1) hx hb dL_act_167 (by decide) ?_
    refine lv_ishr hx hb dL_act_168 ?_
    refine lv_iconst (v := 3) hx hb dL_act_169 (by decide) ?_
    refine m_ci (wa := []) (wb := []) (wd := rs_w cI cR o z u ++ (ra_w cI ob ad u ++ hr_X cR u.2.1 z m9 q9 0)) (cells' := 2) (slots' := 16) rfl rfl C S.1 S.2.1 S.2.2 (fun hPb hDb => g_runS (wr := (rs_w cI cR o z u ++ (ra_w cI ob ad u ++ hr_X cR u.2.1 z m9 q9 0)) ++ []) (n := 2) (As := [.int (x >>> (1 &&& 31)), .int 3]) C (mL_below l D t cI cR cB H.size (x >>> (1 &&& 31)) 3 (by decide) (by decide)) (rw_S q41 q42 q25 q43) kd_L_below ⟨Nat.le_of_ble_eq_true rfl, Nat.le_of_ble_eq_true rfl⟩ C.2.2.2.2.2.1 hPb hDb S.2.2 hl.1 rfl rfl (Nat.le_of_ble_eq_true rfl) dL_act_170 ⟨Nat.le_of_ble_eq_true rfl, Nat.le_of_ble_eq_true rfl⟩) (fun v w' H locs hv _ hP9 hD9 hS9 => ?_)
    obtain ⟨⟨j2, hj2, rfl⟩, rfl⟩ := hv
    have S : sS D A s cI cR o z u (ra_w cI ob ad u ++ hr_X cR u.2.1 z m9 q9 0) H locs := ⟨hP9, hD9, hS9⟩
    refine x_p1 C S 14 0 (by decide) (fs := [.int 0, .int 0, .int 0, .int 0, .int 0, .int 0, .int 0]) rfl rfl rfl (by decide +kernel) (Nat.le_of_ble_eq_true rfl) q52 dL_act_173 (fun H locs S => ?_)
    have S : sS D A s cI cR o z u (ra_w cI ob ad u ++ hr_X cR u.2.1 z m9 q9 (nI j2)) H locs := S
    refine lv_aload_n hx hb dL_act_176 rfl (lv_at hl 1 rfl) ?_
    refine lv_aload hx hb dL_act_177 (lv_at hl 4 rfl) ?_
    refine s_ph C B h8 S q48 dL_act_179 (fun H locs S => ?_)
    refine lv_aload_n hx hb dL_act_182 rfl (lv_at hl 0 rfl) ?_
    refine lv_aload hx hb dL_act_183 (lv_at hl 4 rfl) ?_
    refine lv_iload_n hx hb dL_act_185 rfl (lv_at hl 3 rfl) ?_
    refine s_al C S (show u.2.1 + 1 ≤ 8 from h8) (show u.2.1 < u.2.1 + 1 by omega) rfl dL_act_186 ?_
    refine r_gf C S 0 u.2.1 (by decide) (show u.2.1 < u.2.1 + 1 by omega) (v := .int ((ra_s u 0 u.2.1 (nI j2)).1 0 u.2.1)) rfl rfl q52 dL_act_187 ?_
    refine g_top (y := nI j2) ra_sS ?_
    refine m_ci (wa := rs_w cI cR o (fun k => if k = 2 then m9 else z.1 k, fun k => if k = u.2.1 then q9 else z.2.1 k, z.2.2) ((ra_s u 0 u.2.1 (nI j2)).1, u.2.1 + 1, u.2.2)) (wb := ra_w cI ob ad u) (wd := []) (cells' := 2) (slots' := 16) rfl rfl C S.1 S.2.1 S.2.2 (fun hPb hDb => g_runV (wr := ([]) ++ rs_w cI cR o (fun k => if k = 2 then m9 else z.1 k, fun k => if k = u.2.1 then q9 else z.2.1 k, z.2.2) ((ra_s u 0 u.2.1 (nI j2)).1, u.2.1 + 1, u.2.2)) (n := 1) (As := [.int (nI j2)]) C (mX0_hire l D t cI ob ad H.size u (nI j2) (nI_pos (by omega)) (nI_le (b := 2) (by omega) (by omega)) h8) (rw_V q62 q63 q64 q2 q65) kd_X0_hire ⟨Nat.le_of_ble_eq_true rfl, Nat.le_of_ble_eq_true rfl⟩ (ci := 0) rfl rfl rfl (C.2.2.2.2.2.1.sub (tys' := [(cI, .int)]) [0] rfl) hPb hDb S.2.2 hl.1 rfl rfl (Nat.le_of_ble_eq_true rfl) dL_act_190 ⟨Nat.le_of_ble_eq_true rfl, Nat.le_of_ble_eq_true rfl⟩) (fun v w' H locs hv _ hP9 hD9 hS9 => ?_)
    obtain ⟨rfl, rfl⟩ := hv
    have S : sS D A s cI cR o (fun k => if k = 2 then m9 else z.1 k, fun k => if k = u.2.1 then q9 else z.2.1 k, z.2.2) ((ra_s u 0 u.2.1 (nI j2)).1, u.2.1 + 1, u.2.2) (ra_w cI ob ad ((ra_s u 0 u.2.1 (nI j2)).1, u.2.1 + 1, u.2.2)) H locs := ⟨hP9, hD9, hS9⟩
    refine lv_iload_n hx hb dL_act_193 rfl (lv_at hl 3 rfl) ?_
    refine lv_icmp_ne (tgt := 201) hx hb dL_act_194 (by decide) (fun c3 => absurd rfl c3) (fun c3 => ?_)
    refine lv_iconst (v := 1) hx hb dL_act_197 (by decide) ?_
    refine lv_goto (tgt := 202) hx hb dL_act_198 (by decide) ?_
    refine W.widen (k := 20) (n := 70) (Nat.le_of_ble_eq_true rfl) (Nat.le_of_ble_eq_true rfl) ?_
    exact g_zret C hrt rfl S.1 S.2.1 S.2.2 dL_act_202 ⟨rfl, (fun k => if k = 2 then m9 else z.1 k, fun k => if k = u.2.1 then q9 else z.2.1 k, z.2.2), ((ra_s u 0 u.2.1 (nI j2)).1, u.2.1 + 1, u.2.2), rB_hire B hT1 h8 (by omega), rfl⟩
  · refine lv_iconst (v := 1) hx hb dL_act_114 (by decide) ?_
    refine W.widen (k := 20) (n := 70) (Nat.le_of_ble_eq_true rfl) (Nat.le_of_ble_eq_true rfl) ?_
    exact g_zret C hrt rfl S.1 S.2.1 S.2.2 dL_act_115 ⟨rfl, z, u, B.up hT1, rfl⟩
set_option maxHeartbeats 4000000 in
set_option maxRecDepth 100000 in
theorem mL_act (l : Launch) (D : va_G) (t : Nat → Nat) (cI cR cB : ClassId) (o ob : Nat) (ad : Nat → Nat) (z : SA) (sz : Nat) (u : S0) (T : Nat) (B : rB T u) (hT1 : T + 1 ≤ 400) (x : Int32) : gMi l yL_act (rw_ yL_act cL_act 15 (some .boolean)) (rm_ 7 20 70 156) [.ref ob, .ref o, .int x] D (ty3 cI cR cB) t (rs_w cI cR o z u ++ ra_w cI ob ad u) sz (fun r w' => r = 1 ∧ ∃ (z' : SA) (u' : S0), rB (T + 1) u' ∧ w' = rs_w cI cR o z' u' ++ ra_w cI ob ad u') := by
  refine g_of (cc := cL_act) (nL := 15) (rt := (some .boolean)) (Q := fun A => va_Qi _ (fun w' U => gQ D A w' U) A) (by decide) (Nat.le_of_ble_eq_true rfl) (fun p e s m args below meth c A ls H C hrt hnm hS hP hD hl => ?_)
  have hx := C.1
  have hb := C.2.1
  have hown := C.2.2.2.1
  have hts := C.2.2.2.2.1
  have hu8 : u.2.1 ≤ 8 := B.1
  have hl : lv_has ls 15 [(0, .ref ob), (1, .ref o), (2, .int x)] := hl
  have S : sS D A s cI cR o z u (ra_w cI ob ad u) H [] := ⟨hP, hD, hS⟩
  obtain ⟨locs, elocs⟩ : ∃ z : List Loc, z = [] := ⟨_, rfl⟩
  rw [← elocs] at S ⊢
  by_cases hn : u.2.1 = 0
  · refine lv_aload_n hx hb dL_act_0 rfl (lv_at hl 1 rfl) ?_
    refine s_gf C S 3 (by decide) (v := .ref (z.1 2)) rfl rfl q48 dL_act_1 ?_
    refine s_an C S dL_act_4 ?_
    refine lv_istore_n (lv' := [(3, .int (nI u.2.1)), (0, .ref ob), (1, .ref o), (2, .int x)]) hx hb dL_act_5 rfl hl (by decide) rfl (fun ls hl => ?_)
    refine lv_iload_n hx hb dL_act_6 rfl (lv_at hl 0 rfl) ?_
    refine lv_if_ne (tgt := 14) hx hb dL_act_7 (by decide) (fun c1 => absurd ((nI_eq (a := u.2.1) (b := 0) (by omega) (by omega)).mpr (by omega)) c1) (fun c1 => ?_)
    refine lv_iconst (v := 0) hx hb dL_act_10 (by decide) ?_
    refine lv_goto (tgt := 21) hx hb dL_act_11 (by decide) ?_
    refine lv_istore (lv' := [(4, .int 0), (3, .int (nI u.2.1)), (0, .ref ob), (1, .ref o), (2, .int x)]) hx hb dL_act_21 hl (by decide) rfl (fun ls hl => ?_)
    refine lv_iload_n hx hb dL_act_23 rfl (lv_at hl 1 rfl) ?_
    refine lv_if_ne (tgt := 31) hx hb dL_act_24 (by decide) (fun c2 => absurd ((nI_eq (a := u.2.1) (b := 0) (by omega) (by omega)).mpr (by omega)) c2) (fun c2 => ?_)
    refine lv_null hx hb dL_act_27 ?_
    refine lv_goto (tgt := 38) hx hb dL_act_28 (by decide) ?_
    refine lv_astoreN (lv' := [(5, .null), (4, .int 0), (3, .int (nI u.2.1)), (0, .ref ob), (1, .ref o), (2, .int x)]) hx hb dL_act_38 hl (by decide) rfl (fun ls hl => ?_)
    refine lv_iload_n hx hb dL_act_40 rfl (lv_at hl 5 rfl) ?_
    refine lv_bipush (v := 9) hx hb dL_act_41 (by decide) ?_
    refine lv_ishr hx hb dL_act_43 ?_
    refine lv_bipush (v := 18) hx hb dL_act_44 (by decide) ?_
    refine m_ci (wa := []) (wb := []) (wd := rs_w cI cR o z u ++ (ra_w cI ob ad u)) (cells' := 0) (slots' := 0) rfl rfl C S.1 S.2.1 S.2.2 (fun hPb hDb => g_runS (wr := (rs_w cI cR o z u ++ (ra_w cI ob ad u)) ++ []) (n := 2) (As := [.int (x >>> (9 &&& 31)), .int 18]) C (mL_below l D t cI cR cB H.size (x >>> (9 &&& 31)) 18 (by decide) (by decide)) (rw_S q41 q42 q25 q43) kd_L_below ⟨Nat.le_of_ble_eq_true rfl, Nat.le_of_ble_eq_true rfl⟩ C.2.2.2.2.2.1 hPb hDb S.2.2 hl.1 rfl rfl (Nat.le_of_ble_eq_true rfl) dL_act_46 ⟨Nat.le_of_ble_eq_true rfl, Nat.le_of_ble_eq_true rfl⟩) (fun v w' H locs hv _ hP9 hD9 hS9 => ?_)
    obtain ⟨⟨j3, hj3, rfl⟩, rfl⟩ := hv
    have S : sS D A s cI cR o z u (ra_w cI ob ad u) H locs := ⟨hP9, hD9, hS9⟩
    rcases (show j3 = 0 ∨ j3 = 1 ∨ j3 = 2 ∨ j3 = 3 ∨ j3 = 4 ∨ j3 = 5 ∨ j3 = 6 ∨ j3 = 7 ∨ j3 = 8 ∨ j3 = 9 ∨ j3 = 10 ∨ 10 < j3 by omega) with rfl | rfl | rfl | rfl | rfl | rfl | rfl | rfl | rfl | rfl | rfl | hbig
    · refine lv_tableIn (off := 59) (tgt := 108) hx hb dL_act_49 (by decide) (by decide) rfl (by decide) ?_
      exact act_hire C hrt B hT1 S (lv_sub hl [3, 4, 5, 2] rfl)
    · refine lv_tableIn (off := 59) (tgt := 108) hx hb dL_act_49 (by decide) (by decide) rfl (by decide) ?_
      exact act_hire C hrt B hT1 S (lv_sub hl [3, 4, 5, 2] rfl)
    · refine lv_tableIn (off := 154) (tgt := 203) hx hb dL_act_49 (by decide) (by decide) rfl (by decide) ?_
      exact act_rate C hrt B hT1 S (lv_sub hl [3, 4, 5, 2] rfl)
    · refine lv_tableIn (off := 211) (tgt := 260) hx hb dL_act_49 (by decide) (by decide) rfl (by decide) ?_
      exact act_fill C hrt B hT1 S (lv_sub hl [3, 4, 5, 2] rfl)
    · refine lv_tableIn (off := 211) (tgt := 260) hx hb dL_act_49 (by decide) (by decide) rfl (by decide) ?_
      exact act_fill C hrt B hT1 S (lv_sub hl [3, 4, 5, 2] rfl)
    · refine lv_tableIn (off := 282) (tgt := 331) hx hb dL_act_49 (by decide) (by decide) rfl (by decide) ?_
      exact act_bind0 C hrt B hT1 hn S (lv_sub hl [3, 4, 5, 2] rfl)
    · refine lv_tableIn (off := 282) (tgt := 331) hx hb dL_act_49 (by decide) (by decide) rfl (by decide) ?_
      exact act_bind0 C hrt B hT1 hn S (lv_sub hl [3, 4, 5, 2] rfl)
    · refine lv_tableIn (off := 282) (tgt := 331) hx hb dL_act_49 (by decide) (by decide) rfl (by decide) ?_
      exact act_bind0 C hrt B hT1 hn S (lv_sub hl [3, 4, 5, 2] rfl)
    · refine lv_tableIn (off := 359) (tgt := 408) hx hb dL_act_49 (by decide) (by decide) rfl (by decide) ?_
      exact act_lend0 C hrt B hT1 hn S (lv_sub hl [3, 4, 5, 2] rfl)
    · refine lv_tableIn (off := 359) (tgt := 408) hx hb dL_act_49 (by decide) (by decide) rfl (by decide) ?_
      exact act_lend0 C hrt B hT1 hn S (lv_sub hl [3, 4, 5, 2] rfl)
    · refine lv_tableIn (off := 442) (tgt := 491) hx hb dL_act_49 (by decide) (by decide) rfl (by decide) ?_
      exact act_pay C hrt B hT1 S (lv_sub hl [3, 4, 5, 2] rfl)
    · refine lv_tableOut (tgt := 518) hx hb dL_act_49 (Or.inr (by rw [tI_nI (by omega)]; omega)) (by decide) ?_
      exact act_work0 C hrt B hT1 hn S (lv_sub hl [3, 4, 5, 2] rfl)
  · refine lv_aload_n hx hb dL_act_0 rfl (lv_at hl 1 rfl) ?_
    refine s_gf C S 3 (by decide) (v := .ref (z.1 2)) rfl rfl q48 dL_act_1 ?_
    refine s_an C S dL_act_4 ?_
    refine lv_istore_n (lv' := [(3, .int (nI u.2.1)), (0, .ref ob), (1, .ref o), (2, .int x)]) hx hb dL_act_5 rfl hl (by decide) rfl (fun ls hl => ?_)
    refine lv_iload_n hx hb dL_act_6 rfl (lv_at hl 0 rfl) ?_
    refine lv_if_ne (tgt := 14) hx hb dL_act_7 (by decide) (fun c1 => ?_) (fun c1 => absurd c1 (fun h9 => absurd ((nI_eq (a := u.2.1) (b := 0) (by omega) (by omega)).mp h9) (by omega)))
    refine lv_iload_n hx hb dL_act_14 rfl (lv_at hl 3 rfl) ?_
    refine lv_iconst (v := 1) hx hb dL_act_15 (by decide) ?_
    refine lv_ishr hx hb dL_act_16 ?_
    refine lv_iload_n hx hb dL_act_17 rfl (lv_at hl 0 rfl) ?_
    refine m_ci (wa := []) (wb := []) (wd := rs_w cI cR o z u ++ (ra_w cI ob ad u)) (cells' := 0) (slots' := 0) rfl rfl C S.1 S.2.1 S.2.2 (fun hPb hDb => g_runS (wr := (rs_w cI cR o z u ++ (ra_w cI ob ad u)) ++ []) (n := 2) (As := [.int (x >>> (1 &&& 31)), .int (nI u.2.1)]) C (mL_below l D t cI cR cB H.size (x >>> (1 &&& 31)) u.2.1 (by omega) (by omega)) (rw_S q41 q42 q25 q43) kd_L_below ⟨Nat.le_of_ble_eq_true rfl, Nat.le_of_ble_eq_true rfl⟩ C.2.2.2.2.2.1 hPb hDb S.2.2 hl.1 rfl rfl (Nat.le_of_ble_eq_true rfl) dL_act_18 ⟨Nat.le_of_ble_eq_true rfl, Nat.le_of_ble_eq_true rfl⟩) (fun v w' H locs hv _ hP9 hD9 hS9 => ?_)
    obtain ⟨⟨j2, hj2, rfl⟩, rfl⟩ := hv
    have S : sS D A s cI cR o z u (ra_w cI ob ad u) H locs := ⟨hP9, hD9, hS9⟩
    obtain ⟨k, ek⟩ : ∃ k, k = j2 := ⟨_, rfl⟩
    rw [← ek]
    have hk : k < u.2.1 := by omega
    refine lv_istore (lv' := [(4, .int (nI k)), (3, .int (nI u.2.1)), (0, .ref ob), (1, .ref o), (2, .int x)]) hx hb dL_act_21 hl (by decide) rfl (fun ls hl => ?_)
    refine lv_iload_n hx hb dL_act_23 rfl (lv_at hl 1 rfl) ?_
    refine lv_if_ne (tgt := 31) hx hb dL_act_24 (by decide) (fun c3 => ?_) (fun c3 => absurd c3 (fun h9 => absurd ((nI_eq (a := u.2.1) (b := 0) (by omega) (by omega)).mp h9) (by omega)))
    refine lv_aload_n hx hb dL_act_31 rfl (lv_at hl 3 rfl) ?_
    refine s_gf C S 3 (by decide) (v := .ref (z.1 2)) rfl rfl q48 dL_act_32 ?_
    refine lv_iload hx hb dL_act_35 (lv_at hl 0 rfl) ?_
    refine s_al C S hu8 hk rfl dL_act_37 ?_
    refine lv_astore (lv' := [(5, .ref (z.2.1 k)), (4, .int (nI k)), (3, .int (nI u.2.1)), (0, .ref ob), (1, .ref o), (2, .int x)]) hx hb dL_act_38 hl (by decide) rfl (fun ls hl => ?_)
    refine lv_iload_n hx hb dL_act_40 rfl (lv_at hl 5 rfl) ?_
    refine lv_bipush (v := 9) hx hb dL_act_41 (by decide) ?_
    refine lv_ishr hx hb dL_act_43 ?_
    refine lv_bipush (v := 18) hx hb dL_act_44 (by decide) ?_
    refine m_ci (wa := []) (wb := []) (wd := rs_w cI cR o z u ++ (ra_w cI ob ad u)) (cells' := 0) (slots' := 0) rfl rfl C S.1 S.2.1 S.2.2 (fun hPb hDb => g_runS (wr := (rs_w cI cR o z u ++ (ra_w cI ob ad u)) ++ []) (n := 2) (As := [.int (x >>> (9 &&& 31)), .int 18]) C (mL_below l D t cI cR cB H.size (x >>> (9 &&& 31)) 18 (by decide) (by decide)) (rw_S q41 q42 q25 q43) kd_L_below ⟨Nat.le_of_ble_eq_true rfl, Nat.le_of_ble_eq_true rfl⟩ C.2.2.2.2.2.1 hPb hDb S.2.2 hl.1 rfl rfl (Nat.le_of_ble_eq_true rfl) dL_act_46 ⟨Nat.le_of_ble_eq_true rfl, Nat.le_of_ble_eq_true rfl⟩) (fun v w' H locs hv _ hP9 hD9 hS9 => ?_)
    obtain ⟨⟨j4, hj4, rfl⟩, rfl⟩ := hv
    have S : sS D A s cI cR o z u (ra_w cI ob ad u) H locs := ⟨hP9, hD9, hS9⟩
    rcases (show j4 = 0 ∨ j4 = 1 ∨ j4 = 2 ∨ j4 = 3 ∨ j4 = 4 ∨ j4 = 5 ∨ j4 = 6 ∨ j4 = 7 ∨ j4 = 8 ∨ j4 = 9 ∨ j4 = 10 ∨ 10 < j4 by omega) with rfl | rfl | rfl | rfl | rfl | rfl | rfl | rfl | rfl | rfl | rfl | hbig
    · refine lv_tableIn (off := 59) (tgt := 108) hx hb dL_act_49 (by decide) (by decide) rfl (by decide) ?_
      exact act_hire C hrt B hT1 S (lv_sub hl [3, 4, 5, 2] rfl)
    · refine lv_tableIn (off := 59) (tgt := 108) hx hb dL_act_49 (by decide) (by decide) rfl (by decide) ?_
      exact act_hire C hrt B hT1 S (lv_sub hl [3, 4, 5, 2] rfl)
    · refine lv_tableIn (off := 154) (tgt := 203) hx hb dL_act_49 (by decide) (by decide) rfl (by decide) ?_
      exact act_rate C hrt B hT1 S (lv_sub hl [3, 4, 5, 2] rfl)
    · refine lv_tableIn (off := 211) (tgt := 260) hx hb dL_act_49 (by decide) (by decide) rfl (by decide) ?_
      exact act_fill C hrt B hT1 S (lv_sub hl [3, 4, 5, 2] rfl)
    · refine lv_tableIn (off := 211) (tgt := 260) hx hb dL_act_49 (by decide) (by decide) rfl (by decide) ?_
      exact act_fill C hrt B hT1 S (lv_sub hl [3, 4, 5, 2] rfl)
    · refine lv_tableIn (off := 282) (tgt := 331) hx hb dL_act_49 (by decide) (by decide) rfl (by decide) ?_
      exact act_bind C hrt B hT1 hk S (lv_sub hl [3, 4, 5, 2, 1, 0] rfl)
    · refine lv_tableIn (off := 282) (tgt := 331) hx hb dL_act_49 (by decide) (by decide) rfl (by decide) ?_
      exact act_bind C hrt B hT1 hk S (lv_sub hl [3, 4, 5, 2, 1, 0] rfl)
    · refine lv_tableIn (off := 282) (tgt := 331) hx hb dL_act_49 (by decide) (by decide) rfl (by decide) ?_
      exact act_bind C hrt B hT1 hk S (lv_sub hl [3, 4, 5, 2, 1, 0] rfl)
    · refine lv_tableIn (off := 359) (tgt := 408) hx hb dL_act_49 (by decide) (by decide) rfl (by decide) ?_
      exact act_lend C hrt B hT1 hk S (lv_sub hl [3, 4, 5, 2, 1, 0] rfl)
    · refine lv_tableIn (off := 359) (tgt := 408) hx hb dL_act_49 (by decide) (by decide) rfl (by decide) ?_
      exact act_lend C hrt B hT1 hk S (lv_sub hl [3, 4, 5, 2, 1, 0] rfl)
    · refine lv_tableIn (off := 442) (tgt := 491) hx hb dL_act_49 (by decide) (by decide) rfl (by decide) ?_
      exact act_pay C hrt B hT1 S (lv_sub hl [3, 4, 5, 2] rfl)
    · refine lv_tableOut (tgt := 518) hx hb dL_act_49 (Or.inr (by rw [tI_nI (by omega)]; omega)) (by decide) ?_
      exact act_work C hrt B hT1 hk S (lv_sub hl [3, 4, 5, 2, 1, 0] rfl)
