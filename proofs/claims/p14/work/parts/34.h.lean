section LAWD
variable {p : Program} {l : Launch} {e : Env} {R : Room} {s : State} {m : MethodId} {args : Array Value} {below : List Frame} {meth : Method} {c : Code} {H : Heap} {locs : List Loc} {cells slots : Nat} {Q : State → Prop}
variable {cc : ByteArray} {nL pc : Nat} {ls : Array Slot} {own : String} {D : va_G} {t : Nat → Nat} {A : Nat → Prop}
variable {y : MethodName} {bytes : ByteArray} {maxL n idx : Nat} {ret : Option FieldType} {F mc ms LO : Nat} {As rest st0 : List Value}
variable {cI cL : ClassId} {o o2 q : Nat} {ad : Nat → Nat} {u : S0} {v : S1} {f : Nat → Int64} {d0 : Drawn}
theorem g_lawXD {P : S0 → Prop} {post : UInt64 → va_W → Prop} (hd0 : s.drawn.sameBut d0 lw_cs) (C : gC p s m args meth c cc nL own D (lT cI cL) t A) (X : lS D A s cI cL o ad u o2 v q f H locs)
    (hM : gMD l y (rw_ y bytes maxL ret) (rm_ F mc ms LO) (.ref o :: As) D [(cI, .int)] t (ra_w cI o ad u) H.size post) (hpost : ∀ r w', post r w' → ∃ u', P u' ∧ w' = ra_w cI o ad u') (hG : GoodIn wsL_law (wsV own idx y.cls y (rw_ y bytes maxL ret)))
    (hd : y.cls = y.cls ∧ y.cls ≠ "java/lang/invoke/MethodHandle" ∧ y.cls ≠ "java/lang/invoke/VarHandle" ∧ (parseMethodDescriptor y.desc).map (fun d => d.parameters.length) = some n) (hc0 : RX0 = y.cls) (hR : F + 1 ≤ R.frames ∧ 8 + (maxL + 11) + LO ≤ R.locals)
    (hl : ls.size = nL) (hn : As.length = n) (hst : st0 = As.reverse ++ .ref o :: rest) (hrest : (rest.map fun v => v.category).sum ≤ 8) (hdg : decode cc pc = .ok (.invokevirtual idx, 3)) (hf : cells + mc ≤ R.cells ∧ slots + ms ≤ R.slots)
    (kk : ∀ (r : UInt64) (u' : S0) (H1 : Heap) (locs1 : List Loc) (d1 : Drawn), s.drawn.sameBut d1 lw_cs → P u' → lS D A s cI cL o ad u' o2 v q f H1 locs1 → W p l e R (s.setDrawn d1) m args below meth c H1 locs1 (cells + mc) (slots + ms) Q (F0 m (pc + 3) ls (.double r :: rest))) : W p l e R (s.setDrawn d0) m args below meth c H locs cells slots Q (F0 m pc ls st0) := by
  obtain ⟨hx, hr, ho, hD, hS⟩ := X
  have hD1 := rd_swap hD
  have Cd := gC_dr C d0
  refine g_cD (wr := rb_w cI o2 v ++ lo_w cL q f) rfl rfl hd0 C (va_P.app hr ho) hD1 hS (g_runVD (wr := rb_w cI o2 v ++ lo_w cL q f) Cd hM hG hd hR (ci := 0) rfl hc0 rfl (Cd.2.2.2.2.2.1.sub (tys' := [(cI, .int)]) [0] rfl) hx hD1 hS hl hn hst hrest hdg hf) (fun r w' H1 locs1 d1 hd1 hv hw0 hw hD hS => ?_)
  obtain ⟨u', hp, rfl⟩ := hpost _ _ hv
  exact kk r u' H1 locs1 d1 hd1 hp ⟨hw, hw0.sub (ws' := rb_w cI o2 v) [0, 1, 2, 3, 4] rfl, hw0.sub (ws' := lo_w cL q f) [5] rfl, rd_swap hD, hS⟩
theorem g_lawRD {P : S1 → Prop} {post : UInt64 → va_W → Prop} (hd0 : s.drawn.sameBut d0 lw_cs) (C : gC p s m args meth c cc nL own D (lT cI cL) t A) (X : lS D A s cI cL o ad u o2 v q f H locs)
    (hM : gMD l y (rw_ y bytes maxL ret) (rm_ F mc ms LO) (.ref o2 :: As) D [(cI, .int)] t (rb_w cI o2 v) H.size post) (hpost : ∀ r w', post r w' → ∃ v', P v' ∧ w' = rb_w cI o2 v') (hG : GoodIn wsL_law (wsV own idx y.cls y (rw_ y bytes maxL ret)))
    (hd : y.cls = y.cls ∧ y.cls ≠ "java/lang/invoke/MethodHandle" ∧ y.cls ≠ "java/lang/invoke/VarHandle" ∧ (parseMethodDescriptor y.desc).map (fun d => d.parameters.length) = some n) (hc0 : RX1 = y.cls) (hR : F + 1 ≤ R.frames ∧ 8 + (maxL + 11) + LO ≤ R.locals)
    (hl : ls.size = nL) (hn : As.length = n) (hst : st0 = As.reverse ++ .ref o2 :: rest) (hrest : (rest.map fun v => v.category).sum ≤ 8) (hdg : decode cc pc = .ok (.invokevirtual idx, 3)) (hf : cells + mc ≤ R.cells ∧ slots + ms ≤ R.slots)
    (kk : ∀ (r : UInt64) (v' : S1) (H1 : Heap) (locs1 : List Loc) (d1 : Drawn), s.drawn.sameBut d1 lw_cs → P v' → lS D A s cI cL o ad u o2 v' q f H1 locs1 → W p l e R (s.setDrawn d1) m args below meth c H1 locs1 (cells + mc) (slots + ms) Q (F0 m (pc + 3) ls (.double r :: rest))) : W p l e R (s.setDrawn d0) m args below meth c H locs cells slots Q (F0 m pc ls st0) := by
  obtain ⟨hx, hr, ho, hD, hS⟩ := X
  have hD1 := rd_swap (rd_rot hD)
  have Cd := gC_dr C d0
  refine g_cD (wr := lo_w cL q f ++ ra_w cI o ad u) rfl rfl hd0 C (va_P.app ho hx) hD1 hS (g_runVD (wr := lo_w cL q f ++ ra_w cI o ad u) Cd hM hG hd hR (ci := 1) rfl hc0 rfl (Cd.2.2.2.2.2.1.sub (tys' := [(cI, .int)]) [0] rfl) hr hD1 hS hl hn hst hrest hdg hf) (fun r w' H1 locs1 d1 hd1 hv hw0 hw hD hS => ?_)
  obtain ⟨v', hp, rfl⟩ := hpost _ _ hv
  exact kk r v' H1 locs1 d1 hd1 hp ⟨hw0.sub (ws' := ra_w cI o ad u) [1, 2, 3, 4, 5, 6, 7, 8, 9, 10, 11, 12, 13] rfl, hw, hw0.sub (ws' := lo_w cL q f) [0] rfl, rd_rot (rd_rot (rd_swap hD)), hS⟩
end LAWD
set_option maxHeartbeats 4000000 in
set_option maxRecDepth 100000 in
theorem law_gmean {p : Program} {l : Launch} {e : Env} {s : State} {m : MethodId} {below : List Frame} {meth : Method} {c : Code} {Q : State → Prop} {D : va_G} {t : Nat → Nat} {A : Nat → Prop} {cI cL : ClassId} {o o2 q b L kC nC i : Nat} {ad : Nat → Nat} {xs : Nat → Int32} {u : S0} {v : S1} {f : Nat → Int64} {H : Heap} {locs : List Loc} {ls : Array Slot} {d0 : Drawn} (hd0 : s.drawn.sameBut d0 lw_cs) (C : gC p s m #[.ref b] meth c code 9 RL D (lT cI cL) t A) (X : lS D A s cI cL o ad u o2 v q f H locs) (T : lTie u v) (hl : lv_has ls 9 [(0, .ref b), (1, .ref o), (2, .ref o2), (3, .ref q), (4, .int (nI i))]) (hk9 : kC + 20 ≤ 601024) (hn9 : nC + 200 ≤ 7293034) (kk : ∀ (d1 : Drawn), s.drawn.sameBut d1 lw_cs → ∀ (u : S0) (v : S1) (f : Nat → Int64) (H : Heap) (locs : List Loc) (ls : Array Slot), lS D A s cI cL o ad u o2 v q f H locs → lTie u v → lv_has ls 9 [(0, .ref b), (1, .ref o), (2, .ref o2), (3, .ref q), (4, .int (nI i))] → W p l e room_1 (s.setDrawn d1) m #[.ref b] below meth c H locs (kC + 20) (nC + 200) Q (F0 m 751 ls [])) : W p l e room_1 (s.setDrawn d0) m #[.ref b] below meth c H locs kC nC Q (F0 m 723 ls []) := by
  obtain ⟨ehv, hv8, e7, er, hp4⟩ := id T
  have hu8 : u.2.1 ≤ 8 := by omega
  have hx := C.1
  have hb := C.2.1
  refine lv_aload_n hx hb dL_law_723 rfl (lv_at hl 1 rfl) ?_
  refine g_lawXD (P := (fun u' => u' = u)) (n := 0) (As := []) hd0 C X (wX0_mean l D t cI o ad H.size u hu8) (fun r w' h => ⟨u, rfl, h⟩) (rw_V q403 q404 q405 q2 q406) kd_X0_mean rfl ⟨Nat.le_of_ble_eq_true rfl, Nat.le_of_ble_eq_true rfl⟩ hl.1 rfl rfl (Nat.le_of_ble_eq_true rfl) dL_law_724 ⟨(show kC + 0 ≤ 601024 by omega), (show nC + 0 ≤ 7293034 by omega)⟩ (fun r724 z9 H locs dX hdX hp X => ?_)
  rw [hp] at X
  refine lv_dstore (lv' := [(5, .double r724), (0, .ref b), (1, .ref o), (2, .ref o2), (3, .ref q), (4, .int (nI i))]) hx hb dL_law_727 hl (by decide) rfl (fun ls hl => ?_)
  refine lv_aload_n hx hb dL_law_729 rfl (lv_at hl 3 rfl) ?_
  refine g_lawRD (P := (fun v' => rb_E v v')) (n := 0) (As := []) hdX C X (wX1_mean l D t cI o2 H.size v hv8) (fun r w' h => h) (rw_V q407 q408 q409 q5 q410) kd_X1_mean rfl ⟨Nat.le_of_ble_eq_true rfl, Nat.le_of_ble_eq_true rfl⟩ hl.1 rfl rfl (Nat.le_of_ble_eq_true rfl) dL_law_730 ⟨(show kC + 0 + 0 ≤ 601024 by omega), (show nC + 0 + 0 ≤ 7293034 by omega)⟩ (fun r730 z9 H locs dR hdR hp X => ?_)
  refine lv_dstore (lv' := [(7, .double r730), (5, .double r724), (0, .ref b), (1, .ref o), (2, .ref o2), (3, .ref q), (4, .int (nI i))]) hx hb dL_law_733 hl (by decide) rfl (fun ls hl => ?_)
  refine lv_goto (tgt := 751) hx hb dL_law_735 (by decide) ?_
  refine W.widen (k := kC + 20) (n := nC + 200) (by omega) (by omega) ?_
  exact kk _ hdR _ _ _ _ _ _ X (T.E ra_E0 hp) (lv_sub hl [2, 3, 4, 5, 6] rfl)
