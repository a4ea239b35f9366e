/-! THE LAW'S OWN METHODS: they call the class, put what it answers into the long row, and catch what it throws -/
def rwW_ (y : MethodName) (c : ByteArray) (n : Nat) (r : Option FieldType) (hh : List (Nat × Nat × Nat × Nat)) : List Cond := Cond.codeWith y c n r hh :: wsL_law
theorem rwW_c {y : MethodName} {c : ByteArray} {n : Nat} {r : Option FieldType} {hh : List (Nat × Nat × Nat × Nat)} (h5 : Cond.codeWith y c n r hh ∈ wsL_law) : ∀ w ∈ rwW_ y c n r hh, w ∈ wsL_law := fun w hw => (List.mem_cons.mp hw).elim (fun e => e ▸ h5) id
theorem rwW_S {own : String} {idx : Nat} {y : MethodName} {c : ByteArray} {n : Nat} {r : Option FieldType} {hh : List (Nat × Nat × Nat × Nat)} (h1 : Cond.methodLink own idx y ∈ wsL_law) (h2 : Cond.static y ∈ wsL_law) (h4 : Cond.initialized y.cls ∈ wsL_law) (h5 : Cond.codeWith y c n r hh ∈ wsL_law) : GoodIn wsL_law (va_wsS own idx y (rwW_ y c n r hh)) := rw_in (fun w hw => by
  rcases List.mem_append.mp hw with h | h
  · rcases List.mem_cons.mp h with h | h
    · exact h ▸ h1
    · rcases List.mem_cons.mp h with h | h
      · exact h ▸ h2
      · exact (List.mem_singleton.mp h) ▸ h4
  · exact rwW_c h5 w h)
/-- the long row -/
def lo_w (cL : ClassId) (q : Nat) (f : Nat → Int64) : va_W := [(q, .inl (cL, 1, .inr (.inl f)))]
abbrev lT (cI cL : ClassId) : List (ClassId × FieldType) := [(cI, .int), (cL, .long)]
theorem rd_rot {A : Nat → Prop} {a b c : va_W} (h : va_D A (a ++ (b ++ c))) : va_D A (b ++ (c ++ a)) := by
  have h := rd_swap h
  rwa [List.append_assoc] at h
section GOFW
variable {l : Launch} {y : MethodName} {cc : ByteArray} {nL : Nat} {rm : Room} {av : List Value} {D : va_G} {ty : List (ClassId × FieldType)} {t : Nat → Nat} {w : va_W} {sz : Nat}
theorem g_ofW {rt : Option FieldType} {hh : List (Nat × Nat × Nat × Nat)} {Q : (Nat → Prop) → Array Value → State → Outcome → State → Prop} (hy : plainName y.cls = true) (hav : (lg_sl av).length ≤ nL)
    (body : ∀ (p : Program) (e : Env) (s : State) (m : MethodId) (args : Array Value) (below : List Frame) (meth : Method) (c : Code) (A : Nat → Prop) (ls : Array Slot) (H : Heap), gC p s m args meth c cc nL y.cls D ty t A → meth.sig.returnType = rt → c.exceptionTable.toList = tableOf hh → va_S A s.heap H [] → va_P D vwCl w H → va_D A w → lv_has ls nL (lv_args 0 av) →
      W p l e rm s m args below meth c H [] 0 0 (MQ below (Q A) args s rm.cells rm.slots A) (F0 m 0 ls [])) :
    Met l y (rwW_ y cc nL rt hh) rm (va_Pc av (gP D ty t w sz)) (Q (va_A w sz)) rm.cells rm.slots (va_A w sz) := by
  refine va_MetW (cc := cc) (maxL := nL) (ret := rt) (hh := hh) hy rfl ?_
  intro p e s m args below meth c s₁ B hml hv
  obtain ⟨rfl, hsz, hP, hK, hD, hZ⟩ := hv
  have hts := atoms_spec (ws := rwW_ y cc nL rt hh) B.pre
  subst hsz
  have hl := lv_entry av hav
  rw [lg_entry_eq]
  exact body p e s m _ below meth c (va_A w s.heap.size) _ s.heap ⟨B.exec, B.bytes, hml, findClass_of_methodNamed B.named, fun w h => hts w (List.mem_cons_of_mem _ h), hK, fun q h => Or.inr h, hZ, B.notSynchronized⟩ B.returns (vx_table (x := y) B (hts _ List.mem_cons_self)) va_S.rf hP hD.self hl
end GOFW
section GSW
variable {p : Program} {l : Launch} {e : Env} {R : Room} {s : State} {m : MethodId} {args : Array Value} {below : List Frame} {meth : Method} {c : Code} {H : Heap} {locs : List Loc} {cells slots : Nat} {Q : State → Prop}
variable {cc : ByteArray} {nL pc : Nat} {ls : Array Slot} {own : String} {D : va_G} {ty ty2 : List (ClassId × FieldType)} {t : Nat → Nat} {A : Nat → Prop} {wr wc : va_W}
variable {y : MethodName} {bytes : ByteArray} {maxL n idx : Nat} {ret : Option FieldType} {rm : Room} {b : Nat} {As rest st0 : List Value} {Qa : Array Value → State → Outcome → State → Prop} {hh : List (Nat × Nat × Nat × Nat)}
theorem g_runSW (C : gC p s m args meth c cc nL own D ty t A) (hM : Met l y (rwW_ y bytes maxL ret hh) rm (va_Pc As (gP D ty2 t wc H.size)) Qa rm.cells rm.slots (va_A wc H.size)) (hG : GoodIn wsL_law (va_wsS own idx y (rwW_ y bytes maxL ret hh)))
    (hd : y.cls ≠ "java/lang/invoke/MethodHandle" ∧ y.cls ≠ "java/lang/invoke/VarHandle" ∧ (parseMethodDescriptor y.desc).map (fun d => d.parameters.length) = some n) (hR : rm.frames + 1 ≤ R.frames ∧ 8 + (maxL + 11) + rm.locals ≤ R.locals)
    (hK2 : va_K D vwCl ty2 s) (hPc : va_P D vwCl wc H) (hD : va_D A (wr ++ wc)) (hS : va_S A s.heap H locs) (hl : ls.size = nL) (hn : As.length = n) (hst : st0 = As.reverse ++ rest) (hrest : (rest.map fun v => v.category).sum ≤ 8) (hdg : decode cc pc = .ok (.invokestatic idx, 3)) (hf : cells + rm.cells ≤ R.cells ∧ slots + rm.slots ≤ R.slots) :
    va_Run p l e R s m args below meth c H locs cells slots rm.cells rm.slots (F0 m pc ls st0) rest (Qa As.toArray) (va_A wc H.size) :=
  vx_runSW ⟨C.1, C.2.1, C.2.2.1, C.2.2.2.1, C.2.2.2.2.1⟩ hM (vx_cwSW n C.2.2.2.2.1 hG rfl rfl rfl hd hR) ⟨gP_blind, g_pre C hK2 hPc hD hS⟩ rfl hn hl hst (lv_room hrest) hdg hf
/-- into the long row, that goes ahead of ws -/
theorem g_lo {cI cL : ClassId} {q : Nat} {f : Nat → Int64} {ws : va_W} {x : Int64} {rest : List Value} (C : gC p s m args meth c cc nL own D (lT cI cL) t A) (hPo : va_P D vwCl (lo_w cL q f) H) (hP : va_P D vwCl ws H) (hD : va_D A (lo_w cL q f ++ ws)) (hS : va_S A s.heap H locs) (hdg : decode cc pc = .ok (.lastore, 1))
    (kk : ∀ (H1 : Heap) (locs1 : List Loc) (f1 : Nat → Int64), f1 0 = x → va_P D vwCl (lo_w cL q f1 ++ ws) H1 → va_D A (lo_w cL q f1 ++ ws) → va_S A s.heap H1 locs1 → W p l e R s m args below meth c H1 locs1 cells slots Q (F0 m (pc + 1) ls rest)) : W p l e R s m args below meth c H locs cells slots Q (F0 m pc ls (.long x :: .int 0 :: .ref q :: rest)) :=
  va_last (D := D) C.1 C.2.1 C.2.2.2.2.2.1 (va_P.app hPo hP) hD hS 0 1 (cA := cL) (n := 1) (f := f) rfl rfl (vp_in_nI (n := 0) (N := 1) (by decide) (by decide)) hdg (fun H1 locs1 hP1 hD1 hS1 => kk H1 locs1 _ rfl hP1 hD1 hS1)
end GSW
theorem kd_L_hire : yL_hire.cls ≠ "java/lang/invoke/MethodHandle" ∧ yL_hire.cls ≠ "java/lang/invoke/VarHandle" ∧ (parseMethodDescriptor yL_hire.desc).map (fun d => d.parameters.length) = some 3 := by decide +kernel
set_option maxHeartbeats 4000000 in
set_option maxRecDepth 100000 in
theorem mL_hire (l : Launch) (D : va_G) (t : Nat → Nat) (cI cL : ClassId) (o : Nat) (ad : Nat → Nat) (q sz : Nat) (f : Nat → Int64) (u : S0) {x0 : Int32} {val : Int32} {u2 : S0} (hM : ∀ sz, gMi l yX0_hire (rw_ yX0_hire cX0_hire 2 (some .int)) (rm_ 1 0 0 22) [.ref o, .int x0] D [(cI, .int)] t (ra_w cI o ad u) sz (fun v w' => v = val ∧ w' = ra_w cI o ad u2)) : gMi l yL_hire (rwW_ yL_hire cL_hire 4 (some .int) [(0, 9, 12, 13), (0, 9, 15, 15)]) (rm_ 2 0 0 47) [.ref o, .int x0, .ref q] D (lT cI cL) t (lo_w cL q f ++ ra_w cI o ad u) sz (fun r w' => ∃ f' u', (r = 0 ∧ u' = u2 ∧ f' 0 = Int32.toInt64 val) ∧ w' = lo_w cL q f' ++ ra_w cI o ad u') := by
  refine g_ofW (cc := cL_hire) (nL := 4) (rt := (some .int)) (hh := [(0, 9, 12, 13), (0, 9, 15, 15)]) (Q := fun A => va_Qi _ (fun w' U => gQ D A w' U) A) (by decide) (Nat.le_of_ble_eq_true rfl) (fun p e s m args below meth c A ls H C hrt htab hS hP hD hl => ?_)
  have hx := C.1
  have hb := C.2.1
  have hown := C.2.2.2.1
  have hts := C.2.2.2.2.1
  have hl : lv_has ls 4 [(0, .ref o), (1, .int x0), (2, .ref q)] := hl
  have hPo : va_P D vwCl (lo_w cL q f) H := hP.sub [0] rfl
  have hPx : va_P D vwCl (ra_w cI o ad u) H := hP.sub [1, 2, 3, 4, 5, 6, 7, 8, 9, 10, 11, 12, 13] rfl
  have hK2 := C.2.2.2.2.2.1.sub (tys' := [(cI, .int)]) [0] rfl
  refine lv_aload_n hx hb dL_hire_0 rfl (lv_at hl 2 rfl) ?_
  refine lv_iconst (v := 0) hx hb dL_hire_1 (by decide) ?_
  refine lv_aload_n hx hb dL_hire_2 rfl (lv_at hl 0 rfl) ?_
  refine lv_iload_n hx hb dL_hire_3 rfl (lv_at hl 1 rfl) ?_
  refine g_ci (wr := lo_w cL q f) (cells' := 0) (slots' := 0) rfl rfl C hPo hD hS (g_runV (wr := lo_w cL q f) (n := 1) C (hM H.size) (rw_V q40 q41 q42 q2 q43) kd_X0_hire ⟨Nat.le_of_ble_eq_true rfl, Nat.le_of_ble_eq_true rfl⟩ (ci := 0) rfl rfl rfl hK2 hPx hD hS hl.1 rfl rfl (Nat.le_of_ble_eq_true rfl) dL_hire_4 ⟨Nat.le_of_ble_eq_true rfl, Nat.le_of_ble_eq_true rfl⟩) (fun r9 w' H locs hv _ hPo hPx hD hS => ?_)
  obtain ⟨rfl, rfl⟩ := hv
  refine lv_i2l hx hb dL_hire_7 rfl ?_
  refine g_lo C hPo hPx hD hS dL_hire_8 (fun H locs f1 hf1 hP hD hS => ?_)
  refine lv_goto (tgt := 18) hx hb dL_hire_9 (by decide) ?_
  refine lv_iconst (v := 0) hx hb dL_hire_18 (by decide) ?_
  exact g_iret C hrt hP hD hS dL_hire_19 ⟨_, _, ⟨rfl, rfl, hf1⟩, rfl⟩
set_option maxHeartbeats 4000000 in
set_option maxRecDepth 100000 in
theorem xL_hire1 (l : Launch) (D : va_G) (t : Nat → Nat) (cI cL : ClassId) (o : Nat) (ad : Nat → Nat) (q sz : Nat) (f : Nat → Int64) (u : S0) {x0 : Int32} (hM : ∀ sz, gX l yX0_hire (rw_ yX0_hire cX0_hire 2 (some .int)) (rm_ 7 1 6 104) [.ref o, .int x0] D [(cI, .int)] t (ra_w cI o ad u) sz "java/lang/IllegalArgumentException") : gMi l yL_hire (rwW_ yL_hire cL_hire 4 (some .int) [(0, 9, 12, 13), (0, 9, 15, 15)]) (rm_ 8 1 6 129) [.ref o, .int x0, .ref q] D (lT cI cL) t (lo_w cL q f ++ ra_w cI o ad u) sz (fun r w' => ∃ f' u', (r = 1 ∧ u' = u) ∧ w' = lo_w cL q f' ++ ra_w cI o ad u') := by
  refine g_ofW (cc := cL_hire) (nL := 4) (rt := (some .int)) (hh := [(0, 9, 12, 13), (0, 9, 15, 15)]) (Q := fun A => va_Qi _ (fun w' U => gQ D A w' U) A) (by decide) (Nat.le_of_ble_eq_true rfl) (fun p e s m args below meth c A ls H C hrt htab hS hP hD hl => ?_)
  have hx := C.1
  have hb := C.2.1
  have hown := C.2.2.2.1
  have hts := C.2.2.2.2.1
  have hl : lv_has ls 4 [(0, .ref o), (1, .int x0), (2, .ref q)] := hl
  have hPo : va_P D vwCl (lo_w cL q f) H := hP.sub [0] rfl
  have hPx : va_P D vwCl (ra_w cI o ad u) H := hP.sub [1, 2, 3, 4, 5, 6, 7, 8, 9, 10, 11, 12, 13] rfl
  have hK2 := C.2.2.2.2.2.1.sub (tys' := [(cI, .int)]) [0] rfl
  refine lv_aload_n hx hb dL_hire_0 rfl (lv_at hl 2 rfl) ?_
  refine lv_iconst (v := 0) hx hb dL_hire_1 (by decide) ?_
  refine lv_aload_n hx hb dL_hire_2 rfl (lv_at hl 0 rfl) ?_
  refine lv_iload_n hx hb dL_hire_3 rfl (lv_at hl 1 rfl) ?_
  refine g_xc (wr := lo_w cL q f) C hPo hD hS (g_xrunV (wr := lo_w cL q f) (n := 1) C (hM H.size) (rw_V q40 q41 q42 q2 q43) kd_X0_hire ⟨Nat.le_of_ble_eq_true rfl, Nat.le_of_ble_eq_true rfl⟩ (ci := 0) rfl rfl rfl hK2 hPx hD hS hl.1 rfl rfl (Nat.le_of_ble_eq_true rfl) dL_hire_4 ⟨Nat.le_of_ble_eq_true rfl, Nat.le_of_ble_eq_true rfl⟩) (fun ce q9 H locs hPo hPx hD hS hce hcv hcl => ?_)
  refine vx_catch (name := "java/lang/IllegalArgumentException") hown [] ⟨0, 9, 12, 13⟩ [⟨0, 9, 15, 15⟩] (htab.trans rfl) (fun z hz => absurd hz List.not_mem_nil) (by decide) (by decide) (hts _ q38) (va_Nw.use rfl C.2.2.2.2.2.2.2.1.2.2.2.2.2.2.2.2.2.2.2.2.2.2.2.2.2.2.1) hce hcv hcl ?_
  refine lv_astore_n (lv' := [(3, .ref q9), (0, .ref o), (1, .int x0), (2, .ref q)]) hx hb dL_hire_12 rfl hl (by decide) rfl (fun ls hl => ?_)
  refine lv_iconst (v := 1) hx hb dL_hire_13 (by decide) ?_
  exact g_iret C hrt (va_P.app hPo hPx) hD hS dL_hire_14 ⟨_, _, ⟨rfl, rfl⟩, rfl⟩
set_option maxHeartbeats 4000000 in
set_option maxRecDepth 100000 in
theorem xL_hire2 (l : Launch) (D : va_G) (t : Nat → Nat) (cI cL : ClassId) (o : Nat) (ad : Nat → Nat) (q sz : Nat) (f : Nat → Int64) (u : S0) {x0 : Int32} (hM : ∀ sz, gX l yX0_hire (rw_ yX0_hire cX0_hire 2 (some .int)) (rm_ 7 1 6 102) [.ref o, .int x0] D [(cI, .int)] t (ra_w cI o ad u) sz "java/lang/IllegalStateException") : gMi l yL_hire (rwW_ yL_hire cL_hire 4 (some .int) [(0, 9, 12, 13), (0, 9, 15, 15)]) (rm_ 8 1 6 127) [.ref o, .int x0, .ref q] D (lT cI cL) t (lo_w cL q f ++ ra_w cI o ad u) sz (fun r w' => ∃ f' u', (r = 2 ∧ u' = u) ∧ w' = lo_w cL q f' ++ ra_w cI o ad u') := by
  refine g_ofW (cc := cL_hire) (nL := 4) (rt := (some .int)) (hh := [(0, 9, 12, 13), (0, 9, 15, 15)]) (Q := fun A => va_Qi _ (fun w' U => gQ D A w' U) A) (by decide) (Nat.le_of_ble_eq_true rfl) (fun p e s m args below meth c A ls H C hrt htab hS hP hD hl => ?_)
  have hx := C.1
  have hb := C.2.1
  have hown := C.2.2.2.1
  have hts := C.2.2.2.2.1
  have hl : lv_has ls 4 [(0, .ref o), (1, .int x0), (2, .ref q)] := hl
  have hPo : va_P D vwCl (lo_w cL q f) H := hP.sub [0] rfl
  have hPx : va_P D vwCl (ra_w cI o ad u) H := hP.sub [1, 2, 3, 4, 5, 6, 7, 8, 9, 10, 11, 12, 13] rfl
  have hK2 := C.2.2.2.2.2.1.sub (tys' := [(cI, .int)]) [0] rfl
  refine lv_aload_n hx hb dL_hire_0 rfl (lv_at hl 2 rfl) ?_
  refine lv_iconst (v := 0) hx hb dL_hire_1 (by decide) ?_
  refine lv_aload_n hx hb dL_hire_2 rfl (lv_at hl 0 rfl) ?_
  refine lv_iload_n hx hb dL_hire_3 rfl (lv_at hl 1 rfl) ?_
  refine g_xc (wr := lo_w cL q f) C hPo hD hS (g_xrunV (wr := lo_w cL q f) (n := 1) C (hM H.size) (rw_V q40 q41 q42 q2 q43) kd_X0_hire ⟨Nat.le_of_ble_eq_true rfl, Nat.le_of_ble_eq_true rfl⟩ (ci := 0) rfl rfl rfl hK2 hPx hD hS hl.1 rfl rfl (Nat.le_of_ble_eq_true rfl) dL_hire_4 ⟨Nat.le_of_ble_eq_true rfl, Nat.le_of_ble_eq_true rfl⟩) (fun ce q9 H locs hPo hPx hD hS hce hcv hcl => ?_)
  refine vx_catch (name := "java/lang/IllegalStateException") hown [⟨0, 9, 12, 13⟩] ⟨0, 9, 15, 15⟩ [] (htab.trans rfl) (List.forall_mem_cons.mpr ⟨Or.inr ⟨by decide, "java/lang/IllegalArgumentException", hts _ q38, C.2.2.2.2.2.2.2.1.2.2.2.2.2.2.2.2.2.2.2.2.2.2.2.2.2.2.2.2.2.2.2.1⟩, fun z hz => absurd hz List.not_mem_nil⟩) (by decide) (by decide) (hts _ q39) (va_Nw.use rfl C.2.2.2.2.2.2.2.1.2.2.2.2.2.2.2.2.2.2.2.2.2.2.2.2.2.2.2.1) hce hcv hcl ?_
  refine lv_astore_n (lv' := [(3, .ref q9), (0, .ref o), (1, .int x0), (2, .ref q)]) hx hb dL_hire_15 rfl hl (by decide) rfl (fun ls hl => ?_)
  refine lv_iconst (v := 2) hx hb dL_hire_16 (by decide) ?_
  exact g_iret C hrt (va_P.app hPo hPx) hD hS dL_hire_17 ⟨_, _, ⟨rfl, rfl⟩, rfl⟩
theorem kd_L_setRate : yL_setRate.cls ≠ "java/lang/invoke/MethodHandle" ∧ yL_setRate.cls ≠ "java/lang/invoke/VarHandle" ∧ (parseMethodDescriptor yL_setRate.desc).map (fun d => d.parameters.length) = some 4 := by decide +kernel
set_option maxHeartbeats 4000000 in
set_option maxRecDepth 100000 in
theorem mL_setRate (l : Launch) (D : va_G) (t : Nat → Nat) (cI cL : ClassId) (o : Nat) (ad : Nat → Nat) (q sz : Nat) (f : Nat → Int64) (u : S0) {x0 x1 : Int32} {val : Int32} {u2 : S0} (hM : ∀ sz, gMi l yX0_setRate (rw_ yX0_setRate cX0_setRate 4 (some .int)) (rm_ 2 0 0 43) [.ref o, .int x0, .int x1] D [(cI, .int)] t (ra_w cI o ad u) sz (fun v w' => v = val ∧ w' = ra_w cI o ad u2)) : gMi l yL_setRate (rwW_ yL_setRate cL_setRate 5 (some .int) [(0, 10, 13, 21), (0, 10, 17, 13)]) (rm_ 3 0 0 70) [.ref o, .int x0, .int x1, .ref q] D (lT cI cL) t (lo_w cL q f ++ ra_w cI o ad u) sz (fun r w' => ∃ f' u', (r = 0 ∧ u' = u2 ∧ f' 0 = Int32.toInt64 val) ∧ w' = lo_w cL q f' ++ ra_w cI o ad u') := by
  refine g_ofW (cc := cL_setRate) (nL := 5) (rt := (some .int)) (hh := [(0, 10, 13, 21), (0, 10, 17, 13)]) (Q := fun A => va_Qi _ (fun w' U => gQ D A w' U) A) (by decide) (Nat.le_of_ble_eq_true rfl) (fun p e s m args below meth c A ls H C hrt htab hS hP hD hl => ?_)
  have hx := C.1
  have hb := C.2.1
  have hown := C.2.2.2.1
  have hts := C.2.2.2.2.1
  have hl : lv_has ls 5 [(0, .ref o), (1, .int x0), (2, .int x1), (3, .ref q)] := hl
  have hPo : va_P D vwCl (lo_w cL q f) H := hP.sub [0] rfl
  have hPx : va_P D vwCl (ra_w cI o ad u) H := hP.sub [1, 2, 3, 4, 5, 6, 7, 8, 9, 10, 11, 12, 13] rfl
  have hK2 := C.2.2.2.2.2.1.sub (tys' := [(cI, .int)]) [0] rfl
  refine lv_aload_n hx hb dL_setRate_0 rfl (lv_at hl 3 rfl) ?_
  refine lv_iconst (v := 0) hx hb dL_setRate_1 (by decide) ?_
  refine lv_aload_n hx hb dL_setRate_2 rfl (lv_at hl 0 rfl) ?_
  refine lv_iload_n hx hb dL_setRate_3 rfl (lv_at hl 1 rfl) ?_
  refine lv_iload_n hx hb dL_setRate_4 rfl (lv_at hl 2 rfl) ?_
  refine g_ci (wr := lo_w cL q f) (cells' := 0) (slots' := 0) rfl rfl C hPo hD hS (g_runV (wr := lo_w cL q f) (n := 2) C (hM H.size) (rw_V q76 q77 q78 q2 q79) kd_X0_setRate ⟨Nat.le_of_ble_eq_true rfl, Nat.le_of_ble_eq_true rfl⟩ (ci := 0) rfl rfl rfl hK2 hPx hD hS hl.1 rfl rfl (Nat.le_of_ble_eq_true rfl) dL_setRate_5 ⟨Nat.le_of_ble_eq_true rfl, Nat.le_of_ble_eq_true rfl⟩) (fun r9 w' H locs hv _ hPo hPx hD hS => ?_)
  obtain ⟨rfl, rfl⟩ := hv
  refine lv_i2l hx hb dL_setRate_8 rfl ?_
  refine g_lo C hPo hPx hD hS dL_setRate_9 (fun H locs f1 hf1 hP hD hS => ?_)
  refine lv_goto (tgt := 21) hx hb dL_setRate_10 (by decide) ?_
  refine lv_iconst (v := 0) hx hb dL_setRate_21 (by decide) ?_
  exact g_iret C hrt hP hD hS dL_setRate_22 ⟨_, _, ⟨rfl, rfl, hf1⟩, rfl⟩
set_option maxHeartbeats 4000000 in
set_option maxRecDepth 100000 in
theorem xL_setRate1 (l : Launch) (D : va_G) (t : Nat → Nat) (cI cL : ClassId) (o : Nat) (ad : Nat → Nat) (q sz : Nat) (f : Nat → Int64) (u : S0) {x0 x1 : Int32} (hM : ∀ sz, gX l yX0_setRate (rw_ yX0_setRate cX0_setRate 4 (some .int)) (rm_ 8 1 6 124) [.ref o, .int x0, .int x1] D [(cI, .int)] t (ra_w cI o ad u) sz "java/lang/IndexOutOfBoundsException") : gMi l yL_setRate (rwW_ yL_setRate cL_setRate 5 (some .int) [(0, 10, 13, 21), (0, 10, 17, 13)]) (rm_ 9 1 6 151) [.ref o, .int x0, .int x1, .ref q] D (lT cI cL) t (lo_w cL q f ++ ra_w cI o ad u) sz (fun r w' => ∃ f' u', (r = 1 ∧ u' = u) ∧ w' = lo_w cL q f' ++ ra_w cI o ad u') := by
  refine g_ofW (cc := cL_setRate) (nL := 5) (rt := (some .int)) (hh := [(0, 10, 13, 21), (0, 10, 17, 13)]) (Q := fun A => va_Qi _ (fun w' U => gQ D A w' U) A) (by decide) (Nat.le_of_ble_eq_true rfl) (fun p e s m args below meth c A ls H C hrt htab hS hP hD hl => ?_)
  have hx := C.1
  have hb := C.2.1
  have hown := C.2.2.2.1
  have hts := C.2.2.2.2.1
  have hl : lv_has ls 5 [(0, .ref o), (1, .int x0), (2, .int x1), (3, .ref q)] := hl
  have hPo : va_P D vwCl (lo_w cL q f) H := hP.sub [0] rfl
  have hPx : va_P D vwCl (ra_w cI o ad u) H := hP.sub [1, 2, 3, 4, 5, 6, 7, 8, 9, 10, 11, 12, 13] rfl
  have hK2 := C.2.2.2.2.2.1.sub (tys' := [(cI, .int)]) [0] rfl
  refine lv_aload_n hx hb dL_setRate_0 rfl (lv_at hl 3 rfl) ?_
  refine lv_iconst (v := 0) hx hb dL_setRate_1 (by decide) ?_
  refine lv_aload_n hx hb dL_setRate_2 rfl (lv_at hl 0 rfl) ?_
  refine lv_iload_n hx hb dL_setRate_3 rfl (lv_at hl 1 rfl) ?_
  refine lv_iload_n hx hb dL_setRate_4 rfl (lv_at hl 2 rfl) ?_
  refine g_xc (wr := lo_w cL q f) C hPo hD hS (g_xrunV (wr := lo_w cL q f) (n := 2) C (hM H.size) (rw_V q76 q77 q78 q2 q79) kd_X0_setRate ⟨Nat.le_of_ble_eq_true rfl, Nat.le_of_ble_eq_true rfl⟩ (ci := 0) rfl rfl rfl hK2 hPx hD hS hl.1 rfl rfl (Nat.le_of_ble_eq_true rfl) dL_setRate_5 ⟨Nat.le_of_ble_eq_true rfl, Nat.le_of_ble_eq_true rfl⟩) (fun ce q9 H locs hPo hPx hD hS hce hcv hcl => ?_)
  refine vx_catch (name := "java/lang/IndexOutOfBoundsException") hown [] ⟨0, 10, 13, 21⟩ [⟨0, 10, 17, 13⟩] (htab.trans rfl) (fun z hz => absurd hz List.not_mem_nil) (by decide) (by decide) (hts _ q75) (va_Nw.use rfl C.2.2.2.2.2.2.2.1.2.2.2.2.2.2.2.2.2.2.2.2.2.2.2.2.2.1) hce hcv hcl ?_
  refine lv_astore (lv' := [(4, .ref q9), (0, .ref o), (1, .int x0), (2, .int x1), (3, .ref q)]) hx hb dL_setRate_13 hl (by decide) rfl (fun ls hl => ?_)
  refine lv_iconst (v := 1) hx hb dL_setRate_15 (by decide) ?_
  exact g_iret C hrt (va_P.app hPo hPx) hD hS dL_setRate_16 ⟨_, _, ⟨rfl, rfl⟩, rfl⟩
set_option maxHeartbeats 4000000 in
set_option maxRecDepth 100000 in
theorem xL_setRate2 (l : Launch) (D : va_G) (t : Nat → Nat) (cI cL : ClassId) (o : Nat) (ad : Nat → Nat) (q sz : Nat) (f : Nat → Int64) (u : S0) {x0 x1 : Int32} (hM : ∀ sz, gX l yX0_setRate (rw_ yX0_setRate cX0_setRate 4 (some .int)) (rm_ 8 1 6 125) [.ref o, .int x0, .int x1] D [(cI, .int)] t (ra_w cI o ad u) sz "java/lang/IllegalArgumentException") : gMi l yL_setRate (rwW_ yL_setRate cL_setRate 5 (some .int) [(0, 10, 13, 21), (0, 10, 17, 13)]) (rm_ 9 1 6 152) [.ref o, .int x0, .int x1, .ref q] D (lT cI cL) t (lo_w cL q f ++ ra_w cI o ad u) sz (fun r w' => ∃ f' u', (r = 2 ∧ u' = u) ∧ w' = lo_w cL q f' ++ ra_w cI o ad u') := by
  refine g_ofW (cc := cL_setRate) (nL := 5) (rt := (some .int)) (hh := [(0, 10, 13, 21), (0, 10, 17, 13)]) (Q := fun A => va_Qi _ (fun w' U => gQ D A w' U) A) (by decide) (Nat.le_of_ble_eq_true rfl) (fun p e s m args below meth c A ls H C hrt htab hS hP hD hl => ?_)
  have hx := C.1
  have hb := C.2.1
  have hown := C.2.2.2.1
  have hts := C.2.2.2.2.1
  have hl : lv_has ls 5 [(0, .ref o), (1, .int x0), (2, .int x1), (3, .ref q)] := hl
  have hPo : va_P D vwCl (lo_w cL q f) H := hP.sub [0] rfl
  have hPx : va_P D vwCl (ra_w cI o ad u) H := hP.sub [1, 2, 3, 4, 5, 6, 7, 8, 9, 10, 11, 12, 13] rfl
  have hK2 := C.2.2.2.2.2.1.sub (tys' := [(cI, .int)]) [0] rfl
  refine lv_aload_n hx hb dL_setRate_0 rfl (lv_at hl 3 rfl) ?_
  refine lv_iconst (v := 0) hx hb dL_setRate_1 (by decide) ?_
  refine lv_aload_n hx hb dL_setRate_2 rfl (lv_at hl 0 rfl) ?_
  refine lv_iload_n hx hb dL_setRate_3 rfl (lv_at hl 1 rfl) ?_
  refine lv_iload_n hx hb dL_setRate_4 rfl (lv_at hl 2 rfl) ?_
  refine g_xc (wr := lo_w cL q f) C hPo hD hS (g_xrunV (wr := lo_w cL q f) (n := 2) C (hM H.size) (rw_V q76 q77 q78 q2 q79) kd_X0_setRate ⟨Nat.le_of_ble_eq_true rfl, Nat.le_of_ble_eq_true rfl⟩ (ci := 0) rfl rfl rfl hK2 hPx hD hS hl.1 rfl rfl (Nat.le_of_ble_eq_true rfl) dL_setRate_5 ⟨Nat.le_of_ble_eq_true rfl, Nat.le_of_ble_eq_true rfl⟩) (fun ce q9 H locs hPo hPx hD hS hce hcv hcl => ?_)
  refine vx_catch (name := "java/lang/IllegalArgumentException") hown [⟨0, 10, 13, 21⟩] ⟨0, 10, 17, 13⟩ [] (htab.trans rfl) (List.forall_mem_cons.mpr ⟨Or.inr ⟨by decide, "java/lang/IndexOutOfBoundsException", hts _ q75, C.2.2.2.2.2.2.2.1.2.2.2.2.2.2.2.2.2.2.2.2.2.2.2.2.2.2.2.2.2.2.2.2.1⟩, fun z hz => absurd hz List.not_mem_nil⟩) (by decide) (by decide) (hts _ q38) (va_Nw.use rfl C.2.2.2.2.2.2.2.1.2.2.2.2.2.2.2.2.2.2.2.2.2.2.2.2.2.2.1) hce hcv hcl ?_
  refine lv_astore (lv' := [(4, .ref q9), (0, .ref o), (1, .int x0), (2, .int x1), (3, .ref q)]) hx hb dL_setRate_17 hl (by decide) rfl (fun ls hl => ?_)
  refine lv_iconst (v := 2) hx hb dL_setRate_19 (by decide) ?_
  exact g_iret C hrt (va_P.app hPo hPx) hD hS dL_setRate_20 ⟨_, _, ⟨rfl, rfl⟩, rfl⟩
theorem kd_L_fill : yL_fill.cls ≠ "java/lang/invoke/MethodHandle" ∧ yL_fill.cls ≠ "java/lang/invoke/VarHandle" ∧ (parseMethodDescriptor yL_fill.desc).map (fun d => d.parameters.length) = some 4 := by decide +kernel
set_option maxHeartbeats 4000000 in
set_option maxRecDepth 100000 in
theorem mL_fill (l : Launch) (D : va_G) (t : Nat → Nat) (cI cL : ClassId) (o : Nat) (ad : Nat → Nat) (q sz : Nat) (f : Nat → Int64) (u : S0) {x0 x1 : Int32} {val : Int32} {u2 : S0} (hM : ∀ sz, gMi l yX0_fill (rw_ yX0_fill cX0_fill 3 (some .int)) (rm_ 1 0 0 22) [.ref o, .int x0, .int x1] D [(cI, .int)] t (ra_w cI o ad u) sz (fun v w' => v = val ∧ w' = ra_w cI o ad u2)) : gMi l yL_fill (rwW_ yL_fill cL_fill 5 (some .int) [(0, 10, 13, 21), (0, 10, 17, 13)]) (rm_ 2 0 0 48) [.ref o, .int x0, .int x1, .ref q] D (lT cI cL) t (lo_w cL q f ++ ra_w cI o ad u) sz (fun r w' => ∃ f' u', (r = 0 ∧ u' = u2 ∧ f' 0 = Int32.toInt64 val) ∧ w' = lo_w cL q f' ++ ra_w cI o ad u') := by
  refine g_ofW (cc := cL_fill) (nL := 5) (rt := (some .int)) (hh := [(0, 10, 13, 21), (0, 10, 17, 13)]) (Q := fun A => va_Qi _ (fun w' U => gQ D A w' U) A) (by decide) (Nat.le_of_ble_eq_true rfl) (fun p e s m args below meth c A ls H C hrt htab hS hP hD hl => ?_)
  have hx := C.1
  have hb := C.2.1
  have hown := C.2.2.2.1
  have hts := C.2.2.2.2.1
  have hl : lv_has ls 5 [(0, .ref o), (1, .int x0), (2, .int x1), (3, .ref q)] := hl
  have hPo : va_P D vwCl (lo_w cL q f) H := hP.sub [0] rfl
  have hPx : va_P D vwCl (ra_w cI o ad u) H := hP.sub [1, 2, 3, 4, 5, 6, 7, 8, 9, 10, 11, 12, 13] rfl
  have hK2 := C.2.2.2.2.2.1.sub (tys' := [(cI, .int)]) [0] rfl
  refine lv_aload_n hx hb dL_fill_0 rfl (lv_at hl 3 rfl) ?_
  refine lv_iconst (v := 0) hx hb dL_fill_1 (by decide) ?_
  refine lv_aload_n hx hb dL_fill_2 rfl (lv_at hl 0 rfl) ?_
  refine lv_iload_n hx hb dL_fill_3 rfl (lv_at hl 1 rfl) ?_
  refine lv_iload_n hx hb dL_fill_4 rfl (lv_at hl 2 rfl) ?_
  refine g_ci (wr := lo_w cL q f) (cells' := 0) (slots' := 0) rfl rfl C hPo hD hS (g_runV (wr := lo_w cL q f) (n := 2) C (hM H.size) (rw_V q102 q103 q104 q2 q105) kd_X0_fill ⟨Nat.le_of_ble_eq_true rfl, Nat.le_of_ble_eq_true rfl⟩ (ci := 0) rfl rfl rfl hK2 hPx hD hS hl.1 rfl rfl (Nat.le_of_ble_eq_true rfl) dL_fill_5 ⟨Nat.le_of_ble_eq_true rfl, Nat.le_of_ble_eq_true rfl⟩) (fun r9 w' H locs hv _ hPo hPx hD hS => ?_)
  obtain ⟨rfl, rfl⟩ := hv
  refine lv_i2l hx hb dL_fill_8 rfl ?_
  refine g_lo C hPo hPx hD hS dL_fill_9 (fun H locs f1 hf1 hP hD hS => ?_)
  refine lv_goto (tgt := 21) hx hb dL_fill_10 (by decide) ?_
  refine lv_iconst (v := 0) hx hb dL_fill_21 (by decide) ?_
  exact g_iret C hrt hP hD hS dL_fill_22 ⟨_, _, ⟨rfl, rfl, hf1⟩, rfl⟩
set_option maxHeartbeats 4000000 in
set_option maxRecDepth 100000 in
theorem xL_fill1 (l : Launch) (D : va_G) (t : Nat → Nat) (cI cL : ClassId) (o : Nat) (ad : Nat → Nat) (q sz : Nat) (f : Nat → Int64) (u : S0) {x0 x1 : Int32} (hM : ∀ sz, gX l yX0_fill (rw_ yX0_fill cX0_fill 3 (some .int)) (rm_ 7 1 6 103) [.ref o, .int x0, .int x1] D [(cI, .int)] t (ra_w cI o ad u) sz "java/lang/IndexOutOfBoundsException") : gMi l yL_fill (rwW_ yL_fill cL_fill 5 (some .int) [(0, 10, 13, 21), (0, 10, 17, 13)]) (rm_ 8 1 6 129) [.ref o, .int x0, .int x1, .ref q] D (lT cI cL) t (lo_w cL q f ++ ra_w cI o ad u) sz (fun r w' => ∃ f' u', (r = 1 ∧ u' = u) ∧ w' = lo_w cL q f' ++ ra_w cI o ad u') := by
  refine g_ofW (cc := cL_fill) (nL := 5) (rt := (some .int)) (hh := [(0, 10, 13, 21), (0, 10, 17, 13)]) (Q := fun A => va_Qi _ (fun w' U => gQ D A w' U) A) (by decide) (Nat.le_of_ble_eq_true rfl) (fun p e s m args below meth c A ls H C hrt htab hS hP hD hl => ?_)
  have hx := C.1
  have hb := C.2.1
  have hown := C.2.2.2.1
  have hts := C.2.2.2.2.1
  have hl : lv_has ls 5 [(0, .ref o), (1, .int x0), (2, .int x1), (3, .ref q)] := hl
  have hPo : va_P D vwCl (lo_w cL q f) H := hP.sub [0] rfl
  have hPx : va_P D vwCl (ra_w cI o ad u) H := hP.sub [1, 2, 3, 4, 5, 6, 7, 8, 9, 10, 11, 12, 13] rfl
  have hK2 := C.2.2.2.2.2.1.sub (tys' := [(cI, .int)]) [0] rfl
  refine lv_aload_n hx hb dL_fill_0 rfl (lv_at hl 3 rfl) ?_
  refine lv_iconst (v := 0) hx hb dL_fill_1 (by decide) ?_
  refine lv_aload_n hx hb dL_fill_2 rfl (lv_at hl 0 rfl) ?_
  refine lv_iload_n hx hb dL_fill_3 rfl (lv_at hl 1 rfl) ?_
  refine lv_iload_n hx hb dL_fill_4 rfl (lv_at hl 2 rfl) ?_
  refine g_xc (wr := lo_w cL q f) C hPo hD hS (g_xrunV (wr := lo_w cL q f) (n := 2) C (hM H.size) (rw_V q102 q103 q104 q2 q105) kd_X0_fill ⟨Nat.le_of_ble_eq_true rfl, Nat.le_of_ble_eq_true rfl⟩ (ci := 0) rfl rfl rfl hK2 hPx hD hS hl.1 rfl rfl (Nat.le_of_ble_eq_true rfl) dL_fill_5 ⟨Nat.le_of_ble_eq_true rfl, Nat.le_of_ble_eq_true rfl⟩) (fun ce q9 H locs hPo hPx hD hS hce hcv hcl => ?_)
  refine vx_catch (name := "java/lang/IndexOutOfBoundsException") hown [] ⟨0, 10, 13, 21⟩ [⟨0, 10, 17, 13⟩] (htab.trans rfl) (fun z hz => absurd hz List.not_mem_nil) (by decide) (by decide) (hts _ q75) (va_Nw.use rfl C.2.2.2.2.2.2.2.1.2.2.2.2.2.2.2.2.2.2.2.2.2.2.2.2.2.1) hce hcv hcl ?_
  refine lv_astore (lv' := [(4, .ref q9), (0, .ref o), (1, .int x0), (2, .int x1), (3, .ref q)]) hx hb dL_fill_13 hl (by decide) rfl (fun ls hl => ?_)
  refine lv_iconst (v := 1) hx hb dL_fill_15 (by decide) ?_
  exact g_iret C hrt (va_P.app hPo hPx) hD hS dL_fill_16 ⟨_, _, ⟨rfl, rfl⟩, rfl⟩
set_option maxHeartbeats 4000000 in
set_option maxRecDepth 100000 in
theorem xL_fill2 (l : Launch) (D : va_G) (t : Nat → Nat) (cI cL : ClassId) (o : Nat) (ad : Nat → Nat) (q sz : Nat) (f : Nat → Int64) (u : S0) {x0 x1 : Int32} (hM : ∀ sz, gX l yX0_fill (rw_ yX0_fill cX0_fill 3 (some .int)) (rm_ 7 1 6 104) [.ref o, .int x0, .int x1] D [(cI, .int)] t (ra_w cI o ad u) sz "java/lang/IllegalArgumentException") : gMi l yL_fill (rwW_ yL_fill cL_fill 5 (some .int) [(0, 10, 13, 21), (0, 10, 17, 13)]) (rm_ 8 1 6 130) [.ref o, .int x0, .int x1, .ref q] D (lT cI cL) t (lo_w cL q f ++ ra_w cI o ad u) sz (fun r w' => ∃ f' u', (r = 2 ∧ u' = u) ∧ w' = lo_w cL q f' ++ ra_w cI o ad u') := by
  refine g_ofW (cc := cL_fill) (nL := 5) (rt := (some .int)) (hh := [(0, 10, 13, 21), (0, 10, 17, 13)]) (Q := fun A => va_Qi _ (fun w' U => gQ D A w' U) A) (by decide) (Nat.le_of_ble_eq_true rfl) (fun p e s m args below meth c A ls H C hrt htab hS hP hD hl => ?_)
  have hx := C.1
  have hb := C.2.1
  have hown := C.2.2.2.1
  have hts := C.2.2.2.2.1
  have hl : lv_has ls 5 [(0, .ref o), (1, .int x0), (2, .int x1), (3, .ref q)] := hl
  have hPo : va_P D vwCl (lo_w cL q f) H := hP.sub [0] rfl
  have hPx : va_P D vwCl (ra_w cI o ad u) H := hP.sub [1, 2, 3, 4, 5, 6, 7, 8, 9, 10, 11, 12, 13] rfl
  have hK2 := C.2.2.2.2.2.1.sub (tys' := [(cI, .int)]) [0] rfl
  refine lv_aload_n hx hb dL_fill_0 rfl (lv_at hl 3 rfl) ?_
  refine lv_iconst (v := 0) hx hb dL_fill_1 (by decide) ?_
  refine lv_aload_n hx hb dL_fill_2 rfl (lv_at hl 0 rfl) ?_
  refine lv_iload_n hx hb dL_fill_3 rfl (lv_at hl 1 rfl) ?_
  refine lv_iload_n hx hb dL_fill_4 rfl (lv_at hl 2 rfl) ?_
  refine g_xc (wr := lo_w cL q f) C hPo hD hS (g_xrunV (wr := lo_w cL q f) (n := 2) C (hM H.size) (rw_V q102 q103 q104 q2 q105) kd_X0_fill ⟨Nat.le_of_ble_eq_true rfl, Nat.le_of_ble_eq_true rfl⟩ (ci := 0) rfl rfl rfl hK2 hPx hD hS hl.1 rfl rfl (Nat.le_of_ble_eq_true rfl) dL_fill_5 ⟨Nat.le_of_ble_eq_true rfl, Nat.le_of_ble_eq_true rfl⟩) (fun ce q9 H locs hPo hPx hD hS hce hcv hcl => ?_)
  refine vx_catch (name := "java/lang/IllegalArgumentException") hown [⟨0, 10, 13, 21⟩] ⟨0, 10, 17, 13⟩ [] (htab.trans rfl) (List.forall_mem_cons.mpr ⟨Or.inr ⟨by decide, "java/lang/IndexOutOfBoundsException", hts _ q75, C.2.2.2.2.2.2.2.1.2.2.2.2.2.2.2.2.2.2.2.2.2.2.2.2.2.2.2.2.2.2.2.2.1⟩, fun z hz => absurd hz List.not_mem_nil⟩) (by decide) (by decide) (hts _ q38) (va_Nw.use rfl C.2.2.2.2.2.2.2.1.2.2.2.2.2.2.2.2.2.2.2.2.2.2.2.2.2.2.1) hce hcv hcl ?_
  refine lv_astore (lv' := [(4, .ref q9), (0, .ref o), (1, .int x0), (2, .int x1), (3, .ref q)]) hx hb dL_fill_17 hl (by decide) rfl (fun ls hl => ?_)
  refine lv_iconst (v := 2) hx hb dL_fill_19 (by decide) ?_
  exact g_iret C hrt (va_P.app hPo hPx) hD hS dL_fill_20 ⟨_, _, ⟨rfl, rfl⟩, rfl⟩
theorem kd_L_bind : yL_bind.cls ≠ "java/lang/invoke/MethodHandle" ∧ yL_bind.cls ≠ "java/lang/invoke/VarHandle" ∧ (parseMethodDescriptor yL_bind.desc).map (fun d => d.parameters.length) = some 4 := by decide +kernel
set_option maxHeartbeats 4000000 in
set_option maxRecDepth 100000 in
theorem mL_bind (l : Launch) (D : va_G) (t : Nat → Nat) (cI cL : ClassId) (o : Nat) (ad : Nat → Nat) (q sz : Nat) (f : Nat → Int64) (u : S0) {x0 x1 : Int32} {val : Int32} {u2 : S0} (hM : ∀ sz, gMi l yX0_bind (rw_ yX0_bind cX0_bind 3 (some .int)) (rm_ 1 0 0 22) [.ref o, .int x0, .int x1] D [(cI, .int)] t (ra_w cI o ad u) sz (fun v w' => v = val ∧ w' = ra_w cI o ad u2)) : gMi l yL_bind (rwW_ yL_bind cL_bind 5 (some .int) [(0, 10, 13, 21), (0, 10, 17, 13)]) (rm_ 2 0 0 48) [.ref o, .int x0, .int x1, .ref q] D (lT cI cL) t (lo_w cL q f ++ ra_w cI o ad u) sz (fun r w' => ∃ f' u', (r = 0 ∧ u' = u2 ∧ f' 0 = Int32.toInt64 val) ∧ w' = lo_w cL q f' ++ ra_w cI o ad u') := by
  refine g_ofW (cc := cL_bind) (nL := 5) (rt := (some .int)) (hh := [(0, 10, 13, 21), (0, 10, 17, 13)]) (Q := fun A => va_Qi _ (fun w' U => gQ D A w' U) A) (by decide) (Nat.le_of_ble_eq_true rfl) (fun p e s m args below meth c A ls H C hrt htab hS hP hD hl => ?_)
  have hx := C.1
  have hb := C.2.1
  have hown := C.2.2.2.1
  have hts := C.2.2.2.2.1
  have hl : lv_has ls 5 [(0, .ref o), (1, .int x0), (2, .int x1), (3, .ref q)] := hl
  have hPo : va_P D vwCl (lo_w cL q f) H := hP.sub [0] rfl
  have hPx : va_P D vwCl (ra_w cI o ad u) H := hP.sub [1, 2, 3, 4, 5, 6, 7, 8, 9, 10, 11, 12, 13] rfl
  have hK2 := C.2.2.2.2.2.1.sub (tys' := [(cI, .int)]) [0] rfl
  refine lv_aload_n hx hb dL_bind_0 rfl (lv_at hl 3 rfl) ?_
  refine lv_iconst (v := 0) hx hb dL_bind_1 (by decide) ?_
  refine lv_aload_n hx hb dL_bind_2 rfl (lv_at hl 0 rfl) ?_
  refine lv_iload_n hx hb dL_bind_3 rfl (lv_at hl 1 rfl) ?_
  refine lv_iload_n hx hb dL_bind_4 rfl (lv_at hl 2 rfl) ?_
  refine g_ci (wr := lo_w cL q f) (cells' := 0) (slots' := 0) rfl rfl C hPo hD hS (g_runV (wr := lo_w cL q f) (n := 2) C (hM H.size) (rw_V q116 q117 q118 q2 q119) kd_X0_bind ⟨Nat.le_of_ble_eq_true rfl, Nat.le_of_ble_eq_true rfl⟩ (ci := 0) rfl rfl rfl hK2 hPx hD hS hl.1 rfl rfl (Nat.le_of_ble_eq_true rfl) dL_bind_5 ⟨Nat.le_of_ble_eq_true rfl, Nat.le_of_ble_eq_true rfl⟩) (fun r9 w' H locs hv _ hPo hPx hD hS => ?_)
  obtain ⟨rfl, rfl⟩ := hv
  refine lv_i2l hx hb dL_bind_8 rfl ?_
  refine g_lo C hPo hPx hD hS dL_bind_9 (fun H locs f1 hf1 hP hD hS => ?_)
  refine lv_goto (tgt := 21) hx hb dL_bind_10 (by decide) ?_
  refine lv_iconst (v := 0) hx hb dL_bind_21 (by decide) ?_
  exact g_iret C hrt hP hD hS dL_bind_22 ⟨_, _, ⟨rfl, rfl, hf1⟩, rfl⟩
set_option maxHeartbeats 4000000 in
set_option maxRecDepth 100000 in
theorem xL_bind1 (l : Launch) (D : va_G) (t : Nat → Nat) (cI cL : ClassId) (o : Nat) (ad : Nat → Nat) (q sz : Nat) (f : Nat → Int64) (u : S0) {x0 x1 : Int32} (hM : ∀ sz, gX l yX0_bind (rw_ yX0_bind cX0_bind 3 (some .int)) (rm_ 7 1 6 103) [.ref o, .int x0, .int x1] D [(cI, .int)] t (ra_w cI o ad u) sz "java/lang/IndexOutOfBoundsException") : gMi l yL_bind (rwW_ yL_bind cL_bind 5 (some .int) [(0, 10, 13, 21), (0, 10, 17, 13)]) (rm_ 8 1 6 129) [.ref o, .int x0, .int x1, .ref q] D (lT cI cL) t (lo_w cL q f ++ ra_w cI o ad u) sz (fun r w' => ∃ f' u', (r = 1 ∧ u' = u) ∧ w' = lo_w cL q f' ++ ra_w cI o ad u') := by
  refine g_ofW (cc := cL_bind) (nL := 5) (rt := (some .int)) (hh := [(0, 10, 13, 21), (0, 10, 17, 13)]) (Q := fun A => va_Qi _ (fun w' U => gQ D A w' U) A) (by decide) (Nat.le_of_ble_eq_true rfl) (fun p e s m args below meth c A ls H C hrt htab hS hP hD hl => ?_)
  have hx := C.1
  have hb := C.2.1
  have hown := C.2.2.2.1
  have hts := C.2.2.2.2.1
  have hl : lv_has ls 5 [(0, .ref o), (1, .int x0), (2, .int x1), (3, .ref q)] := hl
  have hPo : va_P D vwCl (lo_w cL q f) H := hP.sub [0] rfl
  have hPx : va_P D vwCl (ra_w cI o ad u) H := hP.sub [1, 2, 3, 4, 5, 6, 7, 8, 9, 10, 11, 12, 13] rfl
  have hK2 := C.2.2.2.2.2.1.sub (tys' := [(cI, .int)]) [0] rfl
  refine lv_aload_n hx hb dL_bind_0 rfl (lv_at hl 3 rfl) ?_
  refine lv_iconst (v := 0) hx hb dL_bind_1 (by decide) ?_
  refine lv_aload_n hx hb dL_bind_2 rfl (lv_at hl 0 rfl) ?_
  refine lv_iload_n hx hb dL_bind_3 rfl (lv_at hl 1 rfl) ?_
  refine lv_iload_n hx hb dL_bind_4 rfl (lv_at hl 2 rfl) ?_
  refine g_xc (wr := lo_w cL q f) C hPo hD hS (g_xrunV (wr := lo_w cL q f) (n := 2) C (hM H.size) (rw_V q116 q117 q118 q2 q119) kd_X0_bind ⟨Nat.le_of_ble_eq_true rfl, Nat.le_of_ble_eq_true rfl⟩ (ci := 0) rfl rfl rfl hK2 hPx hD hS hl.1 rfl rfl (Nat.le_of_ble_eq_true rfl) dL_bind_5 ⟨Nat.le_of_ble_eq_true rfl, Nat.le_of_ble_eq_true rfl⟩) (fun ce q9 H locs hPo hPx hD hS hce hcv hcl => ?_)
  refine vx_catch (name := "java/lang/IndexOutOfBoundsException") hown [] ⟨0, 10, 13, 21⟩ [⟨0, 10, 17, 13⟩] (htab.trans rfl) (fun z hz => absurd hz List.not_mem_nil) (by decide) (by decide) (hts _ q75) (va_Nw.use rfl C.2.2.2.2.2.2.2.1.2.2.2.2.2.2.2.2.2.2.2.2.2.2.2.2.2.1) hce hcv hcl ?_
  refine lv_astore (lv' := [(4, .ref q9), (0, .ref o), (1, .int x0), (2, .int x1), (3, .ref q)]) hx hb dL_bind_13 hl (by decide) rfl (fun ls hl => ?_)
  refine lv_iconst (v := 1) hx hb dL_bind_15 (by decide) ?_
  exact g_iret C hrt (va_P.app hPo hPx) hD hS dL_bind_16 ⟨_, _, ⟨rfl, rfl⟩, rfl⟩
set_option maxHeartbeats 4000000 in
set_option maxRecDepth 100000 in
theorem xL_bind2 (l : Launch) (D : va_G) (t : Nat → Nat) (cI cL : ClassId) (o : Nat) (ad : Nat → Nat) (q sz : Nat) (f : Nat → Int64) (u : S0) {x0 x1 : Int32} (hM : ∀ sz, gX l yX0_bind (rw_ yX0_bind cX0_bind 3 (some .int)) (rm_ 7 1 6 104) [.ref o, .int x0, .int x1] D [(cI, .int)] t (ra_w cI o ad u) sz "java/lang/IllegalArgumentException") : gMi l yL_bind (rwW_ yL_bind cL_bind 5 (some .int) [(0, 10, 13, 21), (0, 10, 17, 13)]) (rm_ 8 1 6 130) [.ref o, .int x0, .int x1, .ref q] D (lT cI cL) t (lo_w cL q f ++ ra_w cI o ad u) sz (fun r w' => ∃ f' u', (r = 2 ∧ u' = u) ∧ w' = lo_w cL q f' ++ ra_w cI o ad u') := by
  refine g_ofW (cc := cL_bind) (nL := 5) (rt := (some .int)) (hh := [(0, 10, 13, 21), (0, 10, 17, 13)]) (Q := fun A => va_Qi _ (fun w' U => gQ D A w' U) A) (by decide) (Nat.le_of_ble_eq_true rfl) (fun p e s m args below meth c A ls H C hrt htab hS hP hD hl => ?_)
  have hx := C.1
  have hb := C.2.1
  have hown := C.2.2.2.1
  have hts := C.2.2.2.2.1
  have hl : lv_has ls 5 [(0, .ref o), (1, .int x0), (2, .int x1), (3, .ref q)] := hl
  have hPo : va_P D vwCl (lo_w cL q f) H := hP.sub [0] rfl
  have hPx : va_P D vwCl (ra_w cI o ad u) H := hP.sub [1, 2, 3, 4, 5, 6, 7, 8, 9, 10, 11, 12, 13] rfl
  have hK2 := C.2.2.2.2.2.1.sub (tys' := [(cI, .int)]) [0] rfl
  refine lv_aload_n hx hb dL_bind_0 rfl (lv_at hl 3 rfl) ?_
  refine lv_iconst (v := 0) hx hb dL_bind_1 (by decide) ?_
  refine lv_aload_n hx hb dL_bind_2 rfl (lv_at hl 0 rfl) ?_
  refine lv_iload_n hx hb dL_bind_3 rfl (lv_at hl 1 rfl) ?_
  refine lv_iload_n hx hb dL_bind_4 rfl (lv_at hl 2 rfl) ?_
  refine g_xc (wr := lo_w cL q f) C hPo hD hS (g_xrunV (wr := lo_w cL q f) (n := 2) C (hM H.size) (rw_V q116 q117 q118 q2 q119) kd_X0_bind ⟨Nat.le_of_ble_eq_true rfl, Nat.le_of_ble_eq_true rfl⟩ (ci := 0) rfl rfl rfl hK2 hPx hD hS hl.1 rfl rfl (Nat.le_of_ble_eq_true rfl) dL_bind_5 ⟨Nat.le_of_ble_eq_true rfl, Nat.le_of_ble_eq_true rfl⟩) (fun ce q9 H locs hPo hPx hD hS hce hcv hcl => ?_)
  refine vx_catch (name := "java/lang/IllegalArgumentException") hown [⟨0, 10, 13, 21⟩] ⟨0, 10, 17, 13⟩ [] (htab.trans rfl) (List.forall_mem_cons.mpr ⟨Or.inr ⟨by decide, "java/lang/IndexOutOfBoundsException", hts _ q75, C.2.2.2.2.2.2.2.1.2.2.2.2.2.2.2.2.2.2.2.2.2.2.2.2.2.2.2.2.2.2.2.2.1⟩, fun z hz => absurd hz List.not_mem_nil⟩) (by decide) (by decide) (hts _ q38) (va_Nw.use rfl C.2.2.2.2.2.2.2.1.2.2.2.2.2.2.2.2.2.2.2.2.2.2.2.2.2.2.1) hce hcv hcl ?_
  refine lv_astore (lv' := [(4, .ref q9), (0, .ref o), (1, .int x0), (2, .int x1), (3, .ref q)]) hx hb dL_bind_17 hl (by decide) rfl (fun ls hl => ?_)
  refine lv_iconst (v := 2) hx hb dL_bind_19 (by decide) ?_
  exact g_iret C hrt (va_P.app hPo hPx) hD hS dL_bind_20 ⟨_, _, ⟨rfl, rfl⟩, rfl⟩
theorem kd_L_work : yL_work.cls ≠ "java/lang/invoke/MethodHandle" ∧ yL_work.cls ≠ "java/lang/invoke/VarHandle" ∧ (parseMethodDescriptor yL_work.desc).map (fun d => d.parameters.length) = some 5 := by decide +kernel
set_option maxHeartbeats 4000000 in
set_option maxRecDepth 100000 in
theorem mL_work (l : Launch) (D : va_G) (t : Nat → Nat) (cI cL : ClassId) (o : Nat) (ad : Nat → Nat) (q sz : Nat) (f : Nat → Int64) (u : S0) {x0 x1 x2 : Int32} {val : Int32} {u2 : S0} (hM : ∀ sz, gMi l yX0_work (rw_ yX0_work cX0_work 4 (some .int)) (rm_ 1 0 0 22) [.ref o, .int x0, .int x1, .int x2] D [(cI, .int)] t (ra_w cI o ad u) sz (fun v w' => v = val ∧ w' = ra_w cI o ad u2)) : gMi l yL_work (rwW_ yL_work cL_work 6 (some .int) [(0, 12, 15, 21), (0, 12, 19, 13), (0, 12, 23, 15)]) (rm_ 2 0 0 49) [.ref o, .int x0, .int x1, .int x2, .ref q] D (lT cI cL) t (lo_w cL q f ++ ra_w cI o ad u) sz (fun r w' => ∃ f' u', (r = 0 ∧ u' = u2 ∧ f' 0 = Int32.toInt64 val) ∧ w' = lo_w cL q f' ++ ra_w cI o ad u') := by
  refine g_ofW (cc := cL_work) (nL := 6) (rt := (some .int)) (hh := [(0, 12, 15, 21), (0, 12, 19, 13), (0, 12, 23, 15)]) (Q := fun A => va_Qi _ (fun w' U => gQ D A w' U) A) (by decide) (Nat.le_of_ble_eq_true rfl) (fun p e s m args below meth c A ls H C hrt htab hS hP hD hl => ?_)
  have hx := C.1
  have hb := C.2.1
  have hown := C.2.2.2.1
  have hts := C.2.2.2.2.1
  have hl : lv_has ls 6 [(0, .ref o), (1, .int x0), (2, .int x1), (3, .int x2), (4, .ref q)] := hl
  have hPo : va_P D vwCl (lo_w cL q f) H := hP.sub [0] rfl
  have hPx : va_P D vwCl (ra_w cI o ad u) H := hP.sub [1, 2, 3, 4, 5, 6, 7, 8, 9, 10, 11, 12, 13] rfl
  have hK2 := C.2.2.2.2.2.1.sub (tys' := [(cI, .int)]) [0] rfl
  refine lv_aload hx hb dL_work_0 (lv_at hl 4 rfl) ?_
  refine lv_iconst (v := 0) hx hb dL_work_2 (by decide) ?_
  refine lv_aload_n hx hb dL_work_3 rfl (lv_at hl 0 rfl) ?_
  refine lv_iload_n hx hb dL_work_4 rfl (lv_at hl 1 rfl) ?_
  refine lv_iload_n hx hb dL_work_5 rfl (lv_at hl 2 rfl) ?_
  refine lv_iload_n hx hb dL_work_6 rfl (lv_at hl 3 rfl) ?_
  refine g_ci (wr := lo_w cL q f) (cells' := 0) (slots' := 0) rfl rfl C hPo hD hS (g_runV (wr := lo_w cL q f) (n := 3) C (hM H.size) (rw_V q135 q136 q137 q2 q138) kd_X0_work ⟨Nat.le_of_ble_eq_true rfl, Nat.le_of_ble_eq_true rfl⟩ (ci := 0) rfl rfl rfl hK2 hPx hD hS hl.1 rfl rfl (Nat.le_of_ble_eq_true rfl) dL_work_7 ⟨Nat.le_of_ble_eq_true rfl, Nat.le_of_ble_eq_true rfl⟩) (fun r9 w' H locs hv _ hPo hPx hD hS => ?_)
  obtain ⟨rfl, rfl⟩ := hv
  refine lv_i2l hx hb dL_work_10 rfl ?_
  refine g_lo C hPo hPx hD hS dL_work_11 (fun H locs f1 hf1 hP hD hS => ?_)
  refine lv_goto (tgt := 27) hx hb dL_work_12 (by decide) ?_
  refine lv_iconst (v := 0) hx hb dL_work_27 (by decide) ?_
  exact g_iret C hrt hP hD hS dL_work_28 ⟨_, _, ⟨rfl, rfl, hf1⟩, rfl⟩
set_option maxHeartbeats 4000000 in
set_option maxRecDepth 100000 in
theorem xL_work1 (l : Launch) (D : va_G) (t : Nat → Nat) (cI cL : ClassId) (o : Nat) (ad : Nat → Nat) (q sz : Nat) (f : Nat → Int64) (u : S0) {x0 x1 x2 : Int32} (hM : ∀ sz, gX l yX0_work (rw_ yX0_work cX0_work 4 (some .int)) (rm_ 7 1 6 103) [.ref o, .int x0, .int x1, .int x2] D [(cI, .int)] t (ra_w cI o ad u) sz "java/lang/IndexOutOfBoundsException") : gMi l yL_work (rwW_ yL_work cL_work 6 (some .int) [(0, 12, 15, 21), (0, 12, 19, 13), (0, 12, 23, 15)]) (rm_ 8 1 6 130) [.ref o, .int x0, .int x1, .int x2, .ref q] D (lT cI cL) t (lo_w cL q f ++ ra_w cI o ad u) sz (fun r w' => ∃ f' u', (r = 1 ∧ u' = u) ∧ w' = lo_w cL q f' ++ ra_w cI o ad u') := by
  refine g_ofW (cc := cL_work) (nL := 6) (rt := (some .int)) (hh := [(0, 12, 15, 21), (0, 12, 19, 13), (0, 12, 23, 15)]) (Q := fun A => va_Qi _ (fun w' U => gQ D A w' U) A) (by decide) (Nat.le_of_ble_eq_true rfl) (fun p e s m args below meth c A ls H C hrt htab hS hP hD hl => ?_)
  have hx := C.1
  have hb := C.2.1
  have hown := C.2.2.2.1
  have hts := C.2.2.2.2.1
  have hl : lv_has ls 6 [(0, .ref o), (1, .int x0), (2, .int x1), (3, .int x2), (4, .ref q)] := hl
  have hPo : va_P D vwCl (lo_w cL q f) H := hP.sub [0] rfl
  have hPx : va_P D vwCl (ra_w cI o ad u) H := hP.sub [1, 2, 3, 4, 5, 6, 7, 8, 9, 10, 11, 12, 13] rfl
  have hK2 := C.2.2.2.2.2.1.sub (tys' := [(cI, .int)]) [0] rfl
  refine lv_aload hx hb dL_work_0 (lv_at hl 4 rfl) ?_
  refine lv_iconst (v := 0) hx hb dL_work_2 (by decide) ?_
  refine lv_aload_n hx hb dL_work_3 rfl (lv_at hl 0 rfl) ?_
  refine lv_iload_n hx hb dL_work_4 rfl (lv_at hl 1 rfl) ?_
  refine lv_iload_n hx hb dL_work_5 rfl (lv_at hl 2 rfl) ?_
  refine lv_iload_n hx hb dL_work_6 rfl (lv_at hl 3 rfl) ?_
  refine g_xc (wr := lo_w cL q f) C hPo hD hS (g_xrunV (wr := lo_w cL q f) (n := 3) C (hM H.size) (rw_V q135 q136 q137 q2 q138) kd_X0_work ⟨Nat.le_of_ble_eq_true rfl, Nat.le_of_ble_eq_true rfl⟩ (ci := 0) rfl rfl rfl hK2 hPx hD hS hl.1 rfl rfl (Nat.le_of_ble_eq_true rfl) dL_work_7 ⟨Nat.le_of_ble_eq_true rfl, Nat.le_of_ble_eq_true rfl⟩) (fun ce q9 H locs hPo hPx hD hS hce hcv hcl => ?_)
  refine vx_catch (name := "java/lang/IndexOutOfBoundsException") hown [] ⟨0, 12, 15, 21⟩ [⟨0, 12, 19, 13⟩, ⟨0, 12, 23, 15⟩] (htab.trans rfl) (fun z hz => absurd hz List.not_mem_nil) (by decide) (by decide) (hts _ q75) (va_Nw.use rfl C.2.2.2.2.2.2.2.1.2.2.2.2.2.2.2.2.2.2.2.2.2.2.2.2.2.1) hce hcv hcl ?_
  refine lv_astore (lv' := [(5, .ref q9), (0, .ref o), (1, .int x0), (2, .int x1), (3, .int x2), (4, .ref q)]) hx hb dL_work_15 hl (by decide) rfl (fun ls hl => ?_)
  refine lv_iconst (v := 1) hx hb dL_work_17 (by decide) ?_
  exact g_iret C hrt (va_P.app hPo hPx) hD hS dL_work_18 ⟨_, _, ⟨rfl, rfl⟩, rfl⟩
set_option maxHeartbeats 4000000 in
set_option maxRecDepth 100000 in
theorem xL_work2 (l : Launch) (D : va_G) (t : Nat → Nat) (cI cL : ClassId) (o : Nat) (ad : Nat → Nat) (q sz : Nat) (f : Nat → Int64) (u : S0) {x0 x1 x2 : Int32} (hM : ∀ sz, gX l yX0_work (rw_ yX0_work cX0_work 4 (some .int)) (rm_ 7 1 6 104) [.ref o, .int x0, .int x1, .int x2] D [(cI, .int)] t (ra_w cI o ad u) sz "java/lang/IllegalArgumentException") : gMi l yL_work (rwW_ yL_work cL_work 6 (some .int) [(0, 12, 15, 21), (0, 12, 19, 13), (0, 12, 23, 15)]) (rm_ 8 1 6 131) [.ref o, .int x0, .int x1, .int x2, .ref q] D (lT cI cL) t (lo_w cL q f ++ ra_w cI o ad u) sz (fun r w' => ∃ f' u', (r = 2 ∧ u' = u) ∧ w' = lo_w cL q f' ++ ra_w cI o ad u') := by
  refine g_ofW (cc := cL_work) (nL := 6) (rt := (some .int)) (hh := [(0, 12, 15, 21), (0, 12, 19, 13), (0, 12, 23, 15)]) (Q := fun A => va_Qi _ (fun w' U => gQ D A w' U) A) (by decide) (Nat.le_of_ble_eq_true rfl) (fun p e s m args below meth c A ls H C hrt htab hS hP hD hl => ?_)
  have hx := C.1
  have hb := C.2.1
  have hown := C.2.2.2.1
  have hts := C.2.2.2.2.1
  have hl : lv_has ls 6 [(0, .ref o), (1, .int x0), (2, .int x1), (3, .int x2), (4, .ref q)] := hl
  have hPo : va_P D vwCl (lo_w cL q f) H := hP.sub [0] rfl
  have hPx : va_P D vwCl (ra_w cI o ad u) H := hP.sub [1, 2, 3, 4, 5, 6, 7, 8, 9, 10, 11, 12, 13] rfl
  have hK2 := C.2.2.2.2.2.1.sub (tys' := [(cI, .int)]) [0] rfl
  refine lv_aload hx hb dL_work_0 (lv_at hl 4 rfl) ?_
  refine lv_iconst (v := 0) hx hb dL_work_2 (by decide) ?_
  refine lv_aload_n hx hb dL_work_3 rfl (lv_at hl 0 rfl) ?_
  refine lv_iload_n hx hb dL_work_4 rfl (lv_at hl 1 rfl) ?_
  refine lv_iload_n hx hb dL_work_5 rfl (lv_at hl 2 rfl) ?_
  refine lv_iload_n hx hb dL_work_6 rfl (lv_at hl 3 rfl) ?_
  refine g_xc (wr := lo_w cL q f) C hPo hD hS (g_xrunV (wr := lo_w cL q f) (n := 3) C (hM H.size) (rw_V q135 q136 q137 q2 q138) kd_X0_work ⟨Nat.le_of_ble_eq_true rfl, Nat.le_of_ble_eq_true rfl⟩ (ci := 0) rfl rfl rfl hK2 hPx hD hS hl.1 rfl rfl (Nat.le_of_ble_eq_true rfl) dL_work_7 ⟨Nat.le_of_ble_eq_true rfl, Nat.le_of_ble_eq_true rfl⟩) (fun ce q9 H locs hPo hPx hD hS hce hcv hcl => ?_)
  refine vx_catch (name := "java/lang/IllegalArgumentException") hown [⟨0, 12, 15, 21⟩] ⟨0, 12, 19, 13⟩ [⟨0, 12, 23, 15⟩] (htab.trans rfl) (List.forall_mem_cons.mpr ⟨Or.inr ⟨by decide, "java/lang/IndexOutOfBoundsException", hts _ q75, C.2.2.2.2.2.2.2.1.2.2.2.2.2.2.2.2.2.2.2.2.2.2.2.2.2.2.2.2.2.2.2.2.1⟩, fun z hz => absurd hz List.not_mem_nil⟩) (by decide) (by decide) (hts _ q38) (va_Nw.use rfl C.2.2.2.2.2.2.2.1.2.2.2.2.2.2.2.2.2.2.2.2.2.2.2.2.2.2.1) hce hcv hcl ?_
  refine lv_astore (lv' := [(5, .ref q9), (0, .ref o), (1, .int x0), (2, .int x1), (3, .int x2), (4, .ref q)]) hx hb dL_work_19 hl (by decide) rfl (fun ls hl => ?_)
  refine lv_iconst (v := 2) hx hb dL_work_21 (by decide) ?_
  exact g_iret C hrt (va_P.app hPo hPx) hD hS dL_work_22 ⟨_, _, ⟨rfl, rfl⟩, rfl⟩
set_option maxHeartbeats 4000000 in
set_option maxRecDepth 100000 in
theorem xL_work3 (l : Launch) (D : va_G) (t : Nat → Nat) (cI cL : ClassId) (o : Nat) (ad : Nat → Nat) (q sz : Nat) (f : Nat → Int64) (u : S0) {x0 x1 x2 : Int32} (hM : ∀ sz, gX l yX0_work (rw_ yX0_work cX0_work 4 (some .int)) (rm_ 7 1 6 102) [.ref o, .int x0, .int x1, .int x2] D [(cI, .int)] t (ra_w cI o ad u) sz "java/lang/IllegalStateException") : gMi l yL_work (rwW_ yL_work cL_work 6 (some .int) [(0, 12, 15, 21), (0, 12, 19, 13), (0, 12, 23, 15)]) (rm_ 8 1 6 129) [.ref o, .int x0, .int x1, .int x2, .ref q] D (lT cI cL) t (lo_w cL q f ++ ra_w cI o ad u) sz (fun r w' => ∃ f' u', (r = 3 ∧ u' = u) ∧ w' = lo_w cL q f' ++ ra_w cI o ad u') := by
  refine g_ofW (cc := cL_work) (nL := 6) (rt := (some .int)) (hh := [(0, 12, 15, 21), (0, 12, 19, 13), (0, 12, 23, 15)]) (Q := fun A => va_Qi _ (fun w' U => gQ D A w' U) A) (by decide) (Nat.le_of_ble_eq_true rfl) (fun p e s m args below meth c A ls H C hrt htab hS hP hD hl => ?_)
  have hx := C.1
  have hb := C.2.1
  have hown := C.2.2.2.1
  have hts := C.2.2.2.2.1
  have hl : lv_has ls 6 [(0, .ref o), (1, .int x0), (2, .int x1), (3, .int x2), (4, .ref q)] := hl
  have hPo : va_P D vwCl (lo_w cL q f) H := hP.sub [0] rfl
  have hPx : va_P D vwCl (ra_w cI o ad u) H := hP.sub [1, 2, 3, 4, 5, 6, 7, 8, 9, 10, 11, 12, 13] rfl
  have hK2 := C.2.2.2.2.2.1.sub (tys' := [(cI, .int)]) [0] rfl
  refine lv_aload hx hb dL_work_0 (lv_at hl 4 rfl) ?_
  refine lv_iconst (v := 0) hx hb dL_work_2 (by decide) ?_
  refine lv_aload_n hx hb dL_work_3 rfl (lv_at hl 0 rfl) ?_
  refine lv_iload_n hx hb dL_work_4 rfl (lv_at hl 1 rfl) ?_
  refine lv_iload_n hx hb dL_work_5 rfl (lv_at hl 2 rfl) ?_
  refine lv_iload_n hx hb dL_work_6 rfl (lv_at hl 3 rfl) ?_
  refine g_xc (wr := lo_w cL q f) C hPo hD hS (g_xrunV (wr := lo_w cL q f) (n := 3) C (hM H.size) (rw_V q135 q136 q137 q2 q138) kd_X0_work ⟨Nat.le_of_ble_eq_true rfl, Nat.le_of_ble_eq_true rfl⟩ (ci := 0) rfl rfl rfl hK2 hPx hD hS hl.1 rfl rfl (Nat.le_of_ble_eq_true rfl) dL_work_7 ⟨Nat.le_of_ble_eq_true rfl, Nat.le_of_ble_eq_true rfl⟩) (fun ce q9 H locs hPo hPx hD hS hce hcv hcl => ?_)
  refine vx_catch (name := "java/lang/IllegalStateException") hown [⟨0, 12, 15, 21⟩, ⟨0, 12, 19, 13⟩] ⟨0, 12, 23, 15⟩ [] (htab.trans rfl) (List.forall_mem_cons.mpr ⟨Or.inr ⟨by decide, "java/lang/IndexOutOfBoundsException", hts _ q75, C.2.2.2.2.2.2.2.1.2.2.2.2.2.2.2.2.2.2.2.2.2.2.2.2.2.2.2.2.2.2.2.2.2⟩, List.forall_mem_cons.mpr ⟨Or.inr ⟨by decide, "java/lang/IllegalArgumentException", hts _ q38, C.2.2.2.2.2.2.2.1.2.2.2.2.2.2.2.2.2.2.2.2.2.2.2.2.2.2.2.2.2.2.2.1⟩, fun z hz => absurd hz List.not_mem_nil⟩⟩) (by decide) (by decide) (hts _ q39) (va_Nw.use rfl C.2.2.2.2.2.2.2.1.2.2.2.2.2.2.2.2.2.2.2.2.2.2.2.2.2.2.2.1) hce hcv hcl ?_
  refine lv_astore (lv' := [(5, .ref q9), (0, .ref o), (1, .int x0), (2, .int x1), (3, .int x2), (4, .ref q)]) hx hb dL_work_23 hl (by decide) rfl (fun ls hl => ?_)
  refine lv_iconst (v := 3) hx hb dL_work_25 (by decide) ?_
  exact g_iret C hrt (va_P.app hPo hPx) hD hS dL_work_26 ⟨_, _, ⟨rfl, rfl⟩, rfl⟩
theorem kd_L_lend : yL_lend.cls ≠ "java/lang/invoke/MethodHandle" ∧ yL_lend.cls ≠ "java/lang/invoke/VarHandle" ∧ (parseMethodDescriptor yL_lend.desc).map (fun d => d.parameters.length) = some 4 := by decide +kernel
set_option maxHeartbeats 4000000 in
set_option maxRecDepth 100000 in
theorem mL_lend (l : Launch) (D : va_G) (t : Nat → Nat) (cI cL : ClassId) (o : Nat) (ad : Nat → Nat) (q sz : Nat) (f : Nat → Int64) (u : S0) {x0 x1 : Int32} {val : Int32} {u2 : S0} (hM : ∀ sz, gMi l yX0_lend (rw_ yX0_lend cX0_lend 3 (some .int)) (rm_ 1 0 0 22) [.ref o, .int x0, .int x1] D [(cI, .int)] t (ra_w cI o ad u) sz (fun v w' => v = val ∧ w' = ra_w cI o ad u2)) : gMi l yL_lend (rwW_ yL_lend cL_lend 5 (some .int) [(0, 10, 13, 21), (0, 10, 17, 13), (0, 10, 21, 15)]) (rm_ 2 0 0 48) [.ref o, .int x0, .int x1, .ref q] D (lT cI cL) t (lo_w cL q f ++ ra_w cI o ad u) sz (fun r w' => ∃ f' u', (r = 0 ∧ u' = u2 ∧ f' 0 = Int32.toInt64 val) ∧ w' = lo_w cL q f' ++ ra_w cI o ad u') := by
  refine g_ofW (cc := cL_lend) (nL := 5) (rt := (some .int)) (hh := [(0, 10, 13, 21), (0, 10, 17, 13), (0, 10, 21, 15)]) (Q := fun A => va_Qi _ (fun w' U => gQ D A w' U) A) (by decide) (Nat.le_of_ble_eq_true rfl) (fun p e s m args below meth c A ls H C hrt htab hS hP hD hl => ?_)
  have hx := C.1
  have hb := C.2.1
  have hown := C.2.2.2.1
  have hts := C.2.2.2.2.1
  have hl : lv_has ls 5 [(0, .ref o), (1, .int x0), (2, .int x1), (3, .ref q)] := hl
  have hPo : va_P D vwCl (lo_w cL q f) H := hP.sub [0] rfl
  have hPx : va_P D vwCl (ra_w cI o ad u) H := hP.sub [1, 2, 3, 4, 5, 6, 7, 8, 9, 10, 11, 12, 13] rfl
  have hK2 := C.2.2.2.2.2.1.sub (tys' := [(cI, .int)]) [0] rfl
  refine lv_aload_n hx hb dL_lend_0 rfl (lv_at hl 3 rfl) ?_
  refine lv_iconst (v := 0) hx hb dL_lend_1 (by decide) ?_
  refine lv_aload_n hx hb dL_lend_2 rfl (lv_at hl 0 rfl) ?_
  refine lv_iload_n hx hb dL_lend_3 rfl (lv_at hl 1 rfl) ?_
  refine lv_iload_n hx hb dL_lend_4 rfl (lv_at hl 2 rfl) ?_
  refine g_ci (wr := lo_w cL q f) (cells' := 0) (slots' := 0) rfl rfl C hPo hD hS (g_runV (wr := lo_w cL q f) (n := 2) C (hM H.size) (rw_V q146 q147 q148 q2 q149) kd_X0_lend ⟨Nat.le_of_ble_eq_true rfl, Nat.le_of_ble_eq_true rfl⟩ (ci := 0) rfl rfl rfl hK2 hPx hD hS hl.1 rfl rfl (Nat.le_of_ble_eq_true rfl) dL_lend_5 ⟨Nat.le_of_ble_eq_true rfl, Nat.le_of_ble_eq_true rfl⟩) (fun r9 w' H locs hv _ hPo hPx hD hS => ?_)
  obtain ⟨rfl, rfl⟩ := hv
  refine lv_i2l hx hb dL_lend_8 rfl ?_
  refine g_lo C hPo hPx hD hS dL_lend_9 (fun H locs f1 hf1 hP hD hS => ?_)
  refine lv_goto (tgt := 25) hx hb dL_lend_10 (by decide) ?_
  refine lv_iconst (v := 0) hx hb dL_lend_25 (by decide) ?_
  exact g_iret C hrt hP hD hS dL_lend_26 ⟨_, _, ⟨rfl, rfl, hf1⟩, rfl⟩
set_option maxHeartbeats 4000000 in
set_option maxRecDepth 100000 in
theorem xL_lend1 (l : Launch) (D : va_G) (t : Nat → Nat) (cI cL : ClassId) (o : Nat) (ad : Nat → Nat) (q sz : Nat) (f : Nat → Int64) (u : S0) {x0 x1 : Int32} (hM : ∀ sz, gX l yX0_lend (rw_ yX0_lend cX0_lend 3 (some .int)) (rm_ 7 1 6 103) [.ref o, .int x0, .int x1] D [(cI, .int)] t (ra_w cI o ad u) sz "java/lang/IndexOutOfBoundsException") : gMi l yL_lend (rwW_ yL_lend cL_lend 5 (some .int) [(0, 10, 13, 21), (0, 10, 17, 13), (0, 10, 21, 15)]) (rm_ 8 1 6 129) [.ref o, .int x0, .int x1, .ref q] D (lT cI cL) t (lo_w cL q f ++ ra_w cI o ad u) sz (fun r w' => ∃ f' u', (r = 1 ∧ u' = u) ∧ w' = lo_w cL q f' ++ ra_w cI o ad u') := by
  refine g_ofW (cc := cL_lend) (nL := 5) (rt := (some .int)) (hh := [(0, 10, 13, 21), (0, 10, 17, 13), (0, 10, 21, 15)]) (Q := fun A => va_Qi _ (fun w' U => gQ D A w' U) A) (by decide) (Nat.le_of_ble_eq_true rfl) (fun p e s m args below meth c A ls H C hrt htab hS hP hD hl => ?_)
  have hx := C.1
  have hb := C.2.1
  have hown := C.2.2.2.1
  have hts := C.2.2.2.2.1
  have hl : lv_has ls 5 [(0, .ref o), (1, .int x0), (2, .int x1), (3, .ref q)] := hl
  have hPo : va_P D vwCl (lo_w cL q f) H := hP.sub [0] rfl
  have hPx : va_P D vwCl (ra_w cI o ad u) H := hP.sub [1, 2, 3, 4, 5, 6, 7, 8, 9, 10, 11, 12, 13] rfl
  have hK2 := C.2.2.2.2.2.1.sub (tys' := [(cI, .int)]) [0] rfl
  refine lv_aload_n hx hb dL_lend_0 rfl (lv_at hl 3 rfl) ?_
  refine lv_iconst (v := 0) hx hb dL_lend_1 (by decide) ?_
  refine lv_aload_n hx hb dL_lend_2 rfl (lv_at hl 0 rfl) ?_
  refine lv_iload_n hx hb dL_lend_3 rfl (lv_at hl 1 rfl) ?_
  refine lv_iload_n hx hb dL_lend_4 rfl (lv_at hl 2 rfl) ?_
  refine g_xc (wr := lo_w cL q f) C hPo hD hS (g_xrunV (wr := lo_w cL q f) (n := 2) C (hM H.size) (rw_V q146 q147 q148 q2 q149) kd_X0_lend ⟨Nat.le_of_ble_eq_true rfl, Nat.le_of_ble_eq_true rfl⟩ (ci := 0) rfl rfl rfl hK2 hPx hD hS hl.1 rfl rfl (Nat.le_of_ble_eq_true rfl) dL_lend_5 ⟨Nat.le_of_ble_eq_true rfl, Nat.le_of_ble_eq_true rfl⟩) (fun ce q9 H locs hPo hPx hD hS hce hcv hcl => ?_)
  refine vx_catch (name := "java/lang/IndexOutOfBoundsException") hown [] ⟨0, 10, 13, 21⟩ [⟨0, 10, 17, 13⟩, ⟨0, 10, 21, 15⟩] (htab.trans rfl) (fun z hz => absurd hz List.not_mem_nil) (by decide) (by decide) (hts _ q75) (va_Nw.use rfl C.2.2.2.2.2.2.2.1.2.2.2.2.2.2.2.2.2.2.2.2.2.2.2.2.2.1) hce hcv hcl ?_
  refine lv_astore (lv' := [(4, .ref q9), (0, .ref o), (1, .int x0), (2, .int x1), (3, .ref q)]) hx hb dL_lend_13 hl (by decide) rfl (fun ls hl => ?_)
  refine lv_iconst (v := 1) hx hb dL_lend_15 (by decide) ?_
  exact g_iret C hrt (va_P.app hPo hPx) hD hS dL_lend_16 ⟨_, _, ⟨rfl, rfl⟩, rfl⟩
set_option maxHeartbeats 4000000 in
set_option maxRecDepth 100000 in
theorem xL_lend2 (l : Launch) (D : va_G) (t : Nat → Nat) (cI cL : ClassId) (o : Nat) (ad : Nat → Nat) (q sz : Nat) (f : Nat → Int64) (u : S0) {x0 x1 : Int32} (hM : ∀ sz, gX l yX0_lend (rw_ yX0_lend cX0_lend 3 (some .int)) (rm_ 7 1 6 104) [.ref o, .int x0, .int x1] D [(cI, .int)] t (ra_w cI o ad u) sz "java/lang/IllegalArgumentException") : gMi l yL_lend (rwW_ yL_lend cL_lend 5 (some .int) [(0, 10, 13, 21), (0, 10, 17, 13), (0, 10, 21, 15)]) (rm_ 8 1 6 130) [.ref o, .int x0, .int x1, .ref q] D (lT cI cL) t (lo_w cL q f ++ ra_w cI o ad u) sz (fun r w' => ∃ f' u', (r = 2 ∧ u' = u) ∧ w' = lo_w cL q f' ++ ra_w cI o ad u') := by
  refine g_ofW (cc := cL_lend) (nL := 5) (rt := (some .int)) (hh := [(0, 10, 13, 21), (0, 10, 17, 13), (0, 10, 21, 15)]) (Q := fun A => va_Qi _ (fun w' U => gQ D A w' U) A) (by decide) (Nat.le_of_ble_eq_true rfl) (fun p e s m args below meth c A ls H C hrt htab hS hP hD hl => ?_)
  have hx := C.1
  have hb := C.2.1
  have hown := C.2.2.2.1
  have hts := C.2.2.2.2.1
  have hl : lv_has ls 5 [(0, .ref o), (1, .int x0), (2, .int x1), (3, .ref q)] := hl
  have hPo : va_P D vwCl (lo_w cL q f) H := hP.sub [0] rfl
  have hPx : va_P D vwCl (ra_w cI o ad u) H := hP.sub [1, 2, 3, 4, 5, 6, 7, 8, 9, 10, 11, 12, 13] rfl
  have hK2 := C.2.2.2.2.2.1.sub (tys' := [(cI, .int)]) [0] rfl
  refine lv_aload_n hx hb dL_lend_0 rfl (lv_at hl 3 rfl) ?_
  refine lv_iconst (v := 0) hx hb dL_lend_1 (by decide) ?_
  refine lv_aload_n hx hb dL_lend_2 rfl (lv_at hl 0 rfl) ?_
  refine lv_iload_n hx hb dL_lend_3 rfl (lv_at hl 1 rfl) ?_
  refine lv_iload_n hx hb dL_lend_4 rfl (lv_at hl 2 rfl) ?_
  refine g_xc (wr := lo_w cL q f) C hPo hD hS (g_xrunV (wr := lo_w cL q f) (n := 2) C (hM H.size) (rw_V q146 q147 q148 q2 q149) kd_X0_lend ⟨Nat.le_of_ble_eq_true rfl, Nat.le_of_ble_eq_true rfl⟩ (ci := 0) rfl rfl rfl hK2 hPx hD hS hl.1 rfl rfl (Nat.le_of_ble_eq_true rfl) dL_lend_5 ⟨Nat.le_of_ble_eq_true rfl, Nat.le_of_ble_eq_true rfl⟩) (fun ce q9 H locs hPo hPx hD hS hce hcv hcl => ?_)
  refine vx_catch (name := "java/lang/IllegalArgumentException") hown [⟨0, 10, 13, 21⟩] ⟨0, 10, 17, 13⟩ [⟨0, 10, 21, 15⟩] (htab.trans rfl) (List.forall_mem_cons.mpr ⟨Or.inr ⟨by decide, "java/lang/IndexOutOfBoundsException", hts _ q75, C.2.2.2.2.2.2.2.1.2.2.2.2.2.2.2.2.2.2.2.2.2.2.2.2.2.2.2.2.2.2.2.2.1⟩, fun z hz => absurd hz List.not_mem_nil⟩) (by decide) (by decide) (hts _ q38) (va_Nw.use rfl C.2.2.2.2.2.2.2.1.2.2.2.2.2.2.2.2.2.2.2.2.2.2.2.2.2.2.1) hce hcv hcl ?_
  refine lv_astore (lv' := [(4, .ref q9), (0, .ref o), (1, .int x0), (2, .int x1), (3, .ref q)]) hx hb dL_lend_17 hl (by decide) rfl (fun ls hl => ?_)
  refine lv_iconst (v := 2) hx hb dL_lend_19 (by decide) ?_
  exact g_iret C hrt (va_P.app hPo hPx) hD hS dL_lend_20 ⟨_, _, ⟨rfl, rfl⟩, rfl⟩
set_option maxHeartbeats 4000000 in
set_option maxRecDepth 100000 in
theorem xL_lend3 (l : Launch) (D : va_G) (t : Nat → Nat) (cI cL : ClassId) (o : Nat) (ad : Nat → Nat) (q sz : Nat) (f : Nat → Int64) (u : S0) {x0 x1 : Int32} (hM : ∀ sz, gX l yX0_lend (rw_ yX0_lend cX0_lend 3 (some .int)) (rm_ 7 1 6 102) [.ref o, .int x0, .int x1] D [(cI, .int)] t (ra_w cI o ad u) sz "java/lang/IllegalStateException") : gMi l yL_lend (rwW_ yL_lend cL_lend 5 (some .int) [(0, 10, 13, 21), (0, 10, 17, 13), (0, 10, 21, 15)]) (rm_ 8 1 6 128) [.ref o, .int x0, .int x1, .ref q] D (lT cI cL) t (lo_w cL q f ++ ra_w cI o ad u) sz (fun r w' => ∃ f' u', (r = 3 ∧ u' = u) ∧ w' = lo_w cL q f' ++ ra_w cI o ad u') := by
  refine g_ofW (cc := cL_lend) (nL := 5) (rt := (some .int)) (hh := [(0, 10, 13, 21), (0, 10, 17, 13), (0, 10, 21, 15)]) (Q := fun A => va_Qi _ (fun w' U => gQ D A w' U) A) (by decide) (Nat.le_of_ble_eq_true rfl) (fun p e s m args below meth c A ls H C hrt htab hS hP hD hl => ?_)
  have hx := C.1
  have hb := C.2.1
  have hown := C.2.2.2.1
  have hts := C.2.2.2.2.1
  have hl : lv_has ls 5 [(0, .ref o), (1, .int x0), (2, .int x1), (3, .ref q)] := hl
  have hPo : va_P D vwCl (lo_w cL q f) H := hP.sub [0] rfl
  have hPx : va_P D vwCl (ra_w cI o ad u) H := hP.sub [1, 2, 3, 4, 5, 6, 7, 8, 9, 10, 11, 12, 13] rfl
  have hK2 := C.2.2.2.2.2.1.sub (tys' := [(cI, .int)]) [0] rfl
  refine lv_aload_n hx hb dL_lend_0 rfl (lv_at hl 3 rfl) ?_
  refine lv_iconst (v := 0) hx hb dL_lend_1 (by decide) ?_
  refine lv_aload_n hx hb dL_lend_2 rfl (lv_at hl 0 rfl) ?_
  refine lv_iload_n hx hb dL_lend_3 rfl (lv_at hl 1 rfl) ?_
  refine lv_iload_n hx hb dL_lend_4 rfl (lv_at hl 2 rfl) ?_
  refine g_xc (wr := lo_w cL q f) C hPo hD hS (g_xrunV (wr := lo_w cL q f) (n := 2) C (hM H.size) (rw_V q146 q147 q148 q2 q149) kd_X0_lend ⟨Nat.le_of_ble_eq_true rfl, Nat.le_of_ble_eq_true rfl⟩ (ci := 0) rfl rfl rfl hK2 hPx hD hS hl.1 rfl rfl (Nat.le_of_ble_eq_true rfl) dL_lend_5 ⟨Nat.le_of_ble_eq_true rfl, Nat.le_of_ble_eq_true rfl⟩) (fun ce q9 H locs hPo hPx hD hS hce hcv hcl => ?_)
  refine vx_catch (name := "java/lang/IllegalStateException") hown [⟨0, 10, 13, 21⟩, ⟨0, 10, 17, 13⟩] ⟨0, 10, 21, 15⟩ [] (htab.trans rfl) (List.forall_mem_cons.mpr ⟨Or.inr ⟨by decide, "java/lang/IndexOutOfBoundsException", hts _ q75, C.2.2.2.2.2.2.2.1.2.2.2.2.2.2.2.2.2.2.2.2.2.2.2.2.2.2.2.2.2.2.2.2.2⟩, List.forall_mem_cons.mpr ⟨Or.inr ⟨by decide, "java/lang/IllegalArgumentException", hts _ q38, C.2.2.2.2.2.2.2.1.2.2.2.2.2.2.2.2.2.2.2.2.2.2.2.2.2.2.2.2.2.2.2.1⟩, fun z hz => absurd hz List.not_mem_nil⟩⟩) (by decide) (by decide) (hts _ q39) (va_Nw.use rfl C.2.2.2.2.2.2.2.1.2.2.2.2.2.2.2.2.2.2.2.2.2.2.2.2.2.2.2.1) hce hcv hcl ?_
  refine lv_astore (lv' := [(4, .ref q9), (0, .ref o), (1, .int x0), (2, .int x1), (3, .ref q)]) hx hb dL_lend_21 hl (by decide) rfl (fun ls hl => ?_)
  refine lv_iconst (v := 3) hx hb dL_lend_23 (by decide) ?_
  exact g_iret C hrt (va_P.app hPo hPx) hD hS dL_lend_24 ⟨_, _, ⟨rfl, rfl⟩, rfl⟩
theorem kd_L_told : yL_told.cls ≠ "java/lang/invoke/MethodHandle" ∧ yL_told.cls ≠ "java/lang/invoke/VarHandle" ∧ (parseMethodDescriptor yL_told.desc).map (fun d => d.parameters.length) = some 4 := by decide +kernel
set_option maxHeartbeats 4000000 in
set_option maxRecDepth 100000 in
theorem mL_told (l : Launch) (D : va_G) (t : Nat → Nat) (cI cL : ClassId) (o : Nat) (ad : Nat → Nat) (q sz : Nat) (f : Nat → Int64) (u : S0) {x0 x1 : Int32} {val : Int32} {u2 : S0} (hM : ∀ sz, gMi l yX0_told (rw_ yX0_told cX0_told 3 (some .int)) (rm_ 2 0 0 45) [.ref o, .int x0, .int x1] D [(cI, .int)] t (ra_w cI o ad u) sz (fun v w' => v = val ∧ w' = ra_w cI o ad u2)) : gMi l yL_told (rwW_ yL_told cL_told 5 (some .int) [(0, 10, 13, 21)]) (rm_ 3 0 0 71) [.ref o, .int x0, .int x1, .ref q] D (lT cI cL) t (lo_w cL q f ++ ra_w cI o ad u) sz (fun r w' => ∃ f' u', (r = 0 ∧ u' = u2 ∧ f' 0 = Int32.toInt64 val) ∧ w' = lo_w cL q f' ++ ra_w cI o ad u') := by
  refine g_ofW (cc := cL_told) (nL := 5) (rt := (some .int)) (hh := [(0, 10, 13, 21)]) (Q := fun A => va_Qi _ (fun w' U => gQ D A w' U) A) (by decide) (Nat.le_of_ble_eq_true rfl) (fun p e s m args below meth c A ls H C hrt htab hS hP hD hl => ?_)
  have hx := C.1
  have hb := C.2.1
  have hown := C.2.2.2.1
  have hts := C.2.2.2.2.1
  have hl : lv_has ls 5 [(0, .ref o), (1, .int x0), (2, .int x1), (3, .ref q)] := hl
  have hPo : va_P D vwCl (lo_w cL q f) H := hP.sub [0] rfl
  have hPx : va_P D vwCl (ra_w cI o ad u) H := hP.sub [1, 2, 3, 4, 5, 6, 7, 8, 9, 10, 11, 12, 13] rfl
  have hK2 := C.2.2.2.2.2.1.sub (tys' := [(cI, .int)]) [0] rfl
  refine lv_aload_n hx hb dL_told_0 rfl (lv_at hl 3 rfl) ?_
  refine lv_iconst (v := 0) hx hb dL_told_1 (by decide) ?_
  refine lv_aload_n hx hb dL_told_2 rfl (lv_at hl 0 rfl) ?_
  refine lv_iload_n hx hb dL_told_3 rfl (lv_at hl 1 rfl) ?_
  refine lv_iload_n hx hb dL_told_4 rfl (lv_at hl 2 rfl) ?_
  refine g_ci (wr := lo_w cL q f) (cells' := 0) (slots' := 0) rfl rfl C hPo hD hS (g_runV (wr := lo_w cL q f) (n := 2) C (hM H.size) (rw_V q246 q247 q248 q2 q249) kd_X0_told ⟨Nat.le_of_ble_eq_true rfl, Nat.le_of_ble_eq_true rfl⟩ (ci := 0) rfl rfl rfl hK2 hPx hD hS hl.1 rfl rfl (Nat.le_of_ble_eq_true rfl) dL_told_5 ⟨Nat.le_of_ble_eq_true rfl, Nat.le_of_ble_eq_true rfl⟩) (fun r9 w' H locs hv _ hPo hPx hD hS => ?_)
  obtain ⟨rfl, rfl⟩ := hv
  refine lv_i2l hx hb dL_told_8 rfl ?_
  refine g_lo C hPo hPx hD hS dL_told_9 (fun H locs f1 hf1 hP hD hS => ?_)
  refine lv_goto (tgt := 17) hx hb dL_told_10 (by decide) ?_
  refine lv_iconst (v := 0) hx hb dL_told_17 (by decide) ?_
  exact g_iret C hrt hP hD hS dL_told_18 ⟨_, _, ⟨rfl, rfl, hf1⟩, rfl⟩
set_option maxHeartbeats 4000000 in
set_option maxRecDepth 100000 in
theorem xL_told1 (l : Launch) (D : va_G) (t : Nat → Nat) (cI cL : ClassId) (o : Nat) (ad : Nat → Nat) (q sz : Nat) (f : Nat → Int64) (u : S0) {x0 x1 : Int32} (hM : ∀ sz, gX l yX0_told (rw_ yX0_told cX0_told 3 (some .int)) (rm_ 7 1 6 103) [.ref o, .int x0, .int x1] D [(cI, .int)] t (ra_w cI o ad u) sz "java/lang/IndexOutOfBoundsException") : gMi l yL_told (rwW_ yL_told cL_told 5 (some .int) [(0, 10, 13, 21)]) (rm_ 8 1 6 129) [.ref o, .int x0, .int x1, .ref q] D (lT cI cL) t (lo_w cL q f ++ ra_w cI o ad u) sz (fun r w' => ∃ f' u', (r = 1 ∧ u' = u) ∧ w' = lo_w cL q f' ++ ra_w cI o ad u') := by
  refine g_ofW (cc := cL_told) (nL := 5) (rt := (some .int)) (hh := [(0, 10, 13, 21)]) (Q := fun A => va_Qi _ (fun w' U => gQ D A w' U) A) (by decide) (Nat.le_of_ble_eq_true rfl) (fun p e s m args below meth c A ls H C hrt htab hS hP hD hl => ?_)
  have hx := C.1
  have hb := C.2.1
  have hown := C.2.2.2.1
  have hts := C.2.2.2.2.1
  have hl : lv_has ls 5 [(0, .ref o), (1, .int x0), (2, .int x1), (3, .ref q)] := hl
  have hPo : va_P D vwCl (lo_w cL q f) H := hP.sub [0] rfl
  have hPx : va_P D vwCl (ra_w cI o ad u) H := hP.sub [1, 2, 3, 4, 5, 6, 7, 8, 9, 10, 11, 12, 13] rfl
  have hK2 := C.2.2.2.2.2.1.sub (tys' := [(cI, .int)]) [0] rfl
  refine lv_aload_n hx hb dL_told_0 rfl (lv_at hl 3 rfl) ?_
  refine lv_iconst (v := 0) hx hb dL_told_1 (by decide) ?_
  refine lv_aload_n hx hb dL_told_2 rfl (lv_at hl 0 rfl) ?_
  refine lv_iload_n hx hb dL_told_3 rfl (lv_at hl 1 rfl) ?_
  refine lv_iload_n hx hb dL_told_4 rfl (lv_at hl 2 rfl) ?_
  refine g_xc (wr := lo_w cL q f) C hPo hD hS (g_xrunV (wr := lo_w cL q f) (n := 2) C (hM H.size) (rw_V q246 q247 q248 q2 q249) kd_X0_told ⟨Nat.le_of_ble_eq_true rfl, Nat.le_of_ble_eq_true rfl⟩ (ci := 0) rfl rfl rfl hK2 hPx hD hS hl.1 rfl rfl (Nat.le_of_ble_eq_true rfl) dL_told_5 ⟨Nat.le_of_ble_eq_true rfl, Nat.le_of_ble_eq_true rfl⟩) (fun ce q9 H locs hPo hPx hD hS hce hcv hcl => ?_)
  refine vx_catch (name := "java/lang/IndexOutOfBoundsException") hown [] ⟨0, 10, 13, 21⟩ [] (htab.trans rfl) (fun z hz => absurd hz List.not_mem_nil) (by decide) (by decide) (hts _ q75) (va_Nw.use rfl C.2.2.2.2.2.2.2.1.2.2.2.2.2.2.2.2.2.2.2.2.2.2.2.2.2.1) hce hcv hcl ?_
  refine lv_astore (lv' := [(4, .ref q9), (0, .ref o), (1, .int x0), (2, .int x1), (3, .ref q)]) hx hb dL_told_13 hl (by decide) rfl (fun ls hl => ?_)
  refine lv_iconst (v := 1) hx hb dL_told_15 (by decide) ?_
  exact g_iret C hrt (va_P.app hPo hPx) hD hS dL_told_16 ⟨_, _, ⟨rfl, rfl⟩, rfl⟩
set_option maxHeartbeats 4000000 in
set_option maxRecDepth 100000 in
theorem xL_told2 (l : Launch) (D : va_G) (t : Nat → Nat) (cI cL : ClassId) (o : Nat) (ad : Nat → Nat) (q sz : Nat) (f : Nat → Int64) (u : S0) {x0 x1 : Int32} (hM : ∀ sz, gX l yX0_told (rw_ yX0_told cX0_told 3 (some .int)) (rm_ 7 1 6 103) [.ref o, .int x0, .int x1] D [(cI, .int)] t (ra_w cI o ad u) sz "java/lang/IndexOutOfBoundsException") : gMi l yL_told (rwW_ yL_told cL_told 5 (some .int) [(0, 10, 13, 21)]) (rm_ 8 1 6 129) [.ref o, .int x0, .int x1, .ref q] D (lT cI cL) t (lo_w cL q f ++ ra_w cI o ad u) sz (fun r w' => ∃ f' u', (r = 1 ∧ u' = u) ∧ w' = lo_w cL q f' ++ ra_w cI o ad u') := by
  refine g_ofW (cc := cL_told) (nL := 5) (rt := (some .int)) (hh := [(0, 10, 13, 21)]) (Q := fun A => va_Qi _ (fun w' U => gQ D A w' U) A) (by decide) (Nat.le_of_ble_eq_true rfl) (fun p e s m args below meth c A ls H C hrt htab hS hP hD hl => ?_)
  have hx := C.1
  have hb := C.2.1
  have hown := C.2.2.2.1
  have hts := C.2.2.2.2.1
  have hl : lv_has ls 5 [(0, .ref o), (1, .int x0), (2, .int x1), (3, .ref q)] := hl
  have hPo : va_P D vwCl (lo_w cL q f) H := hP.sub [0] rfl
  have hPx : va_P D vwCl (ra_w cI o ad u) H := hP.sub [1, 2, 3, 4, 5, 6, 7, 8, 9, 10, 11, 12, 13] rfl
  have hK2 := C.2.2.2.2.2.1.sub (tys' := [(cI, .int)]) [0] rfl
  refine lv_aload_n hx hb dL_told_0 rfl (lv_at hl 3 rfl) ?_
  refine lv_iconst (v := 0) hx hb dL_told_1 (by decide) ?_
  refine lv_aload_n hx hb dL_told_2 rfl (lv_at hl 0 rfl) ?_
  refine lv_iload_n hx hb dL_told_3 rfl (lv_at hl 1 rfl) ?_
  refine lv_iload_n hx hb dL_told_4 rfl (lv_at hl 2 rfl) ?_
  refine g_xc (wr := lo_w cL q f) C hPo hD hS (g_xrunV (wr := lo_w cL q f) (n := 2) C (hM H.size) (rw_V q246 q247 q248 q2 q249) kd_X0_told ⟨Nat.le_of_ble_eq_true rfl, Nat.le_of_ble_eq_true rfl⟩ (ci := 0) rfl rfl rfl hK2 hPx hD hS hl.1 rfl rfl (Nat.le_of_ble_eq_true rfl) dL_told_5 ⟨Nat.le_of_ble_eq_true rfl, Nat.le_of_ble_eq_true rfl⟩) (fun ce q9 H locs hPo hPx hD hS hce hcv hcl => ?_)
  refine vx_catch (name := "java/lang/IndexOutOfBoundsException") hown [] ⟨0, 10, 13, 21⟩ [] (htab.trans rfl) (fun z hz => absurd hz List.not_mem_nil) (by decide) (by decide) (hts _ q75) (va_Nw.use rfl C.2.2.2.2.2.2.2.1.2.2.2.2.2.2.2.2.2.2.2.2.2.2.2.2.2.1) hce hcv hcl ?_
  refine lv_astore (lv' := [(4, .ref q9), (0, .ref o), (1, .int x0), (2, .int x1), (3, .ref q)]) hx hb dL_told_13 hl (by decide) rfl (fun ls hl => ?_)
  refine lv_iconst (v := 1) hx hb dL_told_15 (by decide) ?_
  exact g_iret C hrt (va_P.app hPo hPx) hD hS dL_told_16 ⟨_, _, ⟨rfl, rfl⟩, rfl⟩
theorem kd_L_wage : yL_wage.cls ≠ "java/lang/invoke/MethodHandle" ∧ yL_wage.cls ≠ "java/lang/invoke/VarHandle" ∧ (parseMethodDescriptor yL_wage.desc).map (fun d => d.parameters.length) = some 4 := by decide +kernel
set_option maxHeartbeats 4000000 in
set_option maxRecDepth 100000 in
theorem mL_wage (l : Launch) (D : va_G) (t : Nat → Nat) (cI cL : ClassId) (o : Nat) (ad : Nat → Nat) (q sz : Nat) (f : Nat → Int64) (u : S0) {x0 x1 : Int32} {val : Int32} {u2 : S0} (hM : ∀ sz, gMi l yX0_wage (rw_ yX0_wage cX0_wage 3 (some .int)) (rm_ 6 0 0 132) [.ref o, .int x0, .int x1] D [(cI, .int)] t (ra_w cI o ad u) sz (fun v w' => v = val ∧ w' = ra_w cI o ad u2)) : gMi l yL_wage (rwW_ yL_wage cL_wage 5 (some .int) [(0, 10, 13, 21)]) (rm_ 7 0 0 158) [.ref o, .int x0, .int x1, .ref q] D (lT cI cL) t (lo_w cL q f ++ ra_w cI o ad u) sz (fun r w' => ∃ f' u', (r = 0 ∧ u' = u2 ∧ f' 0 = Int32.toInt64 val) ∧ w' = lo_w cL q f' ++ ra_w cI o ad u') := by
  refine g_ofW (cc := cL_wage) (nL := 5) (rt := (some .int)) (hh := [(0, 10, 13, 21)]) (Q := fun A => va_Qi _ (fun w' U => gQ D A w' U) A) (by decide) (Nat.le_of_ble_eq_true rfl) (fun p e s m args below meth c A ls H C hrt htab hS hP hD hl => ?_)
  have hx := C.1
  have hb := C.2.1
  have hown := C.2.2.2.1
  have hts := C.2.2.2.2.1
  have hl : lv_has ls 5 [(0, .ref o), (1, .int x0), (2, .int x1), (3, .ref q)] := hl
  have hPo : va_P D vwCl (lo_w cL q f) H := hP.sub [0] rfl
  have hPx : va_P D vwCl (ra_w cI o ad u) H := hP.sub [1, 2, 3, 4, 5, 6, 7, 8, 9, 10, 11, 12, 13] rfl
  have hK2 := C.2.2.2.2.2.1.sub (tys' := [(cI, .int)]) [0] rfl
  refine lv_aload_n hx hb dL_wage_0 rfl (lv_at hl 3 rfl) ?_
  refine lv_iconst (v := 0) hx hb dL_wage_1 (by decide) ?_
  refine lv_aload_n hx hb dL_wage_2 rfl (lv_at hl 0 rfl) ?_
  refine lv_iload_n hx hb dL_wage_3 rfl (lv_at hl 1 rfl) ?_
  refine lv_iload_n hx hb dL_wage_4 rfl (lv_at hl 2 rfl) ?_
  refine g_ci (wr := lo_w cL q f) (cells' := 0) (slots' := 0) rfl rfl C hPo hD hS (g_runV (wr := lo_w cL q f) (n := 2) C (hM H.size) (rw_V q261 q262 q263 q2 q264) kd_X0_wage ⟨Nat.le_of_ble_eq_true rfl, Nat.le_of_ble_eq_true rfl⟩ (ci := 0) rfl rfl rfl hK2 hPx hD hS hl.1 rfl rfl (Nat.le_of_ble_eq_true rfl) dL_wage_5 ⟨Nat.le_of_ble_eq_true rfl, Nat.le_of_ble_eq_true rfl⟩) (fun r9 w' H locs hv _ hPo hPx hD hS => ?_)
  obtain ⟨rfl, rfl⟩ := hv
  refine lv_i2l hx hb dL_wage_8 rfl ?_
  refine g_lo C hPo hPx hD hS dL_wage_9 (fun H locs f1 hf1 hP hD hS => ?_)
  refine lv_goto (tgt := 17) hx hb dL_wage_10 (by decide) ?_
  refine lv_iconst (v := 0) hx hb dL_wage_17 (by decide) ?_
  exact g_iret C hrt hP hD hS dL_wage_18 ⟨_, _, ⟨rfl, rfl, hf1⟩, rfl⟩
set_option maxHeartbeats 4000000 in
set_option maxRecDepth 100000 in
theorem xL_wage1 (l : Launch) (D : va_G) (t : Nat → Nat) (cI cL : ClassId) (o : Nat) (ad : Nat → Nat) (q sz : Nat) (f : Nat → Int64) (u : S0) {x0 x1 : Int32} (hM : ∀ sz, gX l yX0_wage (rw_ yX0_wage cX0_wage 3 (some .int)) (rm_ 7 1 6 103) [.ref o, .int x0, .int x1] D [(cI, .int)] t (ra_w cI o ad u) sz "java/lang/IndexOutOfBoundsException") : gMi l yL_wage (rwW_ yL_wage cL_wage 5 (some .int) [(0, 10, 13, 21)]) (rm_ 8 1 6 129) [.ref o, .int x0, .int x1, .ref q] D (lT cI cL) t (lo_w cL q f ++ ra_w cI o ad u) sz (fun r w' => ∃ f' u', (r = 1 ∧ u' = u) ∧ w' = lo_w cL q f' ++ ra_w cI o ad u') := by
  refine g_ofW (cc := cL_wage) (nL := 5) (rt := (some .int)) (hh := [(0, 10, 13, 21)]) (Q := fun A => va_Qi _ (fun w' U => gQ D A w' U) A) (by decide) (Nat.le_of_ble_eq_true rfl) (fun p e s m args below meth c A ls H C hrt htab hS hP hD hl => ?_)
  have hx := C.1
  have hb := C.2.1
  have hown := C.2.2.2.1
  have hts := C.2.2.2.2.1
  have hl : lv_has ls 5 [(0, .ref o), (1, .int x0), (2, .int x1), (3, .ref q)] := hl
  have hPo : va_P D vwCl (lo_w cL q f) H := hP.sub [0] rfl
  have hPx : va_P D vwCl (ra_w cI o ad u) H := hP.sub [1, 2, 3, 4, 5, 6, 7, 8, 9, 10, 11, 12, 13] rfl
  have hK2 := C.2.2.2.2.2.1.sub (tys' := [(cI, .int)]) [0] rfl
  refine lv_aload_n hx hb dL_wage_0 rfl (lv_at hl 3 rfl) ?_
  refine lv_iconst (v := 0) hx hb dL_wage_1 (by decide) ?_
  refine lv_aload_n hx hb dL_wage_2 rfl (lv_at hl 0 rfl) ?_
  refine lv_iload_n hx hb dL_wage_3 rfl (lv_at hl 1 rfl) ?_
  refine lv_iload_n hx hb dL_wage_4 rfl (lv_at hl 2 rfl) ?_
  refine g_xc (wr := lo_w cL q f) C hPo hD hS (g_xrunV (wr := lo_w cL q f) (n := 2) C (hM H.size) (rw_V q261 q262 q263 q2 q264) kd_X0_wage ⟨Nat.le_of_ble_eq_true rfl, Nat.le_of_ble_eq_true rfl⟩ (ci := 0) rfl rfl rfl hK2 hPx hD hS hl.1 rfl rfl (Nat.le_of_ble_eq_true rfl) dL_wage_5 ⟨Nat.le_of_ble_eq_true rfl, Nat.le_of_ble_eq_true rfl⟩) (fun ce q9 H locs hPo hPx hD hS hce hcv hcl => ?_)
  refine vx_catch (name := "java/lang/IndexOutOfBoundsException") hown [] ⟨0, 10, 13, 21⟩ [] (htab.trans rfl) (fun z hz => absurd hz List.not_mem_nil) (by decide) (by decide) (hts _ q75) (va_Nw.use rfl C.2.2.2.2.2.2.2.1.2.2.2.2.2.2.2.2.2.2.2.2.2.2.2.2.2.1) hce hcv hcl ?_
  refine lv_astore (lv' := [(4, .ref q9), (0, .ref o), (1, .int x0), (2, .int x1), (3, .ref q)]) hx hb dL_wage_13 hl (by decide) rfl (fun ls hl => ?_)
  refine lv_iconst (v := 1) hx hb dL_wage_15 (by decide) ?_
  exact g_iret C hrt (va_P.app hPo hPx) hD hS dL_wage_16 ⟨_, _, ⟨rfl, rfl⟩, rfl⟩
set_option maxHeartbeats 4000000 in
set_option maxRecDepth 100000 in
theorem xL_wage2 (l : Launch) (D : va_G) (t : Nat → Nat) (cI cL : ClassId) (o : Nat) (ad : Nat → Nat) (q sz : Nat) (f : Nat → Int64) (u : S0) {x0 x1 : Int32} (hM : ∀ sz, gX l yX0_wage (rw_ yX0_wage cX0_wage 3 (some .int)) (rm_ 7 1 6 103) [.ref o, .int x0, .int x1] D [(cI, .int)] t (ra_w cI o ad u) sz "java/lang/IndexOutOfBoundsException") : gMi l yL_wage (rwW_ yL_wage cL_wage 5 (some .int) [(0, 10, 13, 21)]) (rm_ 8 1 6 129) [.ref o, .int x0, .int x1, .ref q] D (lT cI cL) t (lo_w cL q f ++ ra_w cI o ad u) sz (fun r w' => ∃ f' u', (r = 1 ∧ u' = u) ∧ w' = lo_w cL q f' ++ ra_w cI o ad u') := by
  refine g_ofW (cc := cL_wage) (nL := 5) (rt := (some .int)) (hh := [(0, 10, 13, 21)]) (Q := fun A => va_Qi _ (fun w' U => gQ D A w' U) A) (by decide) (Nat.le_of_ble_eq_true rfl) (fun p e s m args below meth c A ls H C hrt htab hS hP hD hl => ?_)
  have hx := C.1
  have hb := C.2.1
  have hown := C.2.2.2.1
  have hts := C.2.2.2.2.1
  have hl : lv_has ls 5 [(0, .ref o), (1, .int x0), (2, .int x1), (3, .ref q)] := hl
  have hPo : va_P D vwCl (lo_w cL q f) H := hP.sub [0] rfl
  have hPx : va_P D vwCl (ra_w cI o ad u) H := hP.sub [1, 2, 3, 4, 5, 6, 7, 8, 9, 10, 11, 12, 13] rfl
  have hK2 := C.2.2.2.2.2.1.sub (tys' := [(cI, .int)]) [0] rfl
  refine lv_aload_n hx hb dL_wage_0 rfl (lv_at hl 3 rfl) ?_
  refine lv_iconst (v := 0) hx hb dL_wage_1 (by decide) ?_
  refine lv_aload_n hx hb dL_wage_2 rfl (lv_at hl 0 rfl) ?_
  refine lv_iload_n hx hb dL_wage_3 rfl (lv_at hl 1 rfl) ?_
  refine lv_iload_n hx hb dL_wage_4 rfl (lv_at hl 2 rfl) ?_
  refine g_xc (wr := lo_w cL q f) C hPo hD hS (g_xrunV (wr := lo_w cL q f) (n := 2) C (hM H.size) (rw_V q261 q262 q263 q2 q264) kd_X0_wage ⟨Nat.le_of_ble_eq_true rfl, Nat.le_of_ble_eq_true rfl⟩ (ci := 0) rfl rfl rfl hK2 hPx hD hS hl.1 rfl rfl (Nat.le_of_ble_eq_true rfl) dL_wage_5 ⟨Nat.le_of_ble_eq_true rfl, Nat.le_of_ble_eq_true rfl⟩) (fun ce q9 H locs hPo hPx hD hS hce hcv hcl => ?_)
  refine vx_catch (name := "java/lang/IndexOutOfBoundsException") hown [] ⟨0, 10, 13, 21⟩ [] (htab.trans rfl) (fun z hz => absurd hz List.not_mem_nil) (by decide) (by decide) (hts _ q75) (va_Nw.use rfl C.2.2.2.2.2.2.2.1.2.2.2.2.2.2.2.2.2.2.2.2.2.2.2.2.2.1) hce hcv hcl ?_
  refine lv_astore (lv' := [(4, .ref q9), (0, .ref o), (1, .int x0), (2, .int x1), (3, .ref q)]) hx hb dL_wage_13 hl (by decide) rfl (fun ls hl => ?_)
  refine lv_iconst (v := 1) hx hb dL_wage_15 (by decide) ?_
  exact g_iret C hrt (va_P.app hPo hPx) hD hS dL_wage_16 ⟨_, _, ⟨rfl, rfl⟩, rfl⟩
theorem kd_L_chest : yL_chest.cls ≠ "java/lang/invoke/MethodHandle" ∧ yL_chest.cls ≠ "java/lang/invoke/VarHandle" ∧ (parseMethodDescriptor yL_chest.desc).map (fun d => d.parameters.length) = some 3 := by decide +kernel
set_option maxHeartbeats 4000000 in
set_option maxRecDepth 100000 in
theorem mL_chest (l : Launch) (D : va_G) (t : Nat → Nat) (cI cL : ClassId) (o : Nat) (ad : Nat → Nat) (q sz : Nat) (f : Nat → Int64) (u : S0) {x0 : Int32} {val : Int32} {u2 : S0} (hM : ∀ sz, gMi l yX0_chest (rw_ yX0_chest cX0_chest 2 (some .int)) (rm_ 1 0 0 21) [.ref o, .int x0] D [(cI, .int)] t (ra_w cI o ad u) sz (fun v w' => v = val ∧ w' = ra_w cI o ad u2)) : gMi l yL_chest (rwW_ yL_chest cL_chest 4 (some .int) [(0, 9, 12, 21)]) (rm_ 2 0 0 46) [.ref o, .int x0, .ref q] D (lT cI cL) t (lo_w cL q f ++ ra_w cI o ad u) sz (fun r w' => ∃ f' u', (r = 0 ∧ u' = u2 ∧ f' 0 = Int32.toInt64 val) ∧ w' = lo_w cL q f' ++ ra_w cI o ad u') := by
  refine g_ofW (cc := cL_chest) (nL := 4) (rt := (some .int)) (hh := [(0, 9, 12, 21)]) (Q := fun A => va_Qi _ (fun w' U => gQ D A w' U) A) (by decide) (Nat.le_of_ble_eq_true rfl) (fun p e s m args below meth c A ls H C hrt htab hS hP hD hl => ?_)
  have hx := C.1
  have hb := C.2.1
  have hown := C.2.2.2.1
  have hts := C.2.2.2.2.1
  have hl : lv_has ls 4 [(0, .ref o), (1, .int x0), (2, .ref q)] := hl
  have hPo : va_P D vwCl (lo_w cL q f) H := hP.sub [0] rfl
  have hPx : va_P D vwCl (ra_w cI o ad u) H := hP.sub [1, 2, 3, 4, 5, 6, 7, 8, 9, 10, 11, 12, 13] rfl
  have hK2 := C.2.2.2.2.2.1.sub (tys' := [(cI, .int)]) [0] rfl
  refine lv_aload_n hx hb dL_chest_0 rfl (lv_at hl 2 rfl) ?_
  refine lv_iconst (v := 0) hx hb dL_chest_1 (by decide) ?_
  refine lv_aload_n hx hb dL_chest_2 rfl (lv_at hl 0 rfl) ?_
  refine lv_iload_n hx hb dL_chest_3 rfl (lv_at hl 1 rfl) ?_
  refine g_ci (wr := lo_w cL q f) (cells' := 0) (slots' := 0) rfl rfl C hPo hD hS (g_runV (wr := lo_w cL q f) (n := 1) C (hM H.size) (rw_V q280 q281 q282 q2 q283) kd_X0_chest ⟨Nat.le_of_ble_eq_true rfl, Nat.le_of_ble_eq_true rfl⟩ (ci := 0) rfl rfl rfl hK2 hPx hD hS hl.1 rfl rfl (Nat.le_of_ble_eq_true rfl) dL_chest_4 ⟨Nat.le_of_ble_eq_true rfl, Nat.le_of_ble_eq_true rfl⟩) (fun r9 w' H locs hv _ hPo hPx hD hS => ?_)
  obtain ⟨rfl, rfl⟩ := hv
  refine lv_i2l hx hb dL_chest_7 rfl ?_
  refine g_lo C hPo hPx hD hS dL_chest_8 (fun H locs f1 hf1 hP hD hS => ?_)
  refine lv_goto (tgt := 15) hx hb dL_chest_9 (by decide) ?_
  refine lv_iconst (v := 0) hx hb dL_chest_15 (by decide) ?_
  exact g_iret C hrt hP hD hS dL_chest_16 ⟨_, _, ⟨rfl, rfl, hf1⟩, rfl⟩
set_option maxHeartbeats 4000000 in
set_option maxRecDepth 100000 in
theorem xL_chest1 (l : Launch) (D : va_G) (t : Nat → Nat) (cI cL : ClassId) (o : Nat) (ad : Nat → Nat) (q sz : Nat) (f : Nat → Int64) (u : S0) {x0 : Int32} (hM : ∀ sz, gX l yX0_chest (rw_ yX0_chest cX0_chest 2 (some .int)) (rm_ 7 1 6 103) [.ref o, .int x0] D [(cI, .int)] t (ra_w cI o ad u) sz "java/lang/IndexOutOfBoundsException") : gMi l yL_chest (rwW_ yL_chest cL_chest 4 (some .int) [(0, 9, 12, 21)]) (rm_ 8 1 6 128) [.ref o, .int x0, .ref q] D (lT cI cL) t (lo_w cL q f ++ ra_w cI o ad u) sz (fun r w' => ∃ f' u', (r = 1 ∧ u' = u) ∧ w' = lo_w cL q f' ++ ra_w cI o ad u') := by
  refine g_ofW (cc := cL_chest) (nL := 4) (rt := (some .int)) (hh := [(0, 9, 12, 21)]) (Q := fun A => va_Qi _ (fun w' U => gQ D A w' U) A) (by decide) (Nat.le_of_ble_eq_true rfl) (fun p e s m args below meth c A ls H C hrt htab hS hP hD hl => ?_)
  have hx := C.1
  have hb := C.2.1
  have hown := C.2.2.2.1
  have hts := C.2.2.2.2.1
  have hl : lv_has ls 4 [(0, .ref o), (1, .int x0), (2, .ref q)] := hl
  have hPo : va_P D vwCl (lo_w cL q f) H := hP.sub [0] rfl
  have hPx : va_P D vwCl (ra_w cI o ad u) H := hP.sub [1, 2, 3, 4, 5, 6, 7, 8, 9, 10, 11, 12, 13] rfl
  have hK2 := C.2.2.2.2.2.1.sub (tys' := [(cI, .int)]) [0] rfl
  refine lv_aload_n hx hb dL_chest_0 rfl (lv_at hl 2 rfl) ?_
  refine lv_iconst (v := 0) hx hb dL_chest_1 (by decide) ?_
  refine lv_aload_n hx hb dL_chest_2 rfl (lv_at hl 0 rfl) ?_
  refine lv_iload_n hx hb dL_chest_3 rfl (lv_at hl 1 rfl) ?_
  refine g_xc (wr := lo_w cL q f) C hPo hD hS (g_xrunV (wr := lo_w cL q f) (n := 1) C (hM H.size) (rw_V q280 q281 q282 q2 q283) kd_X0_chest ⟨Nat.le_of_ble_eq_true rfl, Nat.le_of_ble_eq_true rfl⟩ (ci := 0) rfl rfl rfl hK2 hPx hD hS hl.1 rfl rfl (Nat.le_of_ble_eq_true rfl) dL_chest_4 ⟨Nat.le_of_ble_eq_true rfl, Nat.le_of_ble_eq_true rfl⟩) (fun ce q9 H locs hPo hPx hD hS hce hcv hcl => ?_)
  refine vx_catch (name := "java/lang/IndexOutOfBoundsException") hown [] ⟨0, 9, 12, 21⟩ [] (htab.trans rfl) (fun z hz => absurd hz List.not_mem_nil) (by decide) (by decide) (hts _ q75) (va_Nw.use rfl C.2.2.2.2.2.2.2.1.2.2.2.2.2.2.2.2.2.2.2.2.2.2.2.2.2.1) hce hcv hcl ?_
  refine lv_astore_n (lv' := [(3, .ref q9), (0, .ref o), (1, .int x0), (2, .ref q)]) hx hb dL_chest_12 rfl hl (by decide) rfl (fun ls hl => ?_)
  refine lv_iconst (v := 1) hx hb dL_chest_13 (by decide) ?_
  exact g_iret C hrt (va_P.app hPo hPx) hD hS dL_chest_14 ⟨_, _, ⟨rfl, rfl⟩, rfl⟩
theorem kd_L_coins : yL_coins.cls ≠ "java/lang/invoke/MethodHandle" ∧ yL_coins.cls ≠ "java/lang/invoke/VarHandle" ∧ (parseMethodDescriptor yL_coins.desc).map (fun d => d.parameters.length) = some 4 := by decide +kernel
set_option maxHeartbeats 4000000 in
set_option maxRecDepth 100000 in
theorem mL_coins (l : Launch) (D : va_G) (t : Nat → Nat) (cI cL : ClassId) (o : Nat) (ad : Nat → Nat) (q sz : Nat) (f : Nat → Int64) (u : S0) {x0 x1 : Int32} {val : Int32} {u2 : S0} (hM : ∀ sz, gMi l yX0_coins (rw_ yX0_coins cX0_coins 4 (some .int)) (rm_ 6 0 0 132) [.ref o, .int x0, .int x1] D [(cI, .int)] t (ra_w cI o ad u) sz (fun v w' => v = val ∧ w' = ra_w cI o ad u2)) : gMi l yL_coins (rwW_ yL_coins cL_coins 5 (some .int) [(0, 10, 13, 21)]) (rm_ 7 0 0 159) [.ref o, .int x0, .int x1, .ref q] D (lT cI cL) t (lo_w cL q f ++ ra_w cI o ad u) sz (fun r w' => ∃ f' u', (r = 0 ∧ u' = u2 ∧ f' 0 = Int32.toInt64 val) ∧ w' = lo_w cL q f' ++ ra_w cI o ad u') := by
  refine g_ofW (cc := cL_coins) (nL := 5) (rt := (some .int)) (hh := [(0, 10, 13, 21)]) (Q := fun A => va_Qi _ (fun w' U => gQ D A w' U) A) (by decide) (Nat.le_of_ble_eq_true rfl) (fun p e s m args below meth c A ls H C hrt htab hS hP hD hl => ?_)
  have hx := C.1
  have hb := C.2.1
  have hown := C.2.2.2.1
  have hts := C.2.2.2.2.1
  have hl : lv_has ls 5 [(0, .ref o), (1, .int x0), (2, .int x1), (3, .ref q)] := hl
  have hPo : va_P D vwCl (lo_w cL q f) H := hP.sub [0] rfl
  have hPx : va_P D vwCl (ra_w cI o ad u) H := hP.sub [1, 2, 3, 4, 5, 6, 7, 8, 9, 10, 11, 12, 13] rfl
  have hK2 := C.2.2.2.2.2.1.sub (tys' := [(cI, .int)]) [0] rfl
  refine lv_aload_n hx hb dL_coins_0 rfl (lv_at hl 3 rfl) ?_
  refine lv_iconst (v := 0) hx hb dL_coins_1 (by decide) ?_
  refine lv_aload_n hx hb dL_coins_2 rfl (lv_at hl 0 rfl) ?_
  refine lv_iload_n hx hb dL_coins_3 rfl (lv_at hl 1 rfl) ?_
  refine lv_iload_n hx hb dL_coins_4 rfl (lv_at hl 2 rfl) ?_
  refine g_ci (wr := lo_w cL q f) (cells' := 0) (slots' := 0) rfl rfl C hPo hD hS (g_runV (wr := lo_w cL q f) (n := 2) C (hM H.size) (rw_V q291 q292 q293 q2 q294) kd_X0_coins ⟨Nat.le_of_ble_eq_true rfl, Nat.le_of_ble_eq_true rfl⟩ (ci := 0) rfl rfl rfl hK2 hPx hD hS hl.1 rfl rfl (Nat.le_of_ble_eq_true rfl) dL_coins_5 ⟨Nat.le_of_ble_eq_true rfl, Nat.le_of_ble_eq_true rfl⟩) (fun r9 w' H locs hv _ hPo hPx hD hS => ?_)
  obtain ⟨rfl, rfl⟩ := hv
  refine lv_i2l hx hb dL_coins_8 rfl ?_
  refine g_lo C hPo hPx hD hS dL_coins_9 (fun H locs f1 hf1 hP hD hS => ?_)
  refine lv_goto (tgt := 17) hx hb dL_coins_10 (by decide) ?_
  refine lv_iconst (v := 0) hx hb dL_coins_17 (by decide) ?_
  exact g_iret C hrt hP hD hS dL_coins_18 ⟨_, _, ⟨rfl, rfl, hf1⟩, rfl⟩
set_option maxHeartbeats 4000000 in
set_option maxRecDepth 100000 in
theorem xL_coins1 (l : Launch) (D : va_G) (t : Nat → Nat) (cI cL : ClassId) (o : Nat) (ad : Nat → Nat) (q sz : Nat) (f : Nat → Int64) (u : S0) {x0 x1 : Int32} (hM : ∀ sz, gX l yX0_coins (rw_ yX0_coins cX0_coins 4 (some .int)) (rm_ 7 1 6 103) [.ref o, .int x0, .int x1] D [(cI, .int)] t (ra_w cI o ad u) sz "java/lang/IndexOutOfBoundsException") : gMi l yL_coins (rwW_ yL_coins cL_coins 5 (some .int) [(0, 10, 13, 21)]) (rm_ 8 1 6 130) [.ref o, .int x0, .int x1, .ref q] D (lT cI cL) t (lo_w cL q f ++ ra_w cI o ad u) sz (fun r w' => ∃ f' u', (r = 1 ∧ u' = u) ∧ w' = lo_w cL q f' ++ ra_w cI o ad u') := by
  refine g_ofW (cc := cL_coins) (nL := 5) (rt := (some .int)) (hh := [(0, 10, 13, 21)]) (Q := fun A => va_Qi _ (fun w' U => gQ D A w' U) A) (by decide) (Nat.le_of_ble_eq_true rfl) (fun p e s m args below meth c A ls H C hrt htab hS hP hD hl => ?_)
  have hx := C.1
  have hb := C.2.1
  have hown := C.2.2.2.1
  have hts := C.2.2.2.2.1
  have hl : lv_has ls 5 [(0, .ref o), (1, .int x0), (2, .int x1), (3, .ref q)] := hl
  have hPo : va_P D vwCl (lo_w cL q f) H := hP.sub [0] rfl
  have hPx : va_P D vwCl (ra_w cI o ad u) H := hP.sub [1, 2, 3, 4, 5, 6, 7, 8, 9, 10, 11, 12, 13] rfl
  have hK2 := C.2.2.2.2.2.1.sub (tys' := [(cI, .int)]) [0] rfl
  refine lv_aload_n hx hb dL_coins_0 rfl (lv_at hl 3 rfl) ?_
  refine lv_iconst (v := 0) hx hb dL_coins_1 (by decide) ?_
  refine lv_aload_n hx hb dL_coins_2 rfl (lv_at hl 0 rfl) ?_
  refine lv_iload_n hx hb dL_coins_3 rfl (lv_at hl 1 rfl) ?_
  refine lv_iload_n hx hb dL_coins_4 rfl (lv_at hl 2 rfl) ?_
  refine g_xc (wr := lo_w cL q f) C hPo hD hS (g_xrunV (wr := lo_w cL q f) (n := 2) C (hM H.size) (rw_V q291 q292 q293 q2 q294) kd_X0_coins ⟨Nat.le_of_ble_eq_true rfl, Nat.le_of_ble_eq_true rfl⟩ (ci := 0) rfl rfl rfl hK2 hPx hD hS hl.1 rfl rfl (Nat.le_of_ble_eq_true rfl) dL_coins_5 ⟨Nat.le_of_ble_eq_true rfl, Nat.le_of_ble_eq_true rfl⟩) (fun ce q9 H locs hPo hPx hD hS hce hcv hcl => ?_)
  refine vx_catch (name := "java/lang/IndexOutOfBoundsException") hown [] ⟨0, 10, 13, 21⟩ [] (htab.trans rfl) (fun z hz => absurd hz List.not_mem_nil) (by decide) (by decide) (hts _ q75) (va_Nw.use rfl C.2.2.2.2.2.2.2.1.2.2.2.2.2.2.2.2.2.2.2.2.2.2.2.2.2.1) hce hcv hcl ?_
  refine lv_astore (lv' := [(4, .ref q9), (0, .ref o), (1, .int x0), (2, .int x1), (3, .ref q)]) hx hb dL_coins_13 hl (by decide) rfl (fun ls hl => ?_)
  refine lv_iconst (v := 1) hx hb dL_coins_15 (by decide) ?_
  exact g_iret C hrt (va_P.app hPo hPx) hD hS dL_coins_16 ⟨_, _, ⟨rfl, rfl⟩, rfl⟩
set_option maxHeartbeats 4000000 in
set_option maxRecDepth 100000 in
theorem xL_coins2 (l : Launch) (D : va_G) (t : Nat → Nat) (cI cL : ClassId) (o : Nat) (ad : Nat → Nat) (q sz : Nat) (f : Nat → Int64) (u : S0) {x0 x1 : Int32} (hM : ∀ sz, gX l yX0_coins (rw_ yX0_coins cX0_coins 4 (some .int)) (rm_ 7 1 6 103) [.ref o, .int x0, .int x1] D [(cI, .int)] t (ra_w cI o ad u) sz "java/lang/IndexOutOfBoundsException") : gMi l yL_coins (rwW_ yL_coins cL_coins 5 (some .int) [(0, 10, 13, 21)]) (rm_ 8 1 6 130) [.ref o, .int x0, .int x1, .ref q] D (lT cI cL) t (lo_w cL q f ++ ra_w cI o ad u) sz (fun r w' => ∃ f' u', (r = 1 ∧ u' = u) ∧ w' = lo_w cL q f' ++ ra_w cI o ad u') := by
  refine g_ofW (cc := cL_coins) (nL := 5) (rt := (some .int)) (hh := [(0, 10, 13, 21)]) (Q := fun A => va_Qi _ (fun w' U => gQ D A w' U) A) (by decide) (Nat.le_of_ble_eq_true rfl) (fun p e s m args below meth c A ls H C hrt htab hS hP hD hl => ?_)
  have hx := C.1
  have hb := C.2.1
  have hown := C.2.2.2.1
  have hts := C.2.2.2.2.1
  have hl : lv_has ls 5 [(0, .ref o), (1, .int x0), (2, .int x1), (3, .ref q)] := hl
  have hPo : va_P D vwCl (lo_w cL q f) H := hP.sub [0] rfl
  have hPx : va_P D vwCl (ra_w cI o ad u) H := hP.sub [1, 2, 3, 4, 5, 6, 7, 8, 9, 10, 11, 12, 13] rfl
  have hK2 := C.2.2.2.2.2.1.sub (tys' := [(cI, .int)]) [0] rfl
  refine lv_aload_n hx hb dL_coins_0 rfl (lv_at hl 3 rfl) ?_
  refine lv_iconst (v := 0) hx hb dL_coins_1 (by decide) ?_
  refine lv_aload_n hx hb dL_coins_2 rfl (lv_at hl 0 rfl) ?_
  refine lv_iload_n hx hb dL_coins_3 rfl (lv_at hl 1 rfl) ?_
  refine lv_iload_n hx hb dL_coins_4 rfl (lv_at hl 2 rfl) ?_
  refine g_xc (wr := lo_w cL q f) C hPo hD hS (g_xrunV (wr := lo_w cL q f) (n := 2) C (hM H.size) (rw_V q291 q292 q293 q2 q294) kd_X0_coins ⟨Nat.le_of_ble_eq_true rfl, Nat.le_of_ble_eq_true rfl⟩ (ci := 0) rfl rfl rfl hK2 hPx hD hS hl.1 rfl rfl (Nat.le_of_ble_eq_true rfl) dL_coins_5 ⟨Nat.le_of_ble_eq_true rfl, Nat.le_of_ble_eq_true rfl⟩) (fun ce q9 H locs hPo hPx hD hS hce hcv hcl => ?_)
  refine vx_catch (name := "java/lang/IndexOutOfBoundsException") hown [] ⟨0, 10, 13, 21⟩ [] (htab.trans rfl) (fun z hz => absurd hz List.not_mem_nil) (by decide) (by decide) (hts _ q75) (va_Nw.use rfl C.2.2.2.2.2.2.2.1.2.2.2.2.2.2.2.2.2.2.2.2.2.2.2.2.2.1) hce hcv hcl ?_
  refine lv_astore (lv' := [(4, .ref q9), (0, .ref o), (1, .int x0), (2, .int x1), (3, .ref q)]) hx hb dL_coins_13 hl (by decide) rfl (fun ls hl => ?_)
  refine lv_iconst (v := 1) hx hb dL_coins_15 (by decide) ?_
  exact g_iret C hrt (va_P.app hPo hPx) hD hS dL_coins_16 ⟨_, _, ⟨rfl, rfl⟩, rfl⟩
theorem kd_L_count : yL_count.cls ≠ "java/lang/invoke/MethodHandle" ∧ yL_count.cls ≠ "java/lang/invoke/VarHandle" ∧ (parseMethodDescriptor yL_count.desc).map (fun d => d.parameters.length) = some 3 := by decide +kernel
set_option maxHeartbeats 4000000 in
set_option maxRecDepth 100000 in
theorem mL_count (l : Launch) (D : va_G) (t : Nat → Nat) (cI cL : ClassId) (o : Nat) (ad : Nat → Nat) (q sz : Nat) (f : Nat → Int64) (u : S0) {x0 : Int32} {val : Int32} {u2 : S0} (hM : ∀ sz, gMi l yX0_count (rw_ yX0_count cX0_count 2 (some .int)) (rm_ 5 0 0 112) [.ref o, .int x0] D [(cI, .int)] t (ra_w cI o ad u) sz (fun v w' => v = val ∧ w' = ra_w cI o ad u2)) : gMi l yL_count (rwW_ yL_count cL_count 4 (some .int) [(0, 9, 12, 21)]) (rm_ 6 0 0 137) [.ref o, .int x0, .ref q] D (lT cI cL) t (lo_w cL q f ++ ra_w cI o ad u) sz (fun r w' => ∃ f' u', (r = 0 ∧ u' = u2 ∧ f' 0 = Int32.toInt64 val) ∧ w' = lo_w cL q f' ++ ra_w cI o ad u') := by
  refine g_ofW (cc := cL_count) (nL := 4) (rt := (some .int)) (hh := [(0, 9, 12, 21)]) (Q := fun A => va_Qi _ (fun w' U => gQ D A w' U) A) (by decide) (Nat.le_of_ble_eq_true rfl) (fun p e s m args below meth c A ls H C hrt htab hS hP hD hl => ?_)
  have hx := C.1
  have hb := C.2.1
  have hown := C.2.2.2.1
  have hts := C.2.2.2.2.1
  have hl : lv_has ls 4 [(0, .ref o), (1, .int x0), (2, .ref q)] := hl
  have hPo : va_P D vwCl (lo_w cL q f) H := hP.sub [0] rfl
  have hPx : va_P D vwCl (ra_w cI o ad u) H := hP.sub [1, 2, 3, 4, 5, 6, 7, 8, 9, 10, 11, 12, 13] rfl
  have hK2 := C.2.2.2.2.2.1.sub (tys' := [(cI, .int)]) [0] rfl
  refine lv_aload_n hx hb dL_count_0 rfl (lv_at hl 2 rfl) ?_
  refine lv_iconst (v := 0) hx hb dL_count_1 (by decide) ?_
  refine lv_aload_n hx hb dL_count_2 rfl (lv_at hl 0 rfl) ?_
  refine lv_iload_n hx hb dL_count_3 rfl (lv_at hl 1 rfl) ?_
  refine g_ci (wr := lo_w cL q f) (cells' := 0) (slots' := 0) rfl rfl C hPo hD hS (g_runV (wr := lo_w cL q f) (n := 1) C (hM H.size) (rw_V q312 q313 q314 q2 q315) kd_X0_count ⟨Nat.le_of_ble_eq_true rfl, Nat.le_of_ble_eq_true rfl⟩ (ci := 0) rfl rfl rfl hK2 hPx hD hS hl.1 rfl rfl (Nat.le_of_ble_eq_true rfl) dL_count_4 ⟨Nat.le_of_ble_eq_true rfl, Nat.le_of_ble_eq_true rfl⟩) (fun r9 w' H locs hv _ hPo hPx hD hS => ?_)
  obtain ⟨rfl, rfl⟩ := hv
  refine lv_i2l hx hb dL_count_7 rfl ?_
  refine g_lo C hPo hPx hD hS dL_count_8 (fun H locs f1 hf1 hP hD hS => ?_)
  refine lv_goto (tgt := 15) hx hb dL_count_9 (by decide) ?_
  refine lv_iconst (v := 0) hx hb dL_count_15 (by decide) ?_
  exact g_iret C hrt hP hD hS dL_count_16 ⟨_, _, ⟨rfl, rfl, hf1⟩, rfl⟩
set_option maxHeartbeats 4000000 in
set_option maxRecDepth 100000 in
theorem xL_count1 (l : Launch) (D : va_G) (t : Nat → Nat) (cI cL : ClassId) (o : Nat) (ad : Nat → Nat) (q sz : Nat) (f : Nat → Int64) (u : S0) {x0 : Int32} (hM : ∀ sz, gX l yX0_count (rw_ yX0_count cX0_count 2 (some .int)) (rm_ 7 1 6 103) [.ref o, .int x0] D [(cI, .int)] t (ra_w cI o ad u) sz "java/lang/IndexOutOfBoundsException") : gMi l yL_count (rwW_ yL_count cL_count 4 (some .int) [(0, 9, 12, 21)]) (rm_ 8 1 6 128) [.ref o, .int x0, .ref q] D (lT cI cL) t (lo_w cL q f ++ ra_w cI o ad u) sz (fun r w' => ∃ f' u', (r = 1 ∧ u' = u) ∧ w' = lo_w cL q f' ++ ra_w cI o ad u') := by
  refine g_ofW (cc := cL_count) (nL := 4) (rt := (some .int)) (hh := [(0, 9, 12, 21)]) (Q := fun A => va_Qi _ (fun w' U => gQ D A w' U) A) (by decide) (Nat.le_of_ble_eq_true rfl) (fun p e s m args below meth c A ls H C hrt htab hS hP hD hl => ?_)
  have hx := C.1
  have hb := C.2.1
  have hown := C.2.2.2.1
  have hts := C.2.2.2.2.1
  have hl : lv_has ls 4 [(0, .ref o), (1, .int x0), (2, .ref q)] := hl
  have hPo : va_P D vwCl (lo_w cL q f) H := hP.sub [0] rfl
  have hPx : va_P D vwCl (ra_w cI o ad u) H := hP.sub [1, 2, 3, 4, 5, 6, 7, 8, 9, 10, 11, 12, 13] rfl
  have hK2 := C.2.2.2.2.2.1.sub (tys' := [(cI, .int)]) [0] rfl
  refine lv_aload_n hx hb dL_count_0 rfl (lv_at hl 2 rfl) ?_
  refine lv_iconst (v := 0) hx hb dL_count_1 (by decide) ?_
  refine lv_aload_n hx hb dL_count_2 rfl (lv_at hl 0 rfl) ?_
  refine lv_iload_n hx hb dL_count_3 rfl (lv_at hl 1 rfl) ?_
  refine g_xc (wr := lo_w cL q f) C hPo hD hS (g_xrunV (wr := lo_w cL q f) (n := 1) C (hM H.size) (rw_V q312 q313 q314 q2 q315) kd_X0_count ⟨Nat.le_of_ble_eq_true rfl, Nat.le_of_ble_eq_true rfl⟩ (ci := 0) rfl rfl rfl hK2 hPx hD hS hl.1 rfl rfl (Nat.le_of_ble_eq_true rfl) dL_count_4 ⟨Nat.le_of_ble_eq_true rfl, Nat.le_of_ble_eq_true rfl⟩) (fun ce q9 H locs hPo hPx hD hS hce hcv hcl => ?_)
  refine vx_catch (name := "java/lang/IndexOutOfBoundsException") hown [] ⟨0, 9, 12, 21⟩ [] (htab.trans rfl) (fun z hz => absurd hz List.not_mem_nil) (by decide) (by decide) (hts _ q75) (va_Nw.use rfl C.2.2.2.2.2.2.2.1.2.2.2.2.2.2.2.2.2.2.2.2.2.2.2.2.2.1) hce hcv hcl ?_
  refine lv_astore_n (lv' := [(3, .ref q9), (0, .ref o), (1, .int x0), (2, .ref q)]) hx hb dL_count_12 rfl hl (by decide) rfl (fun ls hl => ?_)
  refine lv_iconst (v := 1) hx hb dL_count_13 (by decide) ?_
  exact g_iret C hrt (va_P.app hPo hPx) hD hS dL_count_14 ⟨_, _, ⟨rfl, rfl⟩, rfl⟩
theorem kd_L_rate : yL_rate.cls ≠ "java/lang/invoke/MethodHandle" ∧ yL_rate.cls ≠ "java/lang/invoke/VarHandle" ∧ (parseMethodDescriptor yL_rate.desc).map (fun d => d.parameters.length) = some 3 := by decide +kernel
set_option maxHeartbeats 4000000 in
set_option maxRecDepth 100000 in
theorem mL_rate (l : Launch) (D : va_G) (t : Nat → Nat) (cI cL : ClassId) (o : Nat) (ad : Nat → Nat) (q sz : Nat) (f : Nat → Int64) (u : S0) {x0 : Int32} {val : Int32} {u2 : S0} (hM : ∀ sz, gMi l yX0_rate (rw_ yX0_rate cX0_rate 2 (some .int)) (rm_ 1 0 0 21) [.ref o, .int x0] D [(cI, .int)] t (ra_w cI o ad u) sz (fun v w' => v = val ∧ w' = ra_w cI o ad u2)) : gMi l yL_rate (rwW_ yL_rate cL_rate 4 (some .int) [(0, 9, 12, 21)]) (rm_ 2 0 0 46) [.ref o, .int x0, .ref q] D (lT cI cL) t (lo_w cL q f ++ ra_w cI o ad u) sz (fun r w' => ∃ f' u', (r = 0 ∧ u' = u2 ∧ f' 0 = Int32.toInt64 val) ∧ w' = lo_w cL q f' ++ ra_w cI o ad u') := by
  refine g_ofW (cc := cL_rate) (nL := 4) (rt := (some .int)) (hh := [(0, 9, 12, 21)]) (Q := fun A => va_Qi _ (fun w' U => gQ D A w' U) A) (by decide) (Nat.le_of_ble_eq_true rfl) (fun p e s m args below meth c A ls H C hrt htab hS hP hD hl => ?_)
  have hx := C.1
  have hb := C.2.1
  have hown := C.2.2.2.1
  have hts := C.2.2.2.2.1
  have hl : lv_has ls 4 [(0, .ref o), (1, .int x0), (2, .ref q)] := hl
  have hPo : va_P D vwCl (lo_w cL q f) H := hP.sub [0] rfl
  have hPx : va_P D vwCl (ra_w cI o ad u) H := hP.sub [1, 2, 3, 4, 5, 6, 7, 8, 9, 10, 11, 12, 13] rfl
  have hK2 := C.2.2.2.2.2.1.sub (tys' := [(cI, .int)]) [0] rfl
  refine lv_aload_n hx hb dL_rate_0 rfl (lv_at hl 2 rfl) ?_
  refine lv_iconst (v := 0) hx hb dL_rate_1 (by decide) ?_
  refine lv_aload_n hx hb dL_rate_2 rfl (lv_at hl 0 rfl) ?_
  refine lv_iload_n hx hb dL_rate_3 rfl (lv_at hl 1 rfl) ?_
  refine g_ci (wr := lo_w cL q f) (cells' := 0) (slots' := 0) rfl rfl C hPo hD hS (g_runV (wr := lo_w cL q f) (n := 1) C (hM H.size) (rw_V q347 q348 q349 q2 q350) kd_X0_rate ⟨Nat.le_of_ble_eq_true rfl, Nat.le_of_ble_eq_true rfl⟩ (ci := 0) rfl rfl rfl hK2 hPx hD hS hl.1 rfl rfl (Nat.le_of_ble_eq_true rfl) dL_rate_4 ⟨Nat.le_of_ble_eq_true rfl, Nat.le_of_ble_eq_true rfl⟩) (fun r9 w' H locs hv _ hPo hPx hD hS => ?_)
  obtain ⟨rfl, rfl⟩ := hv
  refine lv_i2l hx hb dL_rate_7 rfl ?_
  refine g_lo C hPo hPx hD hS dL_rate_8 (fun H locs f1 hf1 hP hD hS => ?_)
  refine lv_goto (tgt := 15) hx hb dL_rate_9 (by decide) ?_
  refine lv_iconst (v := 0) hx hb dL_rate_15 (by decide) ?_
  exact g_iret C hrt hP hD hS dL_rate_16 ⟨_, _, ⟨rfl, rfl, hf1⟩, rfl⟩
set_option maxHeartbeats 4000000 in
set_option maxRecDepth 100000 in
theorem xL_rate1 (l : Launch) (D : va_G) (t : Nat → Nat) (cI cL : ClassId) (o : Nat) (ad : Nat → Nat) (q sz : Nat) (f : Nat → Int64) (u : S0) {x0 : Int32} (hM : ∀ sz, gX l yX0_rate (rw_ yX0_rate cX0_rate 2 (some .int)) (rm_ 7 1 6 103) [.ref o, .int x0] D [(cI, .int)] t (ra_w cI o ad u) sz "java/lang/IndexOutOfBoundsException") : gMi l yL_rate (rwW_ yL_rate cL_rate 4 (some .int) [(0, 9, 12, 21)]) (rm_ 8 1 6 128) [.ref o, .int x0, .ref q] D (lT cI cL) t (lo_w cL q f ++ ra_w cI o ad u) sz (fun r w' => ∃ f' u', (r = 1 ∧ u' = u) ∧ w' = lo_w cL q f' ++ ra_w cI o ad u') := by
  refine g_ofW (cc := cL_rate) (nL := 4) (rt := (some .int)) (hh := [(0, 9, 12, 21)]) (Q := fun A => va_Qi _ (fun w' U => gQ D A w' U) A) (by decide) (Nat.le_of_ble_eq_true rfl) (fun p e s m args below meth c A ls H C hrt htab hS hP hD hl => ?_)
  have hx := C.1
  have hb := C.2.1
  have hown := C.2.2.2.1
  have hts := C.2.2.2.2.1
  have hl : lv_has ls 4 [(0, .ref o), (1, .int x0), (2, .ref q)] := hl
  have hPo : va_P D vwCl (lo_w cL q f) H := hP.sub [0] rfl
  have hPx : va_P D vwCl (ra_w cI o ad u) H := hP.sub [1, 2, 3, 4, 5, 6, 7, 8, 9, 10, 11, 12, 13] rfl
  have hK2 := C.2.2.2.2.2.1.sub (tys' := [(cI, .int)]) [0] rfl
  refine lv_aload_n hx hb dL_rate_0 rfl (lv_at hl 2 rfl) ?_
  refine lv_iconst (v := 0) hx hb dL_rate_1 (by decide) ?_
  refine lv_aload_n hx hb dL_rate_2 rfl (lv_at hl 0 rfl) ?_
  refine lv_iload_n hx hb dL_rate_3 rfl (lv_at hl 1 rfl) ?_
  refine g_xc (wr := lo_w cL q f) C hPo hD hS (g_xrunV (wr := lo_w cL q f) (n := 1) C (hM H.size) (rw_V q347 q348 q349 q2 q350) kd_X0_rate ⟨Nat.le_of_ble_eq_true rfl, Nat.le_of_ble_eq_true rfl⟩ (ci := 0) rfl rfl rfl hK2 hPx hD hS hl.1 rfl rfl (Nat.le_of_ble_eq_true rfl) dL_rate_4 ⟨Nat.le_of_ble_eq_true rfl, Nat.le_of_ble_eq_true rfl⟩) (fun ce q9 H locs hPo hPx hD hS hce hcv hcl => ?_)
  refine vx_catch (name := "java/lang/IndexOutOfBoundsException") hown [] ⟨0, 9, 12, 21⟩ [] (htab.trans rfl) (fun z hz => absurd hz List.not_mem_nil) (by decide) (by decide) (hts _ q75) (va_Nw.use rfl C.2.2.2.2.2.2.2.1.2.2.2.2.2.2.2.2.2.2.2.2.2.2.2.2.2.1) hce hcv hcl ?_
  refine lv_astore_n (lv' := [(3, .ref q9), (0, .ref o), (1, .int x0), (2, .ref q)]) hx hb dL_rate_12 rfl hl (by decide) rfl (fun ls hl => ?_)
  refine lv_iconst (v := 1) hx hb dL_rate_13 (by decide) ?_
  exact g_iret C hrt (va_P.app hPo hPx) hD hS dL_rate_14 ⟨_, _, ⟨rfl, rfl⟩, rfl⟩
theorem kd_L_would : yL_would.cls ≠ "java/lang/invoke/MethodHandle" ∧ yL_would.cls ≠ "java/lang/invoke/VarHandle" ∧ (parseMethodDescriptor yL_would.desc).map (fun d => d.parameters.length) = some 4 := by decide +kernel
set_option maxHeartbeats 4000000 in
set_option maxRecDepth 100000 in
theorem mL_would (l : Launch) (D : va_G) (t : Nat → Nat) (cI cL : ClassId) (o : Nat) (ad : Nat → Nat) (q sz : Nat) (f : Nat → Int64) (u : S0) {x0 x1 : Int32} {val : Int32} {u2 : S0} (hM : ∀ sz, gMi l yX0_would (rw_ yX0_would cX0_would 3 (some .int)) (rm_ 5 0 0 112) [.ref o, .int x0, .int x1] D [(cI, .int)] t (ra_w cI o ad u) sz (fun v w' => v = val ∧ w' = ra_w cI o ad u2)) : gMi l yL_would (rwW_ yL_would cL_would 5 (some .int) [(0, 10, 13, 21), (0, 10, 17, 13)]) (rm_ 6 0 0 138) [.ref o, .int x0, .int x1, .ref q] D (lT cI cL) t (lo_w cL q f ++ ra_w cI o ad u) sz (fun r w' => ∃ f' u', (r = 0 ∧ u' = u2 ∧ f' 0 = Int32.toInt64 val) ∧ w' = lo_w cL q f' ++ ra_w cI o ad u') := by
  refine g_ofW (cc := cL_would) (nL := 5) (rt := (some .int)) (hh := [(0, 10, 13, 21), (0, 10, 17, 13)]) (Q := fun A => va_Qi _ (fun w' U => gQ D A w' U) A) (by decide) (Nat.le_of_ble_eq_true rfl) (fun p e s m args below meth c A ls H C hrt htab hS hP hD hl => ?_)
  have hx := C.1
  have hb := C.2.1
  have hown := C.2.2.2.1
  have hts := C.2.2.2.2.1
  have hl : lv_has ls 5 [(0, .ref o), (1, .int x0), (2, .int x1), (3, .ref q)] := hl
  have hPo : va_P D vwCl (lo_w cL q f) H := hP.sub [0] rfl
  have hPx : va_P D vwCl (ra_w cI o ad u) H := hP.sub [1, 2, 3, 4, 5, 6, 7, 8, 9, 10, 11, 12, 13] rfl
  have hK2 := C.2.2.2.2.2.1.sub (tys' := [(cI, .int)]) [0] rfl
  refine lv_aload_n hx hb dL_would_0 rfl (lv_at hl 3 rfl) ?_
  refine lv_iconst (v := 0) hx hb dL_would_1 (by decide) ?_
  refine lv_aload_n hx hb dL_would_2 rfl (lv_at hl 0 rfl) ?_
  refine lv_iload_n hx hb dL_would_3 rfl (lv_at hl 1 rfl) ?_
  refine lv_iload_n hx hb dL_would_4 rfl (lv_at hl 2 rfl) ?_
  refine g_ci (wr := lo_w cL q f) (cells' := 0) (slots' := 0) rfl rfl C hPo hD hS (g_runV (wr := lo_w cL q f) (n := 2) C (hM H.size) (rw_V q362 q363 q364 q2 q365) kd_X0_would ⟨Nat.le_of_ble_eq_true rfl, Nat.le_of_ble_eq_true rfl⟩ (ci := 0) rfl rfl rfl hK2 hPx hD hS hl.1 rfl rfl (Nat.le_of_ble_eq_true rfl) dL_would_5 ⟨Nat.le_of_ble_eq_true rfl, Nat.le_of_ble_eq_true rfl⟩) (fun r9 w' H locs hv _ hPo hPx hD hS => ?_)
  obtain ⟨rfl, rfl⟩ := hv
  refine lv_i2l hx hb dL_would_8 rfl ?_
  refine g_lo C hPo hPx hD hS dL_would_9 (fun H locs f1 hf1 hP hD hS => ?_)
  refine lv_goto (tgt := 21) hx hb dL_would_10 (by decide) ?_
  refine lv_iconst (v := 0) hx hb dL_would_21 (by decide) ?_
  exact g_iret C hrt hP hD hS dL_would_22 ⟨_, _, ⟨rfl, rfl, hf1⟩, rfl⟩
set_option maxHeartbeats 4000000 in
set_option maxRecDepth 100000 in
theorem xL_would1 (l : Launch) (D : va_G) (t : Nat → Nat) (cI cL : ClassId) (o : Nat) (ad : Nat → Nat) (q sz : Nat) (f : Nat → Int64) (u : S0) {x0 x1 : Int32} (hM : ∀ sz, gX l yX0_would (rw_ yX0_would cX0_would 3 (some .int)) (rm_ 8 1 6 124) [.ref o, .int x0, .int x1] D [(cI, .int)] t (ra_w cI o ad u) sz "java/lang/IndexOutOfBoundsException") : gMi l yL_would (rwW_ yL_would cL_would 5 (some .int) [(0, 10, 13, 21), (0, 10, 17, 13)]) (rm_ 9 1 6 150) [.ref o, .int x0, .int x1, .ref q] D (lT cI cL) t (lo_w cL q f ++ ra_w cI o ad u) sz (fun r w' => ∃ f' u', (r = 1 ∧ u' = u) ∧ w' = lo_w cL q f' ++ ra_w cI o ad u') := by
  refine g_ofW (cc := cL_would) (nL := 5) (rt := (some .int)) (hh := [(0, 10, 13, 21), (0, 10, 17, 13)]) (Q := fun A => va_Qi _ (fun w' U => gQ D A w' U) A) (by decide) (Nat.le_of_ble_eq_true rfl) (fun p e s m args below meth c A ls H C hrt htab hS hP hD hl => ?_)
  have hx := C.1
  have hb := C.2.1
  have hown := C.2.2.2.1
  have hts := C.2.2.2.2.1
  have hl : lv_has ls 5 [(0, .ref o), (1, .int x0), (2, .int x1), (3, .ref q)] := hl
  have hPo : va_P D vwCl (lo_w cL q f) H := hP.sub [0] rfl
  have hPx : va_P D vwCl (ra_w cI o ad u) H := hP.sub [1, 2, 3, 4, 5, 6, 7, 8, 9, 10, 11, 12, 13] rfl
  have hK2 := C.2.2.2.2.2.1.sub (tys' := [(cI, .int)]) [0] rfl
  refine lv_aload_n hx hb dL_would_0 rfl (lv_at hl 3 rfl) ?_
  refine lv_iconst (v := 0) hx hb dL_would_1 (by decide) ?_
  refine lv_aload_n hx hb dL_would_2 rfl (lv_at hl 0 rfl) ?_
  refine lv_iload_n hx hb dL_would_3 rfl (lv_at hl 1 rfl) ?_
  refine lv_iload_n hx hb dL_would_4 rfl (lv_at hl 2 rfl) ?_
  refine g_xc (wr := lo_w cL q f) C hPo hD hS (g_xrunV (wr := lo_w cL q f) (n := 2) C (hM H.size) (rw_V q362 q363 q364 q2 q365) kd_X0_would ⟨Nat.le_of_ble_eq_true rfl, Nat.le_of_ble_eq_true rfl⟩ (ci := 0) rfl rfl rfl hK2 hPx hD hS hl.1 rfl rfl (Nat.le_of_ble_eq_true rfl) dL_would_5 ⟨Nat.le_of_ble_eq_true rfl, Nat.le_of_ble_eq_true rfl⟩) (fun ce q9 H locs hPo hPx hD hS hce hcv hcl => ?_)
  refine vx_catch (name := "java/lang/IndexOutOfBoundsException") hown [] ⟨0, 10, 13, 21⟩ [⟨0, 10, 17, 13⟩] (htab.trans rfl) (fun z hz => absurd hz List.not_mem_nil) (by decide) (by decide) (hts _ q75) (va_Nw.use rfl C.2.2.2.2.2.2.2.1.2.2.2.2.2.2.2.2.2.2.2.2.2.2.2.2.2.1) hce hcv hcl ?_
  refine lv_astore (lv' := [(4, .ref q9), (0, .ref o), (1, .int x0), (2, .int x1), (3, .ref q)]) hx hb dL_would_13 hl (by decide) rfl (fun ls hl => ?_)
  refine lv_iconst (v := 1) hx hb dL_would_15 (by decide) ?_
  exact g_iret C hrt (va_P.app hPo hPx) hD hS dL_would_16 ⟨_, _, ⟨rfl, rfl⟩, rfl⟩
set_option maxHeartbeats 4000000 in
set_option maxRecDepth 100000 in
theorem xL_would2 (l : Launch) (D : va_G) (t : Nat → Nat) (cI cL : ClassId) (o : Nat) (ad : Nat → Nat) (q sz : Nat) (f : Nat → Int64) (u : S0) {x0 x1 : Int32} (hM : ∀ sz, gX l yX0_would (rw_ yX0_would cX0_would 3 (some .int)) (rm_ 8 1 6 125) [.ref o, .int x0, .int x1] D [(cI, .int)] t (ra_w cI o ad u) sz "java/lang/IllegalArgumentException") : gMi l yL_would (rwW_ yL_would cL_would 5 (some .int) [(0, 10, 13, 21), (0, 10, 17, 13)]) (rm_ 9 1 6 151) [.ref o, .int x0, .int x1, .ref q] D (lT cI cL) t (lo_w cL q f ++ ra_w cI o ad u) sz (fun r w' => ∃ f' u', (r = 2 ∧ u' = u) ∧ w' = lo_w cL q f' ++ ra_w cI o ad u') := by
  refine g_ofW (cc := cL_would) (nL := 5) (rt := (some .int)) (hh := [(0, 10, 13, 21), (0, 10, 17, 13)]) (Q := fun A => va_Qi _ (fun w' U => gQ D A w' U) A) (by decide) (Nat.le_of_ble_eq_true rfl) (fun p e s m args below meth c A ls H C hrt htab hS hP hD hl => ?_)
  have hx := C.1
  have hb := C.2.1
  have hown := C.2.2.2.1
  have hts := C.2.2.2.2.1
  have hl : lv_has ls 5 [(0, .ref o), (1, .int x0), (2, .int x1), (3, .ref q)] := hl
  have hPo : va_P D vwCl (lo_w cL q f) H := hP.sub [0] rfl
  have hPx : va_P D vwCl (ra_w cI o ad u) H := hP.sub [1, 2, 3, 4, 5, 6, 7, 8, 9, 10, 11, 12, 13] rfl
  have hK2 := C.2.2.2.2.2.1.sub (tys' := [(cI, .int)]) [0] rfl
  refine lv_aload_n hx hb dL_would_0 rfl (lv_at hl 3 rfl) ?_
  refine lv_iconst (v := 0) hx hb dL_would_1 (by decide) ?_
  refine lv_aload_n hx hb dL_would_2 rfl (lv_at hl 0 rfl) ?_
  refine lv_iload_n hx hb dL_would_3 rfl (lv_at hl 1 rfl) ?_
  refine lv_iload_n hx hb dL_would_4 rfl (lv_at hl 2 rfl) ?_
  refine g_xc (wr := lo_w cL q f) C hPo hD hS (g_xrunV (wr := lo_w cL q f) (n := 2) C (hM H.size) (rw_V q362 q363 q364 q2 q365) kd_X0_would ⟨Nat.le_of_ble_eq_true rfl, Nat.le_of_ble_eq_true rfl⟩ (ci := 0) rfl rfl rfl hK2 hPx hD hS hl.1 rfl rfl (Nat.le_of_ble_eq_true rfl) dL_would_5 ⟨Nat.le_of_ble_eq_true rfl, Nat.le_of_ble_eq_true rfl⟩) (fun ce q9 H locs hPo hPx hD hS hce hcv hcl => ?_)
  refine vx_catch (name := "java/lang/IllegalArgumentException") hown [⟨0, 10, 13, 21⟩] ⟨0, 10, 17, 13⟩ [] (htab.trans rfl) (List.forall_mem_cons.mpr ⟨Or.inr ⟨by decide, "java/lang/IndexOutOfBoundsException", hts _ q75, C.2.2.2.2.2.2.2.1.2.2.2.2.2.2.2.2.2.2.2.2.2.2.2.2.2.2.2.2.2.2.2.2.1⟩, fun z hz => absurd hz List.not_mem_nil⟩) (by decide) (by decide) (hts _ q38) (va_Nw.use rfl C.2.2.2.2.2.2.2.1.2.2.2.2.2.2.2.2.2.2.2.2.2.2.2.2.2.2.1) hce hcv hcl ?_
  refine lv_astore (lv' := [(4, .ref q9), (0, .ref o), (1, .int x0), (2, .int x1), (3, .ref q)]) hx hb dL_would_17 hl (by decide) rfl (fun ls hl => ?_)
  refine lv_iconst (v := 2) hx hb dL_would_19 (by decide) ?_
  exact g_iret C hrt (va_P.app hPo hPx) hD hS dL_would_20 ⟨_, _, ⟨rfl, rfl⟩, rfl⟩
theorem kd_L_until : yL_until.cls ≠ "java/lang/invoke/MethodHandle" ∧ yL_until.cls ≠ "java/lang/invoke/VarHandle" ∧ (parseMethodDescriptor yL_until.desc).map (fun d => d.parameters.length) = some 3 := by decide +kernel
set_option maxHeartbeats 4000000 in
set_option maxRecDepth 100000 in
theorem mL_until (l : Launch) (D : va_G) (t : Nat → Nat) (cI cL : ClassId) (o : Nat) (ad : Nat → Nat) (q sz : Nat) (f : Nat → Int64) (u : S0) {x0 : Int32} {val : Int32} {u2 : S0} (hM : ∀ sz, gMi l yX0_until (rw_ yX0_until cX0_until 5 (some .int)) (rm_ 5 0 0 110) [.ref o, .int x0] D [(cI, .int)] t (ra_w cI o ad u) sz (fun v w' => v = val ∧ w' = ra_w cI o ad u2)) : gMi l yL_until (rwW_ yL_until cL_until 4 (some .int) [(0, 9, 12, 21)]) (rm_ 6 0 0 138) [.ref o, .int x0, .ref q] D (lT cI cL) t (lo_w cL q f ++ ra_w cI o ad u) sz (fun r w' => ∃ f' u', (r = 0 ∧ u' = u2 ∧ f' 0 = Int32.toInt64 val) ∧ w' = lo_w cL q f' ++ ra_w cI o ad u') := by
  refine g_ofW (cc := cL_until) (nL := 4) (rt := (some .int)) (hh := [(0, 9, 12, 21)]) (Q := fun A => va_Qi _ (fun w' U => gQ D A w' U) A) (by decide) (Nat.le_of_ble_eq_true rfl) (fun p e s m args below meth c A ls H C hrt htab hS hP hD hl => ?_)
  have hx := C.1
  have hb := C.2.1
  have hown := C.2.2.2.1
  have hts := C.2.2.2.2.1
  have hl : lv_has ls 4 [(0, .ref o), (1, .int x0), (2, .ref q)] := hl
  have hPo : va_P D vwCl (lo_w cL q f) H := hP.sub [0] rfl
  have hPx : va_P D vwCl (ra_w cI o ad u) H := hP.sub [1, 2, 3, 4, 5, 6, 7, 8, 9, 10, 11, 12, 13] rfl
  have hK2 := C.2.2.2.2.2.1.sub (tys' := [(cI, .int)]) [0] rfl
  refine lv_aload_n hx hb dL_until_0 rfl (lv_at hl 2 rfl) ?_
  refine lv_iconst (v := 0) hx hb dL_until_1 (by decide) ?_
  refine lv_aload_n hx hb dL_until_2 rfl (lv_at hl 0 rfl) ?_
  refine lv_iload_n hx hb dL_until_3 rfl (lv_at hl 1 rfl) ?_
  refine g_ci (wr := lo_w cL q f) (cells' := 0) (slots' := 0) rfl rfl C hPo hD hS (g_runV (wr := lo_w cL q f) (n := 1) C (hM H.size) (rw_V q373 q374 q375 q2 q376) kd_X0_until ⟨Nat.le_of_ble_eq_true rfl, Nat.le_of_ble_eq_true rfl⟩ (ci := 0) rfl rfl rfl hK2 hPx hD hS hl.1 rfl rfl (Nat.le_of_ble_eq_true rfl) dL_until_4 ⟨Nat.le_of_ble_eq_true rfl, Nat.le_of_ble_eq_true rfl⟩) (fun r9 w' H locs hv _ hPo hPx hD hS => ?_)
  obtain ⟨rfl, rfl⟩ := hv
  refine lv_i2l hx hb dL_until_7 rfl ?_
  refine g_lo C hPo hPx hD hS dL_until_8 (fun H locs f1 hf1 hP hD hS => ?_)
  refine lv_goto (tgt := 15) hx hb dL_until_9 (by decide) ?_
  refine lv_iconst (v := 0) hx hb dL_until_15 (by decide) ?_
  exact g_iret C hrt hP hD hS dL_until_16 ⟨_, _, ⟨rfl, rfl, hf1⟩, rfl⟩
set_option maxHeartbeats 4000000 in
set_option maxRecDepth 100000 in
theorem xL_until1 (l : Launch) (D : va_G) (t : Nat → Nat) (cI cL : ClassId) (o : Nat) (ad : Nat → Nat) (q sz : Nat) (f : Nat → Int64) (u : S0) {x0 : Int32} (hM : ∀ sz, gX l yX0_until (rw_ yX0_until cX0_until 5 (some .int)) (rm_ 7 1 6 103) [.ref o, .int x0] D [(cI, .int)] t (ra_w cI o ad u) sz "java/lang/IndexOutOfBoundsException") : gMi l yL_until (rwW_ yL_until cL_until 4 (some .int) [(0, 9, 12, 21)]) (rm_ 8 1 6 131) [.ref o, .int x0, .ref q] D (lT cI cL) t (lo_w cL q f ++ ra_w cI o ad u) sz (fun r w' => ∃ f' u', (r = 1 ∧ u' = u) ∧ w' = lo_w cL q f' ++ ra_w cI o ad u') := by
  refine g_ofW (cc := cL_until) (nL := 4) (rt := (some .int)) (hh := [(0, 9, 12, 21)]) (Q := fun A => va_Qi _ (fun w' U => gQ D A w' U) A) (by decide) (Nat.le_of_ble_eq_true rfl) (fun p e s m args below meth c A ls H C hrt htab hS hP hD hl => ?_)
  have hx := C.1
  have hb := C.2.1
  have hown := C.2.2.2.1
  have hts := C.2.2.2.2.1
  have hl : lv_has ls 4 [(0, .ref o), (1, .int x0), (2, .ref q)] := hl
  have hPo : va_P D vwCl (lo_w cL q f) H := hP.sub [0] rfl
  have hPx : va_P D vwCl (ra_w cI o ad u) H := hP.sub [1, 2, 3, 4, 5, 6, 7, 8, 9, 10, 11, 12, 13] rfl
  have hK2 := C.2.2.2.2.2.1.sub (tys' := [(cI, .int)]) [0] rfl
  refine lv_aload_n hx hb dL_until_0 rfl (lv_at hl 2 rfl) ?_
  refine lv_iconst (v := 0) hx hb dL_until_1 (by decide) ?_
  refine lv_aload_n hx hb dL_until_2 rfl (lv_at hl 0 rfl) ?_
  refine lv_iload_n hx hb dL_until_3 rfl (lv_at hl 1 rfl) ?_
  refine g_xc (wr := lo_w cL q f) C hPo hD hS (g_xrunV (wr := lo_w cL q f) (n := 1) C (hM H.size) (rw_V q373 q374 q375 q2 q376) kd_X0_until ⟨Nat.le_of_ble_eq_true rfl, Nat.le_of_ble_eq_true rfl⟩ (ci := 0) rfl rfl rfl hK2 hPx hD hS hl.1 rfl rfl (Nat.le_of_ble_eq_true rfl) dL_until_4 ⟨Nat.le_of_ble_eq_true rfl, Nat.le_of_ble_eq_true rfl⟩) (fun ce q9 H locs hPo hPx hD hS hce hcv hcl => ?_)
  refine vx_catch (name := "java/lang/IndexOutOfBoundsException") hown [] ⟨0, 9, 12, 21⟩ [] (htab.trans rfl) (fun z hz => absurd hz List.not_mem_nil) (by decide) (by decide) (hts _ q75) (va_Nw.use rfl C.2.2.2.2.2.2.2.1.2.2.2.2.2.2.2.2.2.2.2.2.2.2.2.2.2.1) hce hcv hcl ?_
  refine lv_astore_n (lv' := [(3, .ref q9), (0, .ref o), (1, .int x0), (2, .ref q)]) hx hb dL_until_12 rfl hl (by decide) rfl (fun ls hl => ?_)
  refine lv_iconst (v := 1) hx hb dL_until_13 (by decide) ?_
  exact g_iret C hrt (va_P.app hPo hPx) hD hS dL_until_14 ⟨_, _, ⟨rfl, rfl⟩, rfl⟩
