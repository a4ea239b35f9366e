/-! METHODS THAT MAY DRAW (a quotient of doubles) -/
def gMD (l : Launch) (y : MethodName) (ws : List Cond) (rm : Room) (av : List Value) (D : va_G) (ty : List (ClassId × FieldType)) (t : Nat → Nat) (w : va_W) (sz : Nat) (post : UInt64 → va_W → Prop) : Prop := MetD lw_cs l y ws rm (va_Pc av (gP D ty t w sz)) (va_Qd post (fun w' U => gQ D (va_A w sz) w' U) (va_A w sz)) rm.cells rm.slots (va_A w sz)
section GDR
variable {p : Program} {l : Launch} {e : Env} {R : Room} {s : State} {m : MethodId} {args : Array Value} {below : List Frame} {meth : Method} {c : Code} {H : Heap} {locs : List Loc} {cells slots : Nat} {Q : State → Prop}
variable {cc : ByteArray} {nL pc : Nat} {ls : Array Slot} {own : String} {D : va_G} {ty ty2 : List (ClassId × FieldType)} {t : Nat → Nat} {A : Nat → Prop} {wr wc : va_W}
variable {y : MethodName} {bytes : ByteArray} {maxL n idx : Nat} {ret : Option FieldType} {rm : Room} {b : Nat} {As rest st0 : List Value}
theorem gC_dr (C : gC p s m args meth c cc nL own D ty t A) (d : Drawn) : gC p (s.setDrawn d) m args meth c cc nL own D ty t A :=
  ⟨C.1, C.2.1, C.2.2.1, C.2.2.2.1, dr_words C.2.2.2.2.1 d, va_K.moved (u := s) (U := s.setDrawn d) (Vm.Alike.refl s.vm) C.2.2.2.2.2.1, C.2.2.2.2.2.2.1, gZ.blind C.2.2.2.2.2.2.2.1 rfl, C.2.2.2.2.2.2.2.2⟩
theorem gD_of {l : Launch} {y : MethodName} {cc : ByteArray} {nL : Nat} {rm : Room} {av : List Value} {D : va_G} {ty : List (ClassId × FieldType)} {t : Nat → Nat} {w : va_W} {sz : Nat} {rt : Option FieldType} {post : UInt64 → va_W → Prop} (hy : plainName y.cls = true) (hav : (lg_sl av).length ≤ nL)
    (body : ∀ (p : Program) (e : Env) (s : State) (m : MethodId) (args : Array Value) (below : List Frame) (meth : Method) (c : Code) (A : Nat → Prop) (ls : Array Slot) (H : Heap), gC p s m args meth c cc nL y.cls D ty t A → meth.sig.returnType = rt → va_S A s.heap H [] → va_P D vwCl w H → va_D A w → lv_has ls nL (lv_args 0 av) → s.drawn.sameBut s.drawn lw_cs →
      W p l e rm (s.setDrawn s.drawn) m args below meth c H [] 0 0 (MQD lw_cs below (va_Qd post (fun w' U => gQ D A w' U) A) args s rm.cells rm.slots A) (F0 m 0 ls [])) :
    gMD l y (rw_ y cc nL rt) rm av D ty t w sz post := by
  refine MetD.ofW (cc := cc) (maxL := nL) (ret := rt) hy rfl ?_
  intro p e s m args below meth c s₁ B hml hv hd0
  obtain ⟨rfl, hsz, hP, hK, hD, hZ⟩ := hv
  have hts := atoms_spec (ws := rw_ y cc nL rt) B.pre
  subst hsz
  have hl := lv_entry av hav
  rw [lg_entry_eq]
  exact body p e s m _ below meth c (va_A w s.heap.size) _ s.heap ⟨B.exec, B.bytes, hml, findClass_of_methodNamed B.named, fun w h => hts w (List.mem_cons_of_mem _ h), hK, fun q h => Or.inr h, hZ, B.notSynchronized⟩ B.returns va_S.rf hP hD.self hl hd0
theorem g_runVD {Qa : Array Value → State → Outcome → State → Prop} (C : gC p s m args meth c cc nL own D ty t A) (hM : MetD lw_cs l y (rw_ y bytes maxL ret) rm (va_Pc (.ref b :: As) (gP D ty2 t wc H.size)) Qa rm.cells rm.slots (va_A wc H.size)) (hG : GoodIn wsL_law (wsV own idx y.cls y (rw_ y bytes maxL ret)))
    (hd : y.cls = y.cls ∧ y.cls ≠ "java/lang/invoke/MethodHandle" ∧ y.cls ≠ "java/lang/invoke/VarHandle" ∧ (parseMethodDescriptor y.desc).map (fun d => d.parameters.length) = some n) (hR : rm.frames + 1 ≤ R.frames ∧ 8 + (maxL + 11) + rm.locals ≤ R.locals) {ci : Nat} {q : vw_C} {fs : List Value} (hci : vwCl[ci]? = some q) (hq : q.1 = y.cls) (hrc : wc[0]? = some (b, .inr (ci, fs)))
    (hK2 : va_K D vwCl ty2 s) (hPc : va_P D vwCl wc H) (hD : va_D A (wr ++ wc)) (hS : va_S A s.heap H locs) (hl : ls.size = nL) (hn : As.length = n) (hst : st0 = As.reverse ++ .ref b :: rest) (hrest : (rest.map fun v => v.category).sum ≤ 8) (hdg : decode cc pc = .ok (.invokevirtual idx, 3)) (hf : cells + rm.cells ≤ R.cells ∧ slots + rm.slots ≤ R.slots) :
    va_RunD lw_cs p l e R s m args below meth c H locs cells slots rm.cells rm.slots (F0 m pc ls st0) rest (Qa (Value.ref b :: As).toArray) (va_A wc H.size) :=
  va_runV_D ⟨C.1, C.2.1, C.2.2.1, C.2.2.2.1, C.2.2.2.2.1⟩ hM (cwV n C.2.2.2.2.1 hG rfl rfl rfl hd hR) ⟨gP_blind, by rw [← hq]; exact va_recv hK2 hPc hci hrc, g_pre C hK2 hPc hD hS⟩ rfl hn hl hst (lv_room hrest) hdg hf
variable {mc ms : Nat} {a : Array Value}
theorem g_cD {post : UInt64 → va_W → Prop} {d0 : Drawn} {cells' slots' : Nat} (hc : cells + mc = cells') (hs : slots + ms = slots') (hd0 : s.drawn.sameBut d0 lw_cs) (C : gC p s m args meth c cc nL own D ty t A) (hPr : va_P D vwCl wr H) (hD : va_D A (wr ++ wc)) (hS : va_S A s.heap H locs) (hr : va_RunD lw_cs p l e R (s.setDrawn d0) m args below meth c H locs cells slots mc ms (F0 m pc ls st0) rest (va_Qd post (fun w' U => gQ D (va_A wc H.size) w' U) (va_A wc H.size) a) (va_A wc H.size))
    (kk : ∀ (r : UInt64) (w' : va_W) (H1 : Heap) (locs1 : List Loc) (d1 : Drawn), s.drawn.sameBut d1 lw_cs → post r w' → va_P D vwCl wr H1 → va_P D vwCl w' H1 → va_D A (wr ++ w') → va_S A s.heap H1 locs1 → W p l e R (s.setDrawn d1) m args below meth c H1 locs1 cells' slots' Q (F0 m (pc + 3) ls (.double r :: rest))) : W p l e R (s.setDrawn d0) m args below meth c H locs cells slots Q (F0 m pc ls st0) := by
  subst hc
  subst hs
  have hF := rd_AA (rd_right hD) C.2.2.2.2.2.2.1 hS.1
  refine va_calldD hd0 hr hS (fun q _ h => hF q h) hF (fun r w' t H1 locs1 ht _ hp hB hz hk hS1 d1 hd1 => ?_)
  obtain ⟨b1, b2⟩ := hB
  rw [ht] at b1
  obtain ⟨c1, c2⟩ := rd_frame hPr hD hF hk b2
  exact kk r w' H1 locs1 d1 hd1 hp c1 b1 c2 hS1
end GDR
set_option maxHeartbeats 4000000 in
set_option maxRecDepth 100000 in
theorem wX0_mean (l : Launch) (D : va_G) (t : Nat → Nat) (cI : ClassId) (o : Nat) (ad : Nat → Nat) (sz : Nat) (u : S0) (hh : u.2.1 ≤ 8) : gMD l yX0_mean (rw_ yX0_mean cX0_mean 1 (some .double)) (rm_ 5 0 0 112) [.ref o] D [(cI, .int)] t (ra_w cI o ad u) sz (fun _ w' => w' = ra_w cI o ad u) := by
  refine gD_of (cc := cX0_mean) (nL := 1) (rt := (some .double)) (by decide) (Nat.le_of_ble_eq_true rfl) (fun p e s m args below meth c A ls H C0 hrt hS hP hD hl hd0 => ?_)
  have C := gC_dr C0 s.drawn
  have hx := C.1
  have hb := C.2.1
  have hown := C.2.2.2.1
  have hts := C.2.2.2.2.1
  have hl : lv_has ls 1 [(0, .ref o)] := hl
  refine lv_aload_n hx hb dX0_mean_0 rfl (lv_at hl 0 rfl) ?_
  refine x0_gf C hP 9 (by decide) (v := .int (nI u.2.1)) rfl rfl q44 dX0_mean_1 ?_
  refine lv_if_ne (tgt := 11) hx hb dX0_mean_4 (by decide) (fun c1 => ?_) (fun c1 => ?_)
  · refine lv_aload_n hx hb dX0_mean_11 rfl (lv_at hl 0 rfl) ?_
    refine lv_aload_n hx hb dX0_mean_12 rfl (lv_at hl 0 rfl) ?_
    refine x0_gf C hP 7 (by decide) (v := .ref (ad 7)) rfl rfl q21 dX0_mean_13 ?_
    refine g_ci (wr := []) (cells' := 0) (slots' := 0) rfl rfl C rd_nil hD hS (g_runV (wr := []) (n := 1) C (mX0_allWages l D t cI o ad H.size u 7 (Or.inl rfl) hh) (rw_V q324 q325 q326 q2 q327) kd_X0_allWages ⟨Nat.le_of_ble_eq_true rfl, Nat.le_of_ble_eq_true rfl⟩ (ci := 0) rfl rfl rfl C.2.2.2.2.2.1 hP hD hS hl.1 rfl rfl (Nat.le_of_ble_eq_true rfl) dX0_mean_16 ⟨Nat.le_of_ble_eq_true rfl, Nat.le_of_ble_eq_true rfl⟩) (fun v w' H locs hv _ _ hP hD hS => ?_)
    obtain ⟨rfl, rfl⟩ := hv
    have hD : va_D A (ra_w cI o ad u) := hD
    refine lv_i2d hx hb dX0_mean_19 ?_
    refine lv_aload_n hx hb dX0_mean_20 rfl (lv_at hl 0 rfl) ?_
    refine x0_gf C hP 9 (by decide) (v := .int (nI u.2.1)) rfl rfl q44 dX0_mean_21 ?_
    refine lv_i2d hx hb dX0_mean_24 ?_
    refine lv_ddiv_any hd0 lw_bits hx hb dX0_mean_25 (fun r5 d5 hal hd5 => ?_)
    refine W.endD hd5 ?_
    exact g_dret (gC_dr C0 d5) hrt hP hD hS dX0_mean_26 (by skip; exact rfl)
  · refine lv_dconst0 hx hb dX0_mean_7 ?_
    refine lv_goto (tgt := 26) hx hb dX0_mean_8 (by decide) ?_
    refine W.endD hd0 ?_
    exact g_dret (gC_dr C0 s.drawn) hrt hP hD hS dX0_mean_26 (by skip; exact rfl)
set_option maxHeartbeats 4000000 in
set_option maxRecDepth 100000 in
theorem wX1_mean (l : Launch) (D : va_G) (t : Nat → Nat) (cI : ClassId) (o : Nat) (sz : Nat) (v : S1) (hn : v.2.1 ≤ 8) : gMD l yX1_mean (rw_ yX1_mean cX1_mean 1 (some .double)) (rm_ 5 0 0 108) [.ref o] D [(cI, .int)] t (rb_w cI o v) sz (fun _ w' => ∃ v', rb_E v v' ∧ w' = rb_w cI o v') := by
  refine gD_of (cc := cX1_mean) (nL := 1) (rt := (some .double)) (by decide) (Nat.le_of_ble_eq_true rfl) (fun p e s m args below meth c A ls H C0 hrt hS hP hD hl hd0 => ?_)
  have C := gC_dr C0 s.drawn
  have hx := C.1
  have hb := C.2.1
  have hown := C.2.2.2.1
  have hts := C.2.2.2.2.1
  have hl : lv_has ls 1 [(0, .ref o)] := hl
  refine lv_aload_n hx hb dX1_mean_0 rfl (lv_at hl 0 rfl) ?_
  refine lv_iconst (v := 0) hx hb dX1_mean_1 (by decide) ?_
  refine x1_pt C hP hD hS q59 dX1_mean_2 (fun H locs hP hD hS => ?_)
  have hP : va_P D vwCl (rb_w cI o (rb_t v 0)) H := hP
  have hD : va_D A (rb_w cI o (rb_t v 0)) := hD
  refine lv_aload_n hx hb dX1_mean_5 rfl (lv_at hl 0 rfl) ?_
  refine x1_gf C hP 1 (by decide) (x := .int (nI v.2.1)) rfl rfl q60 dX1_mean_6 ?_
  refine lv_if_ne (tgt := 16) hx hb dX1_mean_9 (by decide) (fun c1 => ?_) (fun c1 => ?_)
  · refine lv_aload_n hx hb dX1_mean_16 rfl (lv_at hl 0 rfl) ?_
    refine g_ci (wr := []) (cells' := 0) (slots' := 0) rfl rfl C rd_nil hD hS (g_runV (wr := []) (n := 0) C (mX1_all l D t cI o H.size (rb_t v 0) hn) (rw_V q340 q341 q342 q5 q343) kd_X1_all ⟨Nat.le_of_ble_eq_true rfl, Nat.le_of_ble_eq_true rfl⟩ (ci := 1) rfl rfl rfl C.2.2.2.2.2.1 hP hD hS hl.1 rfl rfl (Nat.le_of_ble_eq_true rfl) dX1_mean_17 ⟨Nat.le_of_ble_eq_true rfl, Nat.le_of_ble_eq_true rfl⟩) (fun r2 w' H locs hv _ _ hP hD hS => ?_)
    subst hv
    have hD : va_D A (rb_w cI o (rb_t v 0)) := hD
    refine lv_i2d hx hb dX1_mean_20 ?_
    refine lv_aload_n hx hb dX1_mean_21 rfl (lv_at hl 0 rfl) ?_
    refine x1_gf C hP 1 (by decide) (x := .int (nI v.2.1)) rfl rfl q60 dX1_mean_22 ?_
    refine lv_i2d hx hb dX1_mean_25 ?_
    refine lv_ddiv_any hd0 lw_bits hx hb dX1_mean_26 (fun r5 d5 hal hd5 => ?_)
    refine W.endD hd5 ?_
    exact g_dret (gC_dr C0 d5) hrt hP hD hS dX1_mean_27 (by skip; refine ⟨_, ?_, rfl⟩; exact ⟨rfl, rfl, fun _ _ => ⟨rfl, rfl⟩⟩)
  · refine lv_dconst0 hx hb dX1_mean_12 ?_
    refine lv_goto (tgt := 27) hx hb dX1_mean_13 (by decide) ?_
    refine W.endD hd0 ?_
    exact g_dret (gC_dr C0 s.drawn) hrt hP hD hS dX1_mean_27 (by skip; refine ⟨_, ?_, rfl⟩; exact ⟨rfl, rfl, fun _ _ => ⟨rfl, rfl⟩⟩)
