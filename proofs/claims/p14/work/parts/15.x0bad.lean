/-! CALLS THAT THROW: a contract that only throws, E the class; the world as it was -/
def gX (l : Launch) (y : MethodName) (ws : List Cond) (rm : Room) (av : List Value) (D : va_G) (ty : List (ClassId × FieldType)) (t : Nat → Nat) (w : va_W) (sz : Nat) (E : String) : Prop := vx_Met l y ws rm (va_Pc av (gP D ty t w sz)) (va_Qv (fun _ : Unit => False) (fun _ _ => True) (fun _ => False)) (vx_X (fun _ : Unit => True) (fun E' _ U => E' = E ∧ gQ D (va_A w sz) w U) (va_A w sz)) rm.cells rm.slots (va_A w sz)
section GXOF
variable {l : Launch} {y : MethodName} {cc : ByteArray} {nL : Nat} {rm : Room} {av : List Value} {D : va_G} {ty : List (ClassId × FieldType)} {t : Nat → Nat} {w : va_W} {sz : Nat} {E : String}
theorem gX_of {rt : Option FieldType} (hy : plainName y.cls = true) (hav : (lg_sl av).length ≤ nL)
    (body : ∀ (p : Program) (e : Env) (s : State) (m : MethodId) (args : Array Value) (below : List Frame) (meth : Method) (c : Code) (A : Nat → Prop) (ls : Array Slot) (H : Heap), gC p s m args meth c cc nL y.cls D ty t A → (∀ x ∈ c.exceptionTable.toList, False) → va_S A s.heap H [] → va_P D vwCl w H → va_D A w → lv_has ls nL (lv_args 0 av) →
      W p l e rm s m args below meth c H [] 0 0 (vx_MQ below (va_Qv (fun _ : Unit => False) (fun _ _ => True) (fun _ => False)) (vx_X (fun _ : Unit => True) (fun E' _ U => E' = E ∧ gQ D A w U) A) args s rm.cells rm.slots A) (F0 m 0 ls [])) :
    gX l y (rw_ y cc nL rt) rm av D ty t w sz E := by
  refine vx_ofW (cc := cc) (maxL := nL) (ret := rt) hy rfl ?_
  intro p e s m args below meth c s₁ B hml htab hv
  obtain ⟨rfl, hsz, hP, hK, hD, hZ⟩ := hv
  have hts := atoms_spec (ws := rw_ y cc nL rt) B.pre
  subst hsz
  have hl := lv_entry av hav
  rw [lg_entry_eq]
  exact body p e s m _ below meth c (va_A w s.heap.size) _ s.heap ⟨B.exec, B.bytes, hml, findClass_of_methodNamed B.named, fun w h => hts w (List.mem_cons_of_mem _ h), hK, fun q h => Or.inr h, hZ, B.notSynchronized⟩ htab va_S.rf hP hD.self hl
end GXOF
section GXCALL
variable {p : Program} {l : Launch} {e : Env} {R : Room} {s : State} {m : MethodId} {args : Array Value} {below : List Frame} {meth : Method} {c : Code} {H : Heap} {locs : List Loc} {cells slots : Nat} {Q : State → Prop}
variable {cc : ByteArray} {nL pc : Nat} {ls : Array Slot} {own : String} {D : va_G} {ty ty2 : List (ClassId × FieldType)} {t : Nat → Nat} {A : Nat → Prop} {wr wc : va_W}
variable {y : MethodName} {bytes : ByteArray} {maxL n idx : Nat} {ret : Option FieldType} {rm : Room} {b : Nat} {As rest st0 : List Value} {E : String}
theorem g_xrunV (C : gC p s m args meth c cc nL own D ty t A) (hM : gX l y (rw_ y bytes maxL ret) rm (.ref b :: As) D ty2 t wc H.size E) (hG : GoodIn wsL_law (wsV own idx y.cls y (rw_ y bytes maxL ret)))
    (hd : y.cls = y.cls ∧ y.cls ≠ "java/lang/invoke/MethodHandle" ∧ y.cls ≠ "java/lang/invoke/VarHandle" ∧ (parseMethodDescriptor y.desc).map (fun d => d.parameters.length) = some n) (hR : rm.frames + 1 ≤ R.frames ∧ 8 + (maxL + 11) + rm.locals ≤ R.locals) {ci : Nat} {q : vw_C} {fs : List Value} (hci : vwCl[ci]? = some q) (hq : q.1 = y.cls) (hrc : wc[0]? = some (b, .inr (ci, fs)))
    (hK2 : va_K D vwCl ty2 s) (hPc : va_P D vwCl wc H) (hD : va_D A (wr ++ wc)) (hS : va_S A s.heap H locs) (hl : ls.size = nL) (hn : As.length = n) (hst : st0 = As.reverse ++ .ref b :: rest) (hrest : (rest.map fun v => v.category).sum ≤ 8) (hdg : decode cc pc = .ok (.invokevirtual idx, 3)) (hf : cells + rm.cells ≤ R.cells ∧ slots + rm.slots ≤ R.slots) :
    vx_Run p l e R s m args below meth c H locs cells slots rm.cells rm.slots (F0 m pc ls st0) rest (va_Qv (fun _ : Unit => False) (fun _ _ => True) (fun _ => False) (Value.ref b :: As).toArray) (vx_X (fun _ : Unit => True) (fun E' _ U => E' = E ∧ gQ D (va_A wc H.size) wc U) (va_A wc H.size)) (va_A wc H.size) :=
  vx_runV ⟨C.1, C.2.1, C.2.2.1, C.2.2.2.1, C.2.2.2.2.1⟩ hM (cwV n C.2.2.2.2.1 hG rfl rfl rfl hd hR) ⟨gP_blind, by rw [← hq]; exact va_recv hK2 hPc hci hrc, g_pre C hK2 hPc hD hS⟩ rfl hn hl hst (lv_room hrest) hdg hf
theorem g_xrunS (C : gC p s m args meth c cc nL own D ty t A) (hM : gX l y (rw_ y bytes maxL ret) rm As D ty2 t wc H.size E) (hG : GoodIn wsL_law (va_wsS own idx y (rw_ y bytes maxL ret)))
    (hd : y.cls ≠ "java/lang/invoke/MethodHandle" ∧ y.cls ≠ "java/lang/invoke/VarHandle" ∧ (parseMethodDescriptor y.desc).map (fun d => d.parameters.length) = some n) (hR : rm.frames + 1 ≤ R.frames ∧ 8 + (maxL + 11) + rm.locals ≤ R.locals)
    (hK2 : va_K D vwCl ty2 s) (hPc : va_P D vwCl wc H) (hD : va_D A (wr ++ wc)) (hS : va_S A s.heap H locs) (hl : ls.size = nL) (hn : As.length = n) (hst : st0 = As.reverse ++ rest) (hrest : (rest.map fun v => v.category).sum ≤ 8) (hdg : decode cc pc = .ok (.invokestatic idx, 3)) (hf : cells + rm.cells ≤ R.cells ∧ slots + rm.slots ≤ R.slots) :
    vx_Run p l e R s m args below meth c H locs cells slots rm.cells rm.slots (F0 m pc ls st0) rest (va_Qv (fun _ : Unit => False) (fun _ _ => True) (fun _ => False) As.toArray) (vx_X (fun _ : Unit => True) (fun E' _ U => E' = E ∧ gQ D (va_A wc H.size) wc U) (va_A wc H.size)) (va_A wc H.size) :=
  vx_runS ⟨C.1, C.2.1, C.2.2.1, C.2.2.2.1, C.2.2.2.2.1⟩ hM (va_cwS n C.2.2.2.2.1 hG rfl rfl rfl hd hR) ⟨gP_blind, g_pre C hK2 hPc hD hS⟩ rfl hn hl hst (lv_room hrest) hdg hf
variable {mc ms k n9 : Nat} {a : Array Value}
/-- what such a call does: it throws; the world is as it was -/
theorem g_xc (C : gC p s m args meth c cc nL own D ty t A) (hPr : va_P D vwCl wr H) (hD : va_D A (wr ++ wc)) (hS : va_S A s.heap H locs)
    (hr : vx_Run p l e R s m args below meth c H locs cells slots mc ms (F0 m pc ls st0) rest (va_Qv (fun _ : Unit => False) (fun _ _ => True) (fun _ => False) a) (vx_X (fun _ : Unit => True) (fun E' _ U => E' = E ∧ gQ D (va_A wc H.size) wc U) (va_A wc H.size)) (va_A wc H.size))
    (kx : ∀ (ce : Cell) (q9 : Addr) (H1 : Heap) (locs1 : List Loc), va_P D vwCl wr H1 → va_P D vwCl wc H1 → va_D A (wr ++ wc) → va_S A s.heap H1 locs1 → H1[q9]? = some ce → ce.vm = .none → s.vm.findClass E = some ce.cls → vx_W p l e R s m args below meth c H1 locs1 (cells + mc) (slots + ms) Q (F0 m pc ls rest) q9) :
    W p l e R s m args below meth c H locs cells slots Q (F0 m pc ls st0) := by
  have hF := rd_AA (rd_right hD) C.2.2.2.2.2.2.1 hS.1
  refine vx_callv hr hS (fun q _ h => h.elim) hF (fun q _ h => hF q h) (fun E9 ce q9 u t H1 locs1 ht hvm hp hB hz hk hS1 hce hcv hcl => ?_) (fun u t H1 locs1 _ _ h => h.elim)
  obtain ⟨e1, b1, b2⟩ := hB
  subst e1
  rw [ht] at b1
  obtain ⟨c1, c2⟩ := rd_frame hPr hD hF hk b2
  exact kx ce q9 H1 locs1 c1 b1 c2 hS1 hce hcv hcl
/-- .. and it isn't caught here -/
theorem g_xout (C : gC p s m args meth c cc nL own D ty t A) (htab : ∀ x ∈ c.exceptionTable.toList, False) (hD : va_D A wc) (hS : va_S A s.heap H locs) {mc0 ms0 : Nat} (hc : cells + mc ≤ mc0) (hs : slots + ms ≤ ms0)
    (hr : vx_Run p l e R s m args below meth c H locs cells slots mc ms (F0 m pc ls st0) rest (va_Qv (fun _ : Unit => False) (fun _ _ => True) (fun _ => False) a) (vx_X (fun _ : Unit => True) (fun E' _ U => E' = E ∧ gQ D (va_A wc H.size) wc U) (va_A wc H.size)) (va_A wc H.size)) :
    W p l e R s m args below meth c H locs cells slots (vx_MQ below (va_Qv (fun _ : Unit => False) (fun _ _ => True) (fun _ => False)) (vx_X (fun _ : Unit => True) (fun E' _ U => E' = E ∧ gQ D A wc U) A) args s mc0 ms0 A) (F0 m pc ls st0) :=
  g_xc (wr := []) C rd_nil hD hS hr (fun ce q9 H1 locs1 _ hP hD1 hS1 hce hcv hcl => vx_out (fun x hx => (htab x hx).elim) C.2.2.2.2.2.2.2.2 hce hcv hcl (fun t ht _ => ⟨(), trivial, ⟨rfl, by rw [ht]; exact hP, hD1⟩, hS1.F ht⟩) hS1.2.2 hc hs)
/-- 'throw new E(text)' -/
theorem g_throw {cls tx : String} {ik is ic sa : Nat} (C : gC p s m args meth c cc nL own D ty t A) (htab : ∀ x ∈ c.exceptionTable.toList, False) (hl0 : l.stackTraces = false) (hcls : Bundle.fit cls = true) (hk : Cond.classLink own ik cls ∈ wsL_law) (hini : Cond.initialized cls ∈ wsL_law) (hstr : vk_R own is tx sa s) (hat : ∀ w ∈ vx_atS own ic cls ["java/lang/RuntimeException", "java/lang/Exception"], w.before args s = true)
    (hgood : ∀ w ∈ Cond.classLink own ik cls :: Cond.initialized cls :: vx_atS own ic cls ["java/lang/RuntimeException", "java/lang/Exception"], vx_ot w = true)
    (hU : vx_Zq Bundle.tN "UNASSIGNED_STACK" Bundle.steD A s s.heap) (hN : vx_Zq Bundle.tN "SUPPRESSED_SENTINEL" Bundle.listD A s s.heap) (hP : va_P D vwCl wc H) (hD : va_D A wc) (hS : va_S A s.heap H locs) (hl : ls.size = nL)
    (d0 : decode cc pc = .ok (.new ik, 3)) (d3 : decode cc (pc + 3) = .ok (.dup, 1)) (d4 : decode cc (pc + 4) = .ok (.ldc is, 2)) (d6 : decode cc (pc + 6) = .ok (.invokespecial ic, 3)) (d9 : decode cc (pc + 9) = .ok (.athrow, 1))
    (hRf : 5 < R.frames) (hRl : 82 ≤ R.locals) (hRc : cells + 1 ≤ R.cells) (hRs : slots + 6 ≤ R.slots) {mc0 ms0 : Nat} (hc : cells + 1 ≤ mc0) (hs : slots + 6 ≤ ms0) :
    W p l e R s m args below meth c H locs cells slots (vx_MQ below (va_Qv (fun _ : Unit => False) (fun _ _ => True) (fun _ => False)) (vx_X (fun _ : Unit => True) (fun E' _ U => E' = cls ∧ gQ D A wc U) A) args s mc0 ms0 A) (F0 m pc ls []) :=
  vx_throwS C.1 C.2.1 hl0 C.2.2.2.1 hcls (by decide) (C.2.2.2.2.1 _ hk) (C.2.2.2.2.1 _ hini) hstr hat hgood hU hN hS (by rw [hl, C.2.2.1]) d0 d3 d4 d6 d9 (fun x hx => (htab x hx).elim) hRf (by simpa using hRl) hRc hRs C.2.2.2.2.2.2.2.2
    (fun t _ hz hq => ⟨(), trivial, ⟨rfl, fun k q h => (hP k q h).kept (hq q.1 (hP k q h).lt), hD⟩, Nat.le_trans hS.1 hz, fun q h1 h2 => (hq q (Nat.lt_of_lt_of_le h1 hS.1)).trans (hS.2.1 q h1 h2)⟩) hS.2.2 hc hs
end GXCALL
theorem hX_160 {args : Array Value} {s : State} (h : ∀ w ∈ wsL_law, w.before args s = true) (hN : va_Nw (.castable "java/lang/IndexOutOfBoundsException" "java/lang/IndexOutOfBoundsException") s) (h1 : va_Nw (.declares (Bundle.initS "java/lang/RuntimeException")) s) (h2 : va_Nw (.declares (Bundle.initS "java/lang/Exception")) s) (h3 : va_Nw (.declares (Bundle.initS Bundle.tN)) s) : ∀ w ∈ vx_atS RX0 160 "java/lang/IndexOutOfBoundsException" ["java/lang/RuntimeException", "java/lang/Exception"], w.before args s = true := vx_hat (B := [.castable "java/lang/IndexOutOfBoundsException" "java/lang/IndexOutOfBoundsException", .declares (Bundle.initS "java/lang/RuntimeException"), .declares (Bundle.initS "java/lang/Exception"), .declares (Bundle.initS Bundle.tN)]) (fun w hw => h w (List.mem_append_right _ hw)) (by decide +kernel) (vx_c (va_Nw.use rfl hN) (vx_c (va_Nw.use rfl h1) (vx_c (va_Nw.use rfl h2) (vx_c (va_Nw.use rfl h3) vx_n))))
theorem hXg_160 : ∀ w ∈ Cond.classLink RX0 156 "java/lang/IndexOutOfBoundsException" :: Cond.initialized "java/lang/IndexOutOfBoundsException" :: vx_atS RX0 160 "java/lang/IndexOutOfBoundsException" ["java/lang/RuntimeException", "java/lang/Exception"], vx_ot w = true := by decide +kernel
theorem hX_167 {args : Array Value} {s : State} (h : ∀ w ∈ wsL_law, w.before args s = true) (hN : va_Nw (.castable "java/lang/IllegalArgumentException" "java/lang/IllegalArgumentException") s) (h1 : va_Nw (.declares (Bundle.initS "java/lang/RuntimeException")) s) (h2 : va_Nw (.declares (Bundle.initS "java/lang/Exception")) s) (h3 : va_Nw (.declares (Bundle.initS Bundle.tN)) s) : ∀ w ∈ vx_atS RX0 167 "java/lang/IllegalArgumentException" ["java/lang/RuntimeException", "java/lang/Exception"], w.before args s = true := vx_hat (B := [.castable "java/lang/IllegalArgumentException" "java/lang/IllegalArgumentException", .declares (Bundle.initS "java/lang/RuntimeException"), .declares (Bundle.initS "java/lang/Exception"), .declares (Bundle.initS Bundle.tN)]) (fun w hw => h w (List.mem_append_left _ (List.mem_append_left _ (List.mem_append_right _ hw)))) (by decide +kernel) (vx_c (va_Nw.use rfl hN) (vx_c (va_Nw.use rfl h1) (vx_c (va_Nw.use rfl h2) (vx_c (va_Nw.use rfl h3) vx_n))))
theorem hXg_167 : ∀ w ∈ Cond.classLink RX0 163 "java/lang/IllegalArgumentException" :: Cond.initialized "java/lang/IllegalArgumentException" :: vx_atS RX0 167 "java/lang/IllegalArgumentException" ["java/lang/RuntimeException", "java/lang/Exception"], vx_ot w = true := by decide +kernel
theorem hX_172 {args : Array Value} {s : State} (h : ∀ w ∈ wsL_law, w.before args s = true) (hN : va_Nw (.castable "java/lang/IllegalStateException" "java/lang/IllegalStateException") s) (h1 : va_Nw (.declares (Bundle.initS "java/lang/RuntimeException")) s) (h2 : va_Nw (.declares (Bundle.initS "java/lang/Exception")) s) (h3 : va_Nw (.declares (Bundle.initS Bundle.tN)) s) : ∀ w ∈ vx_atS RX0 172 "java/lang/IllegalStateException" ["java/lang/RuntimeException", "java/lang/Exception"], w.before args s = true := vx_hat (B := [.castable "java/lang/IllegalStateException" "java/lang/IllegalStateException", .declares (Bundle.initS "java/lang/RuntimeException"), .declares (Bundle.initS "java/lang/Exception"), .declares (Bundle.initS Bundle.tN)]) (fun w hw => h w (List.mem_append_left _ (List.mem_append_right _ hw))) (by decide +kernel) (vx_c (va_Nw.use rfl hN) (vx_c (va_Nw.use rfl h1) (vx_c (va_Nw.use rfl h2) (vx_c (va_Nw.use rfl h3) vx_n))))
theorem hXg_172 : ∀ w ∈ Cond.classLink RX0 168 "java/lang/IllegalStateException" :: Cond.initialized "java/lang/IllegalStateException" :: vx_atS RX0 172 "java/lang/IllegalStateException" ["java/lang/RuntimeException", "java/lang/Exception"], vx_ot w = true := by decide +kernel
set_option maxHeartbeats 4000000 in
set_option maxRecDepth 100000 in
theorem xX0_requireIndex (l : Launch) (D : va_G) (t : Nat → Nat) (ty : List (ClassId × FieldType)) (w : va_W) (sz : Nat) (hl0 : l.stackTraces = false) (x0 x1 : Int32) (h : x0 < 0 ∨ x1 ≤ x0) : gX l yX0_requireIndex (rw_ yX0_requireIndex cX0_requireIndex 2 none) (rm_ 6 1 6 82) [.int x0, .int x1] D ty t (w) sz "java/lang/IndexOutOfBoundsException" := by
  refine gX_of (cc := cX0_requireIndex) (nL := 2) (rt := none) (by decide) (Nat.le_of_ble_eq_true rfl) (fun p e s m args below meth c A ls H C htab hS hP hD hl => ?_)
  have hx := C.1
  have hb := C.2.1
  have hown := C.2.2.2.1
  have hts := C.2.2.2.2.1
  have hl : lv_has ls 2 [(0, .int x0), (1, .int x1)] := hl
  refine lv_iload_n hx hb dX0_requireIndex_0 rfl (lv_at hl 0 rfl) ?_
  refine lv_if_lt (tgt := 9) hx hb dX0_requireIndex_1 (by decide) (fun c1 => ?_) (fun c1 => ?_)
  · exact g_throw (tx := "no such number") C htab hl0 (by decide) q88 q89 C.2.2.2.2.2.2.2.1.2.2.2.2.2.2.2.2.2.2.2.2.2.2.1 (hX_160 C.2.2.2.2.1 C.2.2.2.2.2.2.2.1.2.2.2.2.2.2.2.2.2.2.2.2.2.2.2.2.2.1 C.2.2.2.2.2.2.2.1.2.2.2.2.2.2.2.2.2.2.2.2.2.2.2.2.2.2.2.2.1 C.2.2.2.2.2.2.2.1.2.2.2.2.2.2.2.2.2.2.2.2.2.2.2.2.2.2.2.2.2.1 C.2.2.2.2.2.2.2.1.2.2.2.2.2.2.2.2.2.2.2.2.2.2.2.2.2.2.2.2.2.2.1) (hXg_160) C.2.2.2.2.2.2.2.1.2.2.2.2.2.2.2.2.2.2.2.2.1 C.2.2.2.2.2.2.2.1.2.2.2.2.2.2.2.2.2.2.2.2.2.1 hP hD hS hl.1 dX0_requireIndex_9 dX0_requireIndex_12 dX0_requireIndex_13 dX0_requireIndex_15 dX0_requireIndex_18 (Nat.le_of_ble_eq_true rfl) (Nat.le_of_ble_eq_true rfl) (Nat.le_of_ble_eq_true rfl) (Nat.le_of_ble_eq_true rfl) (Nat.le_of_ble_eq_true rfl) (Nat.le_of_ble_eq_true rfl)
  · refine lv_iload_n hx hb dX0_requireIndex_4 rfl (lv_at hl 0 rfl) ?_
    refine lv_iload_n hx hb dX0_requireIndex_5 rfl (lv_at hl 1 rfl) ?_
    refine lv_icmp_lt (tgt := 19) hx hb dX0_requireIndex_6 (by decide) (fun c2 => absurd c2 (h.elim (fun a => absurd a c1) Int32.not_lt.mpr)) (fun c2 => ?_)
    exact g_throw (tx := "no such number") C htab hl0 (by decide) q88 q89 C.2.2.2.2.2.2.2.1.2.2.2.2.2.2.2.2.2.2.2.2.2.2.1 (hX_160 C.2.2.2.2.1 C.2.2.2.2.2.2.2.1.2.2.2.2.2.2.2.2.2.2.2.2.2.2.2.2.2.1 C.2.2.2.2.2.2.2.1.2.2.2.2.2.2.2.2.2.2.2.2.2.2.2.2.2.2.2.2.1 C.2.2.2.2.2.2.2.1.2.2.2.2.2.2.2.2.2.2.2.2.2.2.2.2.2.2.2.2.2.1 C.2.2.2.2.2.2.2.1.2.2.2.2.2.2.2.2.2.2.2.2.2.2.2.2.2.2.2.2.2.2.1) (hXg_160) C.2.2.2.2.2.2.2.1.2.2.2.2.2.2.2.2.2.2.2.2.1 C.2.2.2.2.2.2.2.1.2.2.2.2.2.2.2.2.2.2.2.2.2.1 hP hD hS hl.1 dX0_requireIndex_9 dX0_requireIndex_12 dX0_requireIndex_13 dX0_requireIndex_15 dX0_requireIndex_18 (Nat.le_of_ble_eq_true rfl) (Nat.le_of_ble_eq_true rfl) (Nat.le_of_ble_eq_true rfl) (Nat.le_of_ble_eq_true rfl) (Nat.le_of_ble_eq_true rfl) (Nat.le_of_ble_eq_true rfl)
set_option maxHeartbeats 4000000 in
set_option maxRecDepth 100000 in
theorem xX0_requireArgument (l : Launch) (D : va_G) (t : Nat → Nat) (ty : List (ClassId × FieldType)) (w : va_W) (sz : Nat) (hl0 : l.stackTraces = false) (x0 x1 x2 : Int32) (h : x0 < x1 ∨ ¬ x0 ≤ x2) : gX l yX0_requireArgument (rw_ yX0_requireArgument cX0_requireArgument 3 none) (rm_ 6 1 6 82) [.int x0, .int x1, .int x2] D ty t (w) sz "java/lang/IllegalArgumentException" := by
  refine gX_of (cc := cX0_requireArgument) (nL := 3) (rt := none) (by decide) (Nat.le_of_ble_eq_true rfl) (fun p e s m args below meth c A ls H C htab hS hP hD hl => ?_)
  have hx := C.1
  have hb := C.2.1
  have hown := C.2.2.2.1
  have hts := C.2.2.2.2.1
  have hl : lv_has ls 3 [(0, .int x0), (1, .int x1), (2, .int x2)] := hl
  refine lv_iload_n hx hb dX0_requireArgument_0 rfl (lv_at hl 0 rfl) ?_
  refine lv_iload_n hx hb dX0_requireArgument_1 rfl (lv_at hl 1 rfl) ?_
  refine lv_icmp_lt (tgt := 10) hx hb dX0_requireArgument_2 (by decide) (fun c1 => ?_) (fun c1 => ?_)
  · exact g_throw (tx := "none that it can be") C htab hl0 (by decide) q48 q49 C.2.2.2.2.2.2.2.1.2.2.2.2.2.2.2.2.2.2.2.2.2.2.2.1 (hX_167 C.2.2.2.2.1 C.2.2.2.2.2.2.2.1.2.2.2.2.2.2.2.2.2.2.2.2.2.2.2.2.2.2.1 C.2.2.2.2.2.2.2.1.2.2.2.2.2.2.2.2.2.2.2.2.2.2.2.2.2.2.2.2.1 C.2.2.2.2.2.2.2.1.2.2.2.2.2.2.2.2.2.2.2.2.2.2.2.2.2.2.2.2.2.1 C.2.2.2.2.2.2.2.1.2.2.2.2.2.2.2.2.2.2.2.2.2.2.2.2.2.2.2.2.2.2.1) (hXg_167) C.2.2.2.2.2.2.2.1.2.2.2.2.2.2.2.2.2.2.2.2.1 C.2.2.2.2.2.2.2.1.2.2.2.2.2.2.2.2.2.2.2.2.2.1 hP hD hS hl.1 dX0_requireArgument_10 dX0_requireArgument_13 dX0_requireArgument_14 dX0_requireArgument_16 dX0_requireArgument_19 (Nat.le_of_ble_eq_true rfl) (Nat.le_of_ble_eq_true rfl) (Nat.le_of_ble_eq_true rfl) (Nat.le_of_ble_eq_true rfl) (Nat.le_of_ble_eq_true rfl) (Nat.le_of_ble_eq_true rfl)
  · refine lv_iload_n hx hb dX0_requireArgument_5 rfl (lv_at hl 0 rfl) ?_
    refine lv_iload_n hx hb dX0_requireArgument_6 rfl (lv_at hl 2 rfl) ?_
    refine lv_icmp_le (tgt := 20) hx hb dX0_requireArgument_7 (by decide) (fun c2 => absurd c2 (h.elim (fun a => absurd a c1) id)) (fun c2 => ?_)
    exact g_throw (tx := "none that it can be") C htab hl0 (by decide) q48 q49 C.2.2.2.2.2.2.2.1.2.2.2.2.2.2.2.2.2.2.2.2.2.2.2.1 (hX_167 C.2.2.2.2.1 C.2.2.2.2.2.2.2.1.2.2.2.2.2.2.2.2.2.2.2.2.2.2.2.2.2.2.1 C.2.2.2.2.2.2.2.1.2.2.2.2.2.2.2.2.2.2.2.2.2.2.2.2.2.2.2.2.1 C.2.2.2.2.2.2.2.1.2.2.2.2.2.2.2.2.2.2.2.2.2.2.2.2.2.2.2.2.2.1 C.2.2.2.2.2.2.2.1.2.2.2.2.2.2.2.2.2.2.2.2.2.2.2.2.2.2.2.2.2.2.1) (hXg_167) C.2.2.2.2.2.2.2.1.2.2.2.2.2.2.2.2.2.2.2.2.1 C.2.2.2.2.2.2.2.1.2.2.2.2.2.2.2.2.2.2.2.2.2.1 hP hD hS hl.1 dX0_requireArgument_10 dX0_requireArgument_13 dX0_requireArgument_14 dX0_requireArgument_16 dX0_requireArgument_19 (Nat.le_of_ble_eq_true rfl) (Nat.le_of_ble_eq_true rfl) (Nat.le_of_ble_eq_true rfl) (Nat.le_of_ble_eq_true rfl) (Nat.le_of_ble_eq_true rfl) (Nat.le_of_ble_eq_true rfl)
set_option maxHeartbeats 4000000 in
set_option maxRecDepth 100000 in
theorem xX0_requireState (l : Launch) (D : va_G) (t : Nat → Nat) (ty : List (ClassId × FieldType)) (w : va_W) (sz : Nat) (hl0 : l.stackTraces = false) (x0 : Int32) (h : x0 = 0) : gX l yX0_requireState (rw_ yX0_requireState cX0_requireState 1 none) (rm_ 6 1 6 82) [.int x0] D ty t (w) sz "java/lang/IllegalStateException" := by
  refine gX_of (cc := cX0_requireState) (nL := 1) (rt := none) (by decide) (Nat.le_of_ble_eq_true rfl) (fun p e s m args below meth c A ls H C htab hS hP hD hl => ?_)
  have hx := C.1
  have hb := C.2.1
  have hown := C.2.2.2.1
  have hts := C.2.2.2.2.1
  have hl : lv_has ls 1 [(0, .int x0)] := hl
  refine lv_iload_n hx hb dX0_requireState_0 rfl (lv_at hl 0 rfl) ?_
  refine lv_if_ne (tgt := 14) hx hb dX0_requireState_1 (by decide) (fun c1 => absurd h c1) (fun c1 => ?_)
  exact g_throw (tx := "more than the book takes") C htab hl0 (by decide) q53 q54 C.2.2.2.2.2.2.2.1.2.2.2.2.2.2.2.2.2.2.2.2.2.2.2.2.1 (hX_172 C.2.2.2.2.1 C.2.2.2.2.2.2.2.1.2.2.2.2.2.2.2.2.2.2.2.2.2.2.2.2.2.2.2.1 C.2.2.2.2.2.2.2.1.2.2.2.2.2.2.2.2.2.2.2.2.2.2.2.2.2.2.2.2.1 C.2.2.2.2.2.2.2.1.2.2.2.2.2.2.2.2.2.2.2.2.2.2.2.2.2.2.2.2.2.1 C.2.2.2.2.2.2.2.1.2.2.2.2.2.2.2.2.2.2.2.2.2.2.2.2.2.2.2.2.2.2.1) (hXg_172) C.2.2.2.2.2.2.2.1.2.2.2.2.2.2.2.2.2.2.2.2.1 C.2.2.2.2.2.2.2.1.2.2.2.2.2.2.2.2.2.2.2.2.2.1 hP hD hS hl.1 dX0_requireState_4 dX0_requireState_7 dX0_requireState_8 dX0_requireState_10 dX0_requireState_13 (Nat.le_of_ble_eq_true rfl) (Nat.le_of_ble_eq_true rfl) (Nat.le_of_ble_eq_true rfl) (Nat.le_of_ble_eq_true rfl) (Nat.le_of_ble_eq_true rfl) (Nat.le_of_ble_eq_true rfl)
set_option maxHeartbeats 4000000 in
set_option maxRecDepth 100000 in
theorem xX0_requireRate1 (l : Launch) (D : va_G) (t : Nat → Nat) (cI : ClassId) (o : Nat) (ad : Nat → Nat) (sz : Nat) (u : S0) (hl0 : l.stackTraces = false) (p0 p1 : Int32) (h : p0 < 0 ∨ 5 ≤ p0) : gX l yX0_requireRate (rw_ yX0_requireRate cX0_requireRate 2 none) (rm_ 7 1 6 103) [.int p0, .int p1] D [(cI, .int)] t (ra_w cI o ad u) sz "java/lang/IndexOutOfBoundsException" := by
  refine gX_of (cc := cX0_requireRate) (nL := 2) (rt := none) (by decide) (Nat.le_of_ble_eq_true rfl) (fun p e s m args below meth c A ls H C htab hS hP hD hl => ?_)
  have hx := C.1
  have hb := C.2.1
  have hown := C.2.2.2.1
  have hts := C.2.2.2.2.1
  have hl : lv_has ls 2 [(0, .int p0), (1, .int p1)] := hl
  refine lv_iload_n hx hb dX0_requireRate_0 rfl (lv_at hl 0 rfl) ?_
  refine lv_iconst (v := 5) hx hb dX0_requireRate_1 (by decide) ?_
  exact g_xout C htab hD hS (Nat.le_of_ble_eq_true rfl) (Nat.le_of_ble_eq_true rfl) (g_xrunS (wr := []) (n := 2) (As := [.int p0, .int 5]) C (xX0_requireIndex l D t [(cI, .int)] (ra_w cI o ad u) H.size hl0 p0 5 h) (rw_S q85 q86 q2 q87) kd_X0_requireIndex ⟨Nat.le_of_ble_eq_true rfl, Nat.le_of_ble_eq_true rfl⟩ C.2.2.2.2.2.1 hP hD hS hl.1 rfl rfl (Nat.le_of_ble_eq_true rfl) dX0_requireRate_2 ⟨Nat.le_of_ble_eq_true rfl, Nat.le_of_ble_eq_true rfl⟩)
set_option maxHeartbeats 4000000 in
set_option maxRecDepth 100000 in
theorem xX0_requireRate2 (l : Launch) (D : va_G) (t : Nat → Nat) (cI : ClassId) (o : Nat) (ad : Nat → Nat) (sz : Nat) (u : S0) (hl0 : l.stackTraces = false) (k : Nat) (hk5 : k < 5) (x : Int32) (h : x < rt_RX0_LEAST_RATE k ∨ ¬ x ≤ rt_RX0_MOST_RATE k) : gX l yX0_requireRate (rw_ yX0_requireRate cX0_requireRate 2 none) (rm_ 7 1 6 104) [.int (nI k), .int x] D [(cI, .int)] t (ra_w cI o ad u) sz "java/lang/IllegalArgumentException" := by
  refine gX_of (cc := cX0_requireRate) (nL := 2) (rt := none) (by decide) (Nat.le_of_ble_eq_true rfl) (fun p e s m args below meth c A ls H C htab hS hP hD hl => ?_)
  have hx := C.1
  have hb := C.2.1
  have hown := C.2.2.2.1
  have hts := C.2.2.2.2.1
  have hl : lv_has ls 2 [(0, .int (nI k)), (1, .int x)] := hl
  refine lv_iload_n hx hb dX0_requireRate_0 rfl (lv_at hl 0 rfl) ?_
  refine lv_iconst (v := 5) hx hb dX0_requireRate_1 (by decide) ?_
  refine g_cv (wr := []) (cells' := 0) (slots' := 0) rfl rfl C rd_nil hD hS (g_runS (wr := []) (n := 2) (As := [.int (nI k), .int 5]) C (mX0_requireIndex l D t [(cI, .int)] (ra_w cI o ad u) H.size k 5 (by omega) (by omega)) (rw_S q85 q86 q2 q87) kd_X0_requireIndex ⟨Nat.le_of_ble_eq_true rfl, Nat.le_of_ble_eq_true rfl⟩ C.2.2.2.2.2.1 hP hD hS hl.1 rfl rfl (Nat.le_of_ble_eq_true rfl) dX0_requireRate_2 ⟨Nat.le_of_ble_eq_true rfl, Nat.le_of_ble_eq_true rfl⟩) (fun w' H locs hv _ _ hP hD hS => ?_)
  subst hv
  have hD : va_D A (ra_w cI o ad u) := hD
  refine lv_iload_n hx hb dX0_requireRate_5 rfl (lv_at hl 1 rfl) ?_
  refine g_gs C hS (C.2.2.2.2.2.2.2.1.1) q83 dX0_requireRate_6 ?_
  refine lv_iload_n hx hb dX0_requireRate_9 rfl (lv_at hl 0 rfl) ?_
  refine g_ti C hS (N := 5) (i := k) (f := rt_RX0_LEAST_RATE) C.2.2.2.2.2.2.2.1.2.1 (by decide) hk5 rfl dX0_requireRate_10 ?_
  refine g_gs C hS (C.2.2.2.2.2.2.2.1.2.2.1) q84 dX0_requireRate_11 ?_
  refine lv_iload_n hx hb dX0_requireRate_14 rfl (lv_at hl 0 rfl) ?_
  refine g_ti C hS (N := 5) (i := k) (f := rt_RX0_MOST_RATE) C.2.2.2.2.2.2.2.1.2.2.2.1 (by decide) hk5 rfl dX0_requireRate_15 ?_
  exact g_xout C htab hD hS (Nat.le_of_ble_eq_true rfl) (Nat.le_of_ble_eq_true rfl) (g_xrunS (wr := []) (n := 3) (As := [.int x, .int (rt_RX0_LEAST_RATE k), .int (rt_RX0_MOST_RATE k)]) C (xX0_requireArgument l D t [(cI, .int)] (ra_w cI o ad u) H.size hl0 x (rt_RX0_LEAST_RATE k) (rt_RX0_MOST_RATE k) h) (rw_S q45 q46 q2 q47) kd_X0_requireArgument ⟨Nat.le_of_ble_eq_true rfl, Nat.le_of_ble_eq_true rfl⟩ C.2.2.2.2.2.1 hP hD hS hl.1 rfl rfl (Nat.le_of_ble_eq_true rfl) dX0_requireRate_16 ⟨Nat.le_of_ble_eq_true rfl, Nat.le_of_ble_eq_true rfl⟩)
set_option maxHeartbeats 4000000 in
set_option maxRecDepth 100000 in
theorem xX0_hire1 (l : Launch) (D : va_G) (t : Nat → Nat) (cI : ClassId) (o : Nat) (ad : Nat → Nat) (sz : Nat) (u : S0) (hl0 : l.stackTraces = false) (p0 : Int32) (h : p0 < 0 ∨ ¬ p0 ≤ 2) : gX l yX0_hire (rw_ yX0_hire cX0_hire 2 (some .int)) (rm_ 7 1 6 104) [.ref o, .int p0] D [(cI, .int)] t (ra_w cI o ad u) sz "java/lang/IllegalArgumentException" := by
  refine gX_of (cc := cX0_hire) (nL := 2) (rt := (some .int)) (by decide) (Nat.le_of_ble_eq_true rfl) (fun p e s m args below meth c A ls H C htab hS hP hD hl => ?_)
  have hx := C.1
  have hb := C.2.1
  have hown := C.2.2.2.1
  have hts := C.2.2.2.2.1
  have hl : lv_has ls 2 [(0, .ref o), (1, .int p0)] := hl
  refine lv_iload_n hx hb dX0_hire_0 rfl (lv_at hl 1 rfl) ?_
  refine lv_iconst (v := 0) hx hb dX0_hire_1 (by decide) ?_
  refine lv_iconst (v := 2) hx hb dX0_hire_2 (by decide) ?_
  exact g_xout C htab hD hS (Nat.le_of_ble_eq_true rfl) (Nat.le_of_ble_eq_true rfl) (g_xrunS (wr := []) (n := 3) (As := [.int p0, .int 0, .int 2]) C (xX0_requireArgument l D t [(cI, .int)] (ra_w cI o ad u) H.size hl0 p0 0 2 h) (rw_S q45 q46 q2 q47) kd_X0_requireArgument ⟨Nat.le_of_ble_eq_true rfl, Nat.le_of_ble_eq_true rfl⟩ C.2.2.2.2.2.1 hP hD hS hl.1 rfl rfl (Nat.le_of_ble_eq_true rfl) dX0_hire_3 ⟨Nat.le_of_ble_eq_true rfl, Nat.le_of_ble_eq_true rfl⟩)
set_option maxHeartbeats 4000000 in
set_option maxRecDepth 100000 in
theorem xX0_hire2 (l : Launch) (D : va_G) (t : Nat → Nat) (cI : ClassId) (o : Nat) (ad : Nat → Nat) (sz : Nat) (u : S0) (hl0 : l.stackTraces = false) (p0 : Int32) (h1 : ¬ p0 < 0) (h2 : p0 ≤ 2) (hh : u.2.1 = 8) : gX l yX0_hire (rw_ yX0_hire cX0_hire 2 (some .int)) (rm_ 7 1 6 102) [.ref o, .int p0] D [(cI, .int)] t (ra_w cI o ad u) sz "java/lang/IllegalStateException" := by
  refine gX_of (cc := cX0_hire) (nL := 2) (rt := (some .int)) (by decide) (Nat.le_of_ble_eq_true rfl) (fun p e s m args below meth c A ls H C htab hS hP hD hl => ?_)
  have hx := C.1
  have hb := C.2.1
  have hown := C.2.2.2.1
  have hts := C.2.2.2.2.1
  have hl : lv_has ls 2 [(0, .ref o), (1, .int p0)] := hl
  refine lv_iload_n hx hb dX0_hire_0 rfl (lv_at hl 1 rfl) ?_
  refine lv_iconst (v := 0) hx hb dX0_hire_1 (by decide) ?_
  refine lv_iconst (v := 2) hx hb dX0_hire_2 (by decide) ?_
  refine g_cv (wr := []) (cells' := 0) (slots' := 0) rfl rfl C rd_nil hD hS (g_runS (wr := []) (n := 3) (As := [.int p0, .int 0, .int 2]) C (mX0_requireArgument l D t [(cI, .int)] (ra_w cI o ad u) H.size p0 0 2 h1 h2) (rw_S q45 q46 q2 q47) kd_X0_requireArgument ⟨Nat.le_of_ble_eq_true rfl, Nat.le_of_ble_eq_true rfl⟩ C.2.2.2.2.2.1 hP hD hS hl.1 rfl rfl (Nat.le_of_ble_eq_true rfl) dX0_hire_3 ⟨Nat.le_of_ble_eq_true rfl, Nat.le_of_ble_eq_true rfl⟩) (fun w' H locs hv _ _ hP hD hS => ?_)
  subst hv
  have hD : va_D A (ra_w cI o ad u) := hD
  refine lv_aload_n hx hb dX0_hire_6 rfl (lv_at hl 0 rfl) ?_
  refine x0_gf C hP 9 (by decide) (v := .int (nI u.2.1)) rfl rfl q44 dX0_hire_7 ?_
  refine lv_bipush (v := 8) hx hb dX0_hire_10 (by decide) ?_
  refine lv_icmp_ge (tgt := 19) hx hb dX0_hire_12 (by decide) (fun c1 => ?_) (fun c1 => absurd ((nI_leI (a := 8) (b := u.2.1) (by omega) (by omega)).mpr (by omega)) c1)
  refine lv_iconst (v := 0) hx hb dX0_hire_19 (by decide) ?_
  exact g_xout C htab hD hS (Nat.le_of_ble_eq_true rfl) (Nat.le_of_ble_eq_true rfl) (g_xrunS (wr := []) (n := 1) (As := [.int 0]) C (xX0_requireState l D t [(cI, .int)] (ra_w cI o ad u) H.size hl0 0 rfl) (rw_S q50 q51 q2 q52) kd_X0_requireState ⟨Nat.le_of_ble_eq_true rfl, Nat.le_of_ble_eq_true rfl⟩ C.2.2.2.2.2.1 hP hD hS hl.1 rfl rfl (Nat.le_of_ble_eq_true rfl) dX0_hire_20 ⟨Nat.le_of_ble_eq_true rfl, Nat.le_of_ble_eq_true rfl⟩)
set_option maxHeartbeats 4000000 in
set_option maxRecDepth 100000 in
theorem xX0_setRate1 (l : Launch) (D : va_G) (t : Nat → Nat) (cI : ClassId) (o : Nat) (ad : Nat → Nat) (sz : Nat) (u : S0) (hl0 : l.stackTraces = false) (p0 p1 : Int32) (h : p0 < 0 ∨ 5 ≤ p0) : gX l yX0_setRate (rw_ yX0_setRate cX0_setRate 4 (some .int)) (rm_ 8 1 6 124) [.ref o, .int p0, .int p1] D [(cI, .int)] t (ra_w cI o ad u) sz "java/lang/IndexOutOfBoundsException" := by
  refine gX_of (cc := cX0_setRate) (nL := 4) (rt := (some .int)) (by decide) (Nat.le_of_ble_eq_true rfl) (fun p e s m args below meth c A ls H C htab hS hP hD hl => ?_)
  have hx := C.1
  have hb := C.2.1
  have hown := C.2.2.2.1
  have hts := C.2.2.2.2.1
  have hl : lv_has ls 4 [(0, .ref o), (1, .int p0), (2, .int p1)] := hl
  refine lv_iload_n hx hb dX0_setRate_0 rfl (lv_at hl 1 rfl) ?_
  refine lv_iload_n hx hb dX0_setRate_1 rfl (lv_at hl 2 rfl) ?_
  exact g_xout C htab hD hS (Nat.le_of_ble_eq_true rfl) (Nat.le_of_ble_eq_true rfl) (g_xrunS (wr := []) (n := 2) (As := [.int p0, .int p1]) C (xX0_requireRate1 l D t cI o ad H.size u hl0 p0 p1 h) (rw_S q80 q81 q2 q82) kd_X0_requireRate ⟨Nat.le_of_ble_eq_true rfl, Nat.le_of_ble_eq_true rfl⟩ C.2.2.2.2.2.1 hP hD hS hl.1 rfl rfl (Nat.le_of_ble_eq_true rfl) dX0_setRate_2 ⟨Nat.le_of_ble_eq_true rfl, Nat.le_of_ble_eq_true rfl⟩)
set_option maxHeartbeats 4000000 in
set_option maxRecDepth 100000 in
theorem xX0_setRate2 (l : Launch) (D : va_G) (t : Nat → Nat) (cI : ClassId) (o : Nat) (ad : Nat → Nat) (sz : Nat) (u : S0) (hl0 : l.stackTraces = false) (k : Nat) (hk5 : k < 5) (x : Int32) (h : x < rt_RX0_LEAST_RATE k ∨ ¬ x ≤ rt_RX0_MOST_RATE k) : gX l yX0_setRate (rw_ yX0_setRate cX0_setRate 4 (some .int)) (rm_ 8 1 6 125) [.ref o, .int (nI k), .int x] D [(cI, .int)] t (ra_w cI o ad u) sz "java/lang/IllegalArgumentException" := by
  refine gX_of (cc := cX0_setRate) (nL := 4) (rt := (some .int)) (by decide) (Nat.le_of_ble_eq_true rfl) (fun p e s m args below meth c A ls H C htab hS hP hD hl => ?_)
  have hx := C.1
  have hb := C.2.1
  have hown := C.2.2.2.1
  have hts := C.2.2.2.2.1
  have hl : lv_has ls 4 [(0, .ref o), (1, .int (nI k)), (2, .int x)] := hl
  refine lv_iload_n hx hb dX0_setRate_0 rfl (lv_at hl 1 rfl) ?_
  refine lv_iload_n hx hb dX0_setRate_1 rfl (lv_at hl 2 rfl) ?_
  exact g_xout C htab hD hS (Nat.le_of_ble_eq_true rfl) (Nat.le_of_ble_eq_true rfl) (g_xrunS (wr := []) (n := 2) (As := [.int (nI k), .int x]) C (xX0_requireRate2 l D t cI o ad H.size u hl0 k hk5 x h) (rw_S q80 q81 q2 q82) kd_X0_requireRate ⟨Nat.le_of_ble_eq_true rfl, Nat.le_of_ble_eq_true rfl⟩ C.2.2.2.2.2.1 hP hD hS hl.1 rfl rfl (Nat.le_of_ble_eq_true rfl) dX0_setRate_2 ⟨Nat.le_of_ble_eq_true rfl, Nat.le_of_ble_eq_true rfl⟩)
set_option maxHeartbeats 4000000 in
set_option maxRecDepth 100000 in
theorem xX0_would1 (l : Launch) (D : va_G) (t : Nat → Nat) (cI : ClassId) (o : Nat) (ad : Nat → Nat) (sz : Nat) (u : S0) (hl0 : l.stackTraces = false) (p0 p1 : Int32) (h : p0 < 0 ∨ 5 ≤ p0) : gX l yX0_would (rw_ yX0_would cX0_would 3 (some .int)) (rm_ 8 1 6 124) [.ref o, .int p0, .int p1] D [(cI, .int)] t (ra_w cI o ad u) sz "java/lang/IndexOutOfBoundsException" := by
  refine gX_of (cc := cX0_would) (nL := 3) (rt := (some .int)) (by decide) (Nat.le_of_ble_eq_true rfl) (fun p e s m args below meth c A ls H C htab hS hP hD hl => ?_)
  have hx := C.1
  have hb := C.2.1
  have hown := C.2.2.2.1
  have hts := C.2.2.2.2.1
  have hl : lv_has ls 3 [(0, .ref o), (1, .int p0), (2, .int p1)] := hl
  refine lv_iload_n hx hb dX0_would_0 rfl (lv_at hl 1 rfl) ?_
  refine lv_iload_n hx hb dX0_would_1 rfl (lv_at hl 2 rfl) ?_
  exact g_xout C htab hD hS (Nat.le_of_ble_eq_true rfl) (Nat.le_of_ble_eq_true rfl) (g_xrunS (wr := []) (n := 2) (As := [.int p0, .int p1]) C (xX0_requireRate1 l D t cI o ad H.size u hl0 p0 p1 h) (rw_S q80 q81 q2 q82) kd_X0_requireRate ⟨Nat.le_of_ble_eq_true rfl, Nat.le_of_ble_eq_true rfl⟩ C.2.2.2.2.2.1 hP hD hS hl.1 rfl rfl (Nat.le_of_ble_eq_true rfl) dX0_would_2 ⟨Nat.le_of_ble_eq_true rfl, Nat.le_of_ble_eq_true rfl⟩)
set_option maxHeartbeats 4000000 in
set_option maxRecDepth 100000 in
theorem xX0_would2 (l : Launch) (D : va_G) (t : Nat → Nat) (cI : ClassId) (o : Nat) (ad : Nat → Nat) (sz : Nat) (u : S0) (hl0 : l.stackTraces = false) (k : Nat) (hk5 : k < 5) (x : Int32) (h : x < rt_RX0_LEAST_RATE k ∨ ¬ x ≤ rt_RX0_MOST_RATE k) : gX l yX0_would (rw_ yX0_would cX0_would 3 (some .int)) (rm_ 8 1 6 125) [.ref o, .int (nI k), .int x] D [(cI, .int)] t (ra_w cI o ad u) sz "java/lang/IllegalArgumentException" := by
  refine gX_of (cc := cX0_would) (nL := 3) (rt := (some .int)) (by decide) (Nat.le_of_ble_eq_true rfl) (fun p e s m args below meth c A ls H C htab hS hP hD hl => ?_)
  have hx := C.1
  have hb := C.2.1
  have hown := C.2.2.2.1
  have hts := C.2.2.2.2.1
  have hl : lv_has ls 3 [(0, .ref o), (1, .int (nI k)), (2, .int x)] := hl
  refine lv_iload_n hx hb dX0_would_0 rfl (lv_at hl 1 rfl) ?_
  refine lv_iload_n hx hb dX0_would_1 rfl (lv_at hl 2 rfl) ?_
  exact g_xout C htab hD hS (Nat.le_of_ble_eq_true rfl) (Nat.le_of_ble_eq_true rfl) (g_xrunS (wr := []) (n := 2) (As := [.int (nI k), .int x]) C (xX0_requireRate2 l D t cI o ad H.size u hl0 k hk5 x h) (rw_S q80 q81 q2 q82) kd_X0_requireRate ⟨Nat.le_of_ble_eq_true rfl, Nat.le_of_ble_eq_true rfl⟩ C.2.2.2.2.2.1 hP hD hS hl.1 rfl rfl (Nat.le_of_ble_eq_true rfl) dX0_would_2 ⟨Nat.le_of_ble_eq_true rfl, Nat.le_of_ble_eq_true rfl⟩)
set_option maxHeartbeats 4000000 in
set_option maxRecDepth 100000 in
theorem xX0_fill1 (l : Launch) (D : va_G) (t : Nat → Nat) (cI : ClassId) (o : Nat) (ad : Nat → Nat) (sz : Nat) (u : S0) (hl0 : l.stackTraces = false) (p0 p1 : Int32) (h : p0 < 0 ∨ 3 ≤ p0) : gX l yX0_fill (rw_ yX0_fill cX0_fill 3 (some .int)) (rm_ 7 1 6 103) [.ref o, .int p0, .int p1] D [(cI, .int)] t (ra_w cI o ad u) sz "java/lang/IndexOutOfBoundsException" := by
  refine gX_of (cc := cX0_fill) (nL := 3) (rt := (some .int)) (by decide) (Nat.le_of_ble_eq_true rfl) (fun p e s m args below meth c A ls H C htab hS hP hD hl => ?_)
  have hx := C.1
  have hb := C.2.1
  have hown := C.2.2.2.1
  have hts := C.2.2.2.2.1
  have hl : lv_has ls 3 [(0, .ref o), (1, .int p0), (2, .int p1)] := hl
  refine lv_iload_n hx hb dX0_fill_0 rfl (lv_at hl 1 rfl) ?_
  refine lv_iconst (v := 3) hx hb dX0_fill_1 (by decide) ?_
  exact g_xout C htab hD hS (Nat.le_of_ble_eq_true rfl) (Nat.le_of_ble_eq_true rfl) (g_xrunS (wr := []) (n := 2) (As := [.int p0, .int 3]) C (xX0_requireIndex l D t [(cI, .int)] (ra_w cI o ad u) H.size hl0 p0 3 h) (rw_S q85 q86 q2 q87) kd_X0_requireIndex ⟨Nat.le_of_ble_eq_true rfl, Nat.le_of_ble_eq_true rfl⟩ C.2.2.2.2.2.1 hP hD hS hl.1 rfl rfl (Nat.le_of_ble_eq_true rfl) dX0_fill_2 ⟨Nat.le_of_ble_eq_true rfl, Nat.le_of_ble_eq_true rfl⟩)
set_option maxHeartbeats 4000000 in
set_option maxRecDepth 100000 in
theorem xX0_fill2 (l : Launch) (D : va_G) (t : Nat → Nat) (cI : ClassId) (o : Nat) (ad : Nat → Nat) (sz : Nat) (u : S0) (hl0 : l.stackTraces = false) (k : Nat) (hk : k < 3) (x : Int32) (h : x < 1 ∨ ¬ x ≤ 500) : gX l yX0_fill (rw_ yX0_fill cX0_fill 3 (some .int)) (rm_ 7 1 6 104) [.ref o, .int (nI k), .int x] D [(cI, .int)] t (ra_w cI o ad u) sz "java/lang/IllegalArgumentException" := by
  refine gX_of (cc := cX0_fill) (nL := 3) (rt := (some .int)) (by decide) (Nat.le_of_ble_eq_true rfl) (fun p e s m args below meth c A ls H C htab hS hP hD hl => ?_)
  have hx := C.1
  have hb := C.2.1
  have hown := C.2.2.2.1
  have hts := C.2.2.2.2.1
  have hl : lv_has ls 3 [(0, .ref o), (1, .int (nI k)), (2, .int x)] := hl
  refine lv_iload_n hx hb dX0_fill_0 rfl (lv_at hl 1 rfl) ?_
  refine lv_iconst (v := 3) hx hb dX0_fill_1 (by decide) ?_
  refine g_cv (wr := []) (cells' := 0) (slots' := 0) rfl rfl C rd_nil hD hS (g_runS (wr := []) (n := 2) (As := [.int (nI k), .int 3]) C (mX0_requireIndex l D t [(cI, .int)] (ra_w cI o ad u) H.size k 3 (by omega) (by omega)) (rw_S q85 q86 q2 q87) kd_X0_requireIndex ⟨Nat.le_of_ble_eq_true rfl, Nat.le_of_ble_eq_true rfl⟩ C.2.2.2.2.2.1 hP hD hS hl.1 rfl rfl (Nat.le_of_ble_eq_true rfl) dX0_fill_2 ⟨Nat.le_of_ble_eq_true rfl, Nat.le_of_ble_eq_true rfl⟩) (fun w' H locs hv _ _ hP hD hS => ?_)
  subst hv
  have hD : va_D A (ra_w cI o ad u) := hD
  refine lv_iload_n hx hb dX0_fill_5 rfl (lv_at hl 2 rfl) ?_
  refine lv_iconst (v := 1) hx hb dX0_fill_6 (by decide) ?_
  refine lv_sipush (v := 500) hx hb dX0_fill_7 (by decide) ?_
  exact g_xout C htab hD hS (Nat.le_of_ble_eq_true rfl) (Nat.le_of_ble_eq_true rfl) (g_xrunS (wr := []) (n := 3) (As := [.int x, .int 1, .int 500]) C (xX0_requireArgument l D t [(cI, .int)] (ra_w cI o ad u) H.size hl0 x 1 500 h) (rw_S q45 q46 q2 q47) kd_X0_requireArgument ⟨Nat.le_of_ble_eq_true rfl, Nat.le_of_ble_eq_true rfl⟩ C.2.2.2.2.2.1 hP hD hS hl.1 rfl rfl (Nat.le_of_ble_eq_true rfl) dX0_fill_10 ⟨Nat.le_of_ble_eq_true rfl, Nat.le_of_ble_eq_true rfl⟩)
set_option maxHeartbeats 4000000 in
set_option maxRecDepth 100000 in
theorem xX0_bind1 (l : Launch) (D : va_G) (t : Nat → Nat) (cI : ClassId) (o : Nat) (ad : Nat → Nat) (sz : Nat) (u : S0) (hl0 : l.stackTraces = false) (p0 p1 : Int32) (h : p0 < 0 ∨ nI u.2.1 ≤ p0) : gX l yX0_bind (rw_ yX0_bind cX0_bind 3 (some .int)) (rm_ 7 1 6 103) [.ref o, .int p0, .int p1] D [(cI, .int)] t (ra_w cI o ad u) sz "java/lang/IndexOutOfBoundsException" := by
  refine gX_of (cc := cX0_bind) (nL := 3) (rt := (some .int)) (by decide) (Nat.le_of_ble_eq_true rfl) (fun p e s m args below meth c A ls H C htab hS hP hD hl => ?_)
  have hx := C.1
  have hb := C.2.1
  have hown := C.2.2.2.1
  have hts := C.2.2.2.2.1
  have hl : lv_has ls 3 [(0, .ref o), (1, .int p0), (2, .int p1)] := hl
  refine lv_iload_n hx hb dX0_bind_0 rfl (lv_at hl 1 rfl) ?_
  refine lv_aload_n hx hb dX0_bind_1 rfl (lv_at hl 0 rfl) ?_
  refine x0_gf C hP 9 (by decide) (v := .int (nI u.2.1)) rfl rfl q44 dX0_bind_2 ?_
  exact g_xout C htab hD hS (Nat.le_of_ble_eq_true rfl) (Nat.le_of_ble_eq_true rfl) (g_xrunS (wr := []) (n := 2) (As := [.int p0, .int (nI u.2.1)]) C (xX0_requireIndex l D t [(cI, .int)] (ra_w cI o ad u) H.size hl0 p0 (nI u.2.1) h) (rw_S q85 q86 q2 q87) kd_X0_requireIndex ⟨Nat.le_of_ble_eq_true rfl, Nat.le_of_ble_eq_true rfl⟩ C.2.2.2.2.2.1 hP hD hS hl.1 rfl rfl (Nat.le_of_ble_eq_true rfl) dX0_bind_5 ⟨Nat.le_of_ble_eq_true rfl, Nat.le_of_ble_eq_true rfl⟩)
set_option maxHeartbeats 4000000 in
set_option maxRecDepth 100000 in
theorem xX0_bind2 (l : Launch) (D : va_G) (t : Nat → Nat) (cI : ClassId) (o : Nat) (ad : Nat → Nat) (sz : Nat) (u : S0) (hl0 : l.stackTraces = false) (hh : u.2.1 ≤ 8) (r : Nat) (hr : r < u.2.1) (x : Int32) (h : x < 1 ∨ ¬ x ≤ 999) : gX l yX0_bind (rw_ yX0_bind cX0_bind 3 (some .int)) (rm_ 7 1 6 104) [.ref o, .int (nI r), .int x] D [(cI, .int)] t (ra_w cI o ad u) sz "java/lang/IllegalArgumentException" := by
  refine gX_of (cc := cX0_bind) (nL := 3) (rt := (some .int)) (by decide) (Nat.le_of_ble_eq_true rfl) (fun p e s m args below meth c A ls H C htab hS hP hD hl => ?_)
  have hx := C.1
  have hb := C.2.1
  have hown := C.2.2.2.1
  have hts := C.2.2.2.2.1
  have hl : lv_has ls 3 [(0, .ref o), (1, .int (nI r)), (2, .int x)] := hl
  refine lv_iload_n hx hb dX0_bind_0 rfl (lv_at hl 1 rfl) ?_
  refine lv_aload_n hx hb dX0_bind_1 rfl (lv_at hl 0 rfl) ?_
  refine x0_gf C hP 9 (by decide) (v := .int (nI u.2.1)) rfl rfl q44 dX0_bind_2 ?_
  refine g_cv (wr := []) (cells' := 0) (slots' := 0) rfl rfl C rd_nil hD hS (g_runS (wr := []) (n := 2) (As := [.int (nI r), .int (nI u.2.1)]) C (mX0_requireIndex l D t [(cI, .int)] (ra_w cI o ad u) H.size r u.2.1 (by omega) (by omega)) (rw_S q85 q86 q2 q87) kd_X0_requireIndex ⟨Nat.le_of_ble_eq_true rfl, Nat.le_of_ble_eq_true rfl⟩ C.2.2.2.2.2.1 hP hD hS hl.1 rfl rfl (Nat.le_of_ble_eq_true rfl) dX0_bind_5 ⟨Nat.le_of_ble_eq_true rfl, Nat.le_of_ble_eq_true rfl⟩) (fun w' H locs hv _ _ hP hD hS => ?_)
  subst hv
  have hD : va_D A (ra_w cI o ad u) := hD
  refine lv_iload_n hx hb dX0_bind_8 rfl (lv_at hl 2 rfl) ?_
  refine lv_iconst (v := 1) hx hb dX0_bind_9 (by decide) ?_
  refine lv_sipush (v := 999) hx hb dX0_bind_10 (by decide) ?_
  exact g_xout C htab hD hS (Nat.le_of_ble_eq_true rfl) (Nat.le_of_ble_eq_true rfl) (g_xrunS (wr := []) (n := 3) (As := [.int x, .int 1, .int 999]) C (xX0_requireArgument l D t [(cI, .int)] (ra_w cI o ad u) H.size hl0 x 1 999 h) (rw_S q45 q46 q2 q47) kd_X0_requireArgument ⟨Nat.le_of_ble_eq_true rfl, Nat.le_of_ble_eq_true rfl⟩ C.2.2.2.2.2.1 hP hD hS hl.1 rfl rfl (Nat.le_of_ble_eq_true rfl) dX0_bind_13 ⟨Nat.le_of_ble_eq_true rfl, Nat.le_of_ble_eq_true rfl⟩)
set_option maxHeartbeats 4000000 in
set_option maxRecDepth 100000 in
theorem xX0_work1 (l : Launch) (D : va_G) (t : Nat → Nat) (cI : ClassId) (o : Nat) (ad : Nat → Nat) (sz : Nat) (u : S0) (hl0 : l.stackTraces = false) (p0 p1 : Int32) (b : Int32) (h : p0 < 0 ∨ nI u.2.1 ≤ p0) : gX l yX0_work (rw_ yX0_work cX0_work 4 (some .int)) (rm_ 7 1 6 103) [.ref o, .int p0, .int p1, .int b] D [(cI, .int)] t (ra_w cI o ad u) sz "java/lang/IndexOutOfBoundsException" := by
  refine gX_of (cc := cX0_work) (nL := 4) (rt := (some .int)) (by decide) (Nat.le_of_ble_eq_true rfl) (fun p e s m args below meth c A ls H C htab hS hP hD hl => ?_)
  have hx := C.1
  have hb := C.2.1
  have hown := C.2.2.2.1
  have hts := C.2.2.2.2.1
  have hl : lv_has ls 4 [(0, .ref o), (1, .int p0), (2, .int p1), (3, .int b)] := hl
  refine lv_iload_n hx hb dX0_work_0 rfl (lv_at hl 1 rfl) ?_
  refine lv_aload_n hx hb dX0_work_1 rfl (lv_at hl 0 rfl) ?_
  refine x0_gf C hP 9 (by decide) (v := .int (nI u.2.1)) rfl rfl q44 dX0_work_2 ?_
  exact g_xout C htab hD hS (Nat.le_of_ble_eq_true rfl) (Nat.le_of_ble_eq_true rfl) (g_xrunS (wr := []) (n := 2) (As := [.int p0, .int (nI u.2.1)]) C (xX0_requireIndex l D t [(cI, .int)] (ra_w cI o ad u) H.size hl0 p0 (nI u.2.1) h) (rw_S q85 q86 q2 q87) kd_X0_requireIndex ⟨Nat.le_of_ble_eq_true rfl, Nat.le_of_ble_eq_true rfl⟩ C.2.2.2.2.2.1 hP hD hS hl.1 rfl rfl (Nat.le_of_ble_eq_true rfl) dX0_work_5 ⟨Nat.le_of_ble_eq_true rfl, Nat.le_of_ble_eq_true rfl⟩)
set_option maxHeartbeats 4000000 in
set_option maxRecDepth 100000 in
theorem xX0_work2 (l : Launch) (D : va_G) (t : Nat → Nat) (cI : ClassId) (o : Nat) (ad : Nat → Nat) (sz : Nat) (u : S0) (hl0 : l.stackTraces = false) (hh : u.2.1 ≤ 8) (r : Nat) (hr : r < u.2.1) (x : Int32) (b : Int32) (h : x < 0 ∨ ¬ x ≤ 16) : gX l yX0_work (rw_ yX0_work cX0_work 4 (some .int)) (rm_ 7 1 6 104) [.ref o, .int (nI r), .int x, .int b] D [(cI, .int)] t (ra_w cI o ad u) sz "java/lang/IllegalArgumentException" := by
  refine gX_of (cc := cX0_work) (nL := 4) (rt := (some .int)) (by decide) (Nat.le_of_ble_eq_true rfl) (fun p e s m args below meth c A ls H C htab hS hP hD hl => ?_)
  have hx := C.1
  have hb := C.2.1
  have hown := C.2.2.2.1
  have hts := C.2.2.2.2.1
  have hl : lv_has ls 4 [(0, .ref o), (1, .int (nI r)), (2, .int x), (3, .int b)] := hl
  refine lv_iload_n hx hb dX0_work_0 rfl (lv_at hl 1 rfl) ?_
  refine lv_aload_n hx hb dX0_work_1 rfl (lv_at hl 0 rfl) ?_
  refine x0_gf C hP 9 (by decide) (v := .int (nI u.2.1)) rfl rfl q44 dX0_work_2 ?_
  refine g_cv (wr := []) (cells' := 0) (slots' := 0) rfl rfl C rd_nil hD hS (g_runS (wr := []) (n := 2) (As := [.int (nI r), .int (nI u.2.1)]) C (mX0_requireIndex l D t [(cI, .int)] (ra_w cI o ad u) H.size r u.2.1 (by omega) (by omega)) (rw_S q85 q86 q2 q87) kd_X0_requireIndex ⟨Nat.le_of_ble_eq_true rfl, Nat.le_of_ble_eq_true rfl⟩ C.2.2.2.2.2.1 hP hD hS hl.1 rfl rfl (Nat.le_of_ble_eq_true rfl) dX0_work_5 ⟨Nat.le_of_ble_eq_true rfl, Nat.le_of_ble_eq_true rfl⟩) (fun w' H locs hv _ _ hP hD hS => ?_)
  subst hv
  have hD : va_D A (ra_w cI o ad u) := hD
  refine lv_iload_n hx hb dX0_work_8 rfl (lv_at hl 2 rfl) ?_
  refine lv_iconst (v := 0) hx hb dX0_work_9 (by decide) ?_
  refine lv_bipush (v := 16) hx hb dX0_work_10 (by decide) ?_
  exact g_xout C htab hD hS (Nat.le_of_ble_eq_true rfl) (Nat.le_of_ble_eq_true rfl) (g_xrunS (wr := []) (n := 3) (As := [.int x, .int 0, .int 16]) C (xX0_requireArgument l D t [(cI, .int)] (ra_w cI o ad u) H.size hl0 x 0 16 h) (rw_S q45 q46 q2 q47) kd_X0_requireArgument ⟨Nat.le_of_ble_eq_true rfl, Nat.le_of_ble_eq_true rfl⟩ C.2.2.2.2.2.1 hP hD hS hl.1 rfl rfl (Nat.le_of_ble_eq_true rfl) dX0_work_12 ⟨Nat.le_of_ble_eq_true rfl, Nat.le_of_ble_eq_true rfl⟩)
set_option maxHeartbeats 4000000 in
set_option maxRecDepth 100000 in
theorem xX0_work3 (l : Launch) (D : va_G) (t : Nat → Nat) (cI : ClassId) (o : Nat) (ad : Nat → Nat) (sz : Nat) (u : S0) (hl0 : l.stackTraces = false) (hh : u.2.1 ≤ 8) (r : Nat) (hr : r < u.2.1) (x : Int32) (b : Int32) (h1 : ¬ x < 0) (h2 : x ≤ 16) (h3 : 99 < u.1 2 r + x) : gX l yX0_work (rw_ yX0_work cX0_work 4 (some .int)) (rm_ 7 1 6 102) [.ref o, .int (nI r), .int x, .int b] D [(cI, .int)] t (ra_w cI o ad u) sz "java/lang/IllegalStateException" := by
  refine gX_of (cc := cX0_work) (nL := 4) (rt := (some .int)) (by decide) (Nat.le_of_ble_eq_true rfl) (fun p e s m args below meth c A ls H C htab hS hP hD hl => ?_)
  have hx := C.1
  have hb := C.2.1
  have hown := C.2.2.2.1
  have hts := C.2.2.2.2.1
  have hl : lv_has ls 4 [(0, .ref o), (1, .int (nI r)), (2, .int x), (3, .int b)] := hl
  refine lv_iload_n hx hb dX0_work_0 rfl (lv_at hl 1 rfl) ?_
  refine lv_aload_n hx hb dX0_work_1 rfl (lv_at hl 0 rfl) ?_
  refine x0_gf C hP 9 (by decide) (v := .int (nI u.2.1)) rfl rfl q44 dX0_work_2 ?_
  refine g_cv (wr := []) (cells' := 0) (slots' := 0) rfl rfl C rd_nil hD hS (g_runS (wr := []) (n := 2) (As := [.int (nI r), .int (nI u.2.1)]) C (mX0_requireIndex l D t [(cI, .int)] (ra_w cI o ad u) H.size r u.2.1 (by omega) (by omega)) (rw_S q85 q86 q2 q87) kd_X0_requireIndex ⟨Nat.le_of_ble_eq_true rfl, Nat.le_of_ble_eq_true rfl⟩ C.2.2.2.2.2.1 hP hD hS hl.1 rfl rfl (Nat.le_of_ble_eq_true rfl) dX0_work_5 ⟨Nat.le_of_ble_eq_true rfl, Nat.le_of_ble_eq_true rfl⟩) (fun w' H locs hv _ _ hP hD hS => ?_)
  subst hv
  have hD : va_D A (ra_w cI o ad u) := hD
  refine lv_iload_n hx hb dX0_work_8 rfl (lv_at hl 2 rfl) ?_
  refine lv_iconst (v := 0) hx hb dX0_work_9 (by decide) ?_
  refine lv_bipush (v := 16) hx hb dX0_work_10 (by decide) ?_
  refine g_cv (wr := []) (cells' := 0) (slots' := 0) rfl rfl C rd_nil hD hS (g_runS (wr := []) (n := 3) (As := [.int x, .int 0, .int 16]) C (mX0_requireArgument l D t [(cI, .int)] (ra_w cI o ad u) H.size x 0 16 h1 h2) (rw_S q45 q46 q2 q47) kd_X0_requireArgument ⟨Nat.le_of_ble_eq_true rfl, Nat.le_of_ble_eq_true rfl⟩ C.2.2.2.2.2.1 hP hD hS hl.1 rfl rfl (Nat.le_of_ble_eq_true rfl) dX0_work_12 ⟨Nat.le_of_ble_eq_true rfl, Nat.le_of_ble_eq_true rfl⟩) (fun w' H locs hv _ _ hP hD hS => ?_)
  subst hv
  have hD : va_D A (ra_w cI o ad u) := hD
  refine lv_aload_n hx hb dX0_work_15 rfl (lv_at hl 0 rfl) ?_
  refine x0_gf C hP 2 (by decide) (v := .ref (ad 2)) rfl rfl q16 dX0_work_16 ?_
  refine lv_iload_n hx hb dX0_work_19 rfl (lv_at hl 1 rfl) ?_
  refine x0_ld C hP (k := 2) (i := r) (Or.inl (by decide)) (show r < 8 by omega) rfl dX0_work_20 ?_
  refine lv_iload_n hx hb dX0_work_21 rfl (lv_at hl 2 rfl) ?_
  refine lv_iadd hx hb dX0_work_22 ?_
  refine lv_bipush (v := 99) hx hb dX0_work_23 (by decide) ?_
  refine lv_icmp_gt (tgt := 32) hx hb dX0_work_25 (by decide) (fun c1 => ?_) (fun c1 => absurd h3 c1)
  refine lv_iconst (v := 0) hx hb dX0_work_32 (by decide) ?_
  exact g_xout C htab hD hS (Nat.le_of_ble_eq_true rfl) (Nat.le_of_ble_eq_true rfl) (g_xrunS (wr := []) (n := 1) (As := [.int 0]) C (xX0_requireState l D t [(cI, .int)] (ra_w cI o ad u) H.size hl0 0 rfl) (rw_S q50 q51 q2 q52) kd_X0_requireState ⟨Nat.le_of_ble_eq_true rfl, Nat.le_of_ble_eq_true rfl⟩ C.2.2.2.2.2.1 hP hD hS hl.1 rfl rfl (Nat.le_of_ble_eq_true rfl) dX0_work_33 ⟨Nat.le_of_ble_eq_true rfl, Nat.le_of_ble_eq_true rfl⟩)
set_option maxHeartbeats 4000000 in
set_option maxRecDepth 100000 in
theorem xX0_lend1 (l : Launch) (D : va_G) (t : Nat → Nat) (cI : ClassId) (o : Nat) (ad : Nat → Nat) (sz : Nat) (u : S0) (hl0 : l.stackTraces = false) (p0 p1 : Int32) (h : p0 < 0 ∨ nI u.2.1 ≤ p0) : gX l yX0_lend (rw_ yX0_lend cX0_lend 3 (some .int)) (rm_ 7 1 6 103) [.ref o, .int p0, .int p1] D [(cI, .int)] t (ra_w cI o ad u) sz "java/lang/IndexOutOfBoundsException" := by
  refine gX_of (cc := cX0_lend) (nL := 3) (rt := (some .int)) (by decide) (Nat.le_of_ble_eq_true rfl) (fun p e s m args below meth c A ls H C htab hS hP hD hl => ?_)
  have hx := C.1
  have hb := C.2.1
  have hown := C.2.2.2.1
  have hts := C.2.2.2.2.1
  have hl : lv_has ls 3 [(0, .ref o), (1, .int p0), (2, .int p1)] := hl
  refine lv_iload_n hx hb dX0_lend_0 rfl (lv_at hl 1 rfl) ?_
  refine lv_aload_n hx hb dX0_lend_1 rfl (lv_at hl 0 rfl) ?_
  refine x0_gf C hP 9 (by decide) (v := .int (nI u.2.1)) rfl rfl q44 dX0_lend_2 ?_
  exact g_xout C htab hD hS (Nat.le_of_ble_eq_true rfl) (Nat.le_of_ble_eq_true rfl) (g_xrunS (wr := []) (n := 2) (As := [.int p0, .int (nI u.2.1)]) C (xX0_requireIndex l D t [(cI, .int)] (ra_w cI o ad u) H.size hl0 p0 (nI u.2.1) h) (rw_S q85 q86 q2 q87) kd_X0_requireIndex ⟨Nat.le_of_ble_eq_true rfl, Nat.le_of_ble_eq_true rfl⟩ C.2.2.2.2.2.1 hP hD hS hl.1 rfl rfl (Nat.le_of_ble_eq_true rfl) dX0_lend_5 ⟨Nat.le_of_ble_eq_true rfl, Nat.le_of_ble_eq_true rfl⟩)
set_option maxHeartbeats 4000000 in
set_option maxRecDepth 100000 in
theorem xX0_lend2 (l : Launch) (D : va_G) (t : Nat → Nat) (cI : ClassId) (o : Nat) (ad : Nat → Nat) (sz : Nat) (u : S0) (hl0 : l.stackTraces = false) (hh : u.2.1 ≤ 8) (r : Nat) (hr : r < u.2.1) (x : Int32) (h : x < 1 ∨ ¬ x ≤ 2000) : gX l yX0_lend (rw_ yX0_lend cX0_lend 3 (some .int)) (rm_ 7 1 6 104) [.ref o, .int (nI r), .int x] D [(cI, .int)] t (ra_w cI o ad u) sz "java/lang/IllegalArgumentException" := by
  refine gX_of (cc := cX0_lend) (nL := 3) (rt := (some .int)) (by decide) (Nat.le_of_ble_eq_true rfl) (fun p e s m args below meth c A ls H C htab hS hP hD hl => ?_)
  have hx := C.1
  have hb := C.2.1
  have hown := C.2.2.2.1
  have hts := C.2.2.2.2.1
  have hl : lv_has ls 3 [(0, .ref o), (1, .int (nI r)), (2, .int x)] := hl
  refine lv_iload_n hx hb dX0_lend_0 rfl (lv_at hl 1 rfl) ?_
  refine lv_aload_n hx hb dX0_lend_1 rfl (lv_at hl 0 rfl) ?_
  refine x0_gf C hP 9 (by decide) (v := .int (nI u.2.1)) rfl rfl q44 dX0_lend_2 ?_
  refine g_cv (wr := []) (cells' := 0) (slots' := 0) rfl rfl C rd_nil hD hS (g_runS (wr := []) (n := 2) (As := [.int (nI r), .int (nI u.2.1)]) C (mX0_requireIndex l D t [(cI, .int)] (ra_w cI o ad u) H.size r u.2.1 (by omega) (by omega)) (rw_S q85 q86 q2 q87) kd_X0_requireIndex ⟨Nat.le_of_ble_eq_true rfl, Nat.le_of_ble_eq_true rfl⟩ C.2.2.2.2.2.1 hP hD hS hl.1 rfl rfl (Nat.le_of_ble_eq_true rfl) dX0_lend_5 ⟨Nat.le_of_ble_eq_true rfl, Nat.le_of_ble_eq_true rfl⟩) (fun w' H locs hv _ _ hP hD hS => ?_)
  subst hv
  have hD : va_D A (ra_w cI o ad u) := hD
  refine lv_iload_n hx hb dX0_lend_8 rfl (lv_at hl 2 rfl) ?_
  refine lv_iconst (v := 1) hx hb dX0_lend_9 (by decide) ?_
  refine lv_sipush (v := 2000) hx hb dX0_lend_10 (by decide) ?_
  exact g_xout C htab hD hS (Nat.le_of_ble_eq_true rfl) (Nat.le_of_ble_eq_true rfl) (g_xrunS (wr := []) (n := 3) (As := [.int x, .int 1, .int 2000]) C (xX0_requireArgument l D t [(cI, .int)] (ra_w cI o ad u) H.size hl0 x 1 2000 h) (rw_S q45 q46 q2 q47) kd_X0_requireArgument ⟨Nat.le_of_ble_eq_true rfl, Nat.le_of_ble_eq_true rfl⟩ C.2.2.2.2.2.1 hP hD hS hl.1 rfl rfl (Nat.le_of_ble_eq_true rfl) dX0_lend_13 ⟨Nat.le_of_ble_eq_true rfl, Nat.le_of_ble_eq_true rfl⟩)
set_option maxHeartbeats 4000000 in
set_option maxRecDepth 100000 in
theorem xX0_lend3 (l : Launch) (D : va_G) (t : Nat → Nat) (cI : ClassId) (o : Nat) (ad : Nat → Nat) (sz : Nat) (u : S0) (hl0 : l.stackTraces = false) (hh : u.2.1 ≤ 8) (r : Nat) (hr : r < u.2.1) (x : Int32) (h1 : ¬ x < 1) (h2 : x ≤ 2000) (h3 : 5000 < u.1 4 r + x) : gX l yX0_lend (rw_ yX0_lend cX0_lend 3 (some .int)) (rm_ 7 1 6 102) [.ref o, .int (nI r), .int x] D [(cI, .int)] t (ra_w cI o ad u) sz "java/lang/IllegalStateException" := by
  refine gX_of (cc := cX0_lend) (nL := 3) (rt := (some .int)) (by decide) (Nat.le_of_ble_eq_true rfl) (fun p e s m args below meth c A ls H C htab hS hP hD hl => ?_)
  have hx := C.1
  have hb := C.2.1
  have hown := C.2.2.2.1
  have hts := C.2.2.2.2.1
  have hl : lv_has ls 3 [(0, .ref o), (1, .int (nI r)), (2, .int x)] := hl
  refine lv_iload_n hx hb dX0_lend_0 rfl (lv_at hl 1 rfl) ?_
  refine lv_aload_n hx hb dX0_lend_1 rfl (lv_at hl 0 rfl) ?_
  refine x0_gf C hP 9 (by decide) (v := .int (nI u.2.1)) rfl rfl q44 dX0_lend_2 ?_
  refine g_cv (wr := []) (cells' := 0) (slots' := 0) rfl rfl C rd_nil hD hS (g_runS (wr := []) (n := 2) (As := [.int (nI r), .int (nI u.2.1)]) C (mX0_requireIndex l D t [(cI, .int)] (ra_w cI o ad u) H.size r u.2.1 (by omega) (by omega)) (rw_S q85 q86 q2 q87) kd_X0_requireIndex ⟨Nat.le_of_ble_eq_true rfl, Nat.le_of_ble_eq_true rfl⟩ C.2.2.2.2.2.1 hP hD hS hl.1 rfl rfl (Nat.le_of_ble_eq_true rfl) dX0_lend_5 ⟨Nat.le_of_ble_eq_true rfl, Nat.le_of_ble_eq_true rfl⟩) (fun w' H locs hv _ _ hP hD hS => ?_)
  subst hv
  have hD : va_D A (ra_w cI o ad u) := hD
  refine lv_iload_n hx hb dX0_lend_8 rfl (lv_at hl 2 rfl) ?_
  refine lv_iconst (v := 1) hx hb dX0_lend_9 (by decide) ?_
  refine lv_sipush (v := 2000) hx hb dX0_lend_10 (by decide) ?_
  refine g_cv (wr := []) (cells' := 0) (slots' := 0) rfl rfl C rd_nil hD hS (g_runS (wr := []) (n := 3) (As := [.int x, .int 1, .int 2000]) C (mX0_requireArgument l D t [(cI, .int)] (ra_w cI o ad u) H.size x 1 2000 h1 h2) (rw_S q45 q46 q2 q47) kd_X0_requireArgument ⟨Nat.le_of_ble_eq_true rfl, Nat.le_of_ble_eq_true rfl⟩ C.2.2.2.2.2.1 hP hD hS hl.1 rfl rfl (Nat.le_of_ble_eq_true rfl) dX0_lend_13 ⟨Nat.le_of_ble_eq_true rfl, Nat.le_of_ble_eq_true rfl⟩) (fun w' H locs hv _ _ hP hD hS => ?_)
  subst hv
  have hD : va_D A (ra_w cI o ad u) := hD
  refine lv_aload_n hx hb dX0_lend_16 rfl (lv_at hl 0 rfl) ?_
  refine x0_gf C hP 4 (by decide) (v := .ref (ad 4)) rfl rfl q18 dX0_lend_17 ?_
  refine lv_iload_n hx hb dX0_lend_20 rfl (lv_at hl 1 rfl) ?_
  refine x0_ld C hP (k := 4) (i := r) (Or.inl (by decide)) (show r < 8 by omega) rfl dX0_lend_21 ?_
  refine lv_iload_n hx hb dX0_lend_22 rfl (lv_at hl 2 rfl) ?_
  refine lv_iadd hx hb dX0_lend_23 ?_
  refine lv_sipush (v := 5000) hx hb dX0_lend_24 (by decide) ?_
  refine lv_icmp_gt (tgt := 34) hx hb dX0_lend_27 (by decide) (fun c1 => ?_) (fun c1 => absurd h3 c1)
  refine lv_iconst (v := 0) hx hb dX0_lend_34 (by decide) ?_
  exact g_xout C htab hD hS (Nat.le_of_ble_eq_true rfl) (Nat.le_of_ble_eq_true rfl) (g_xrunS (wr := []) (n := 1) (As := [.int 0]) C (xX0_requireState l D t [(cI, .int)] (ra_w cI o ad u) H.size hl0 0 rfl) (rw_S q50 q51 q2 q52) kd_X0_requireState ⟨Nat.le_of_ble_eq_true rfl, Nat.le_of_ble_eq_true rfl⟩ C.2.2.2.2.2.1 hP hD hS hl.1 rfl rfl (Nat.le_of_ble_eq_true rfl) dX0_lend_35 ⟨Nat.le_of_ble_eq_true rfl, Nat.le_of_ble_eq_true rfl⟩)
set_option maxHeartbeats 4000000 in
set_option maxRecDepth 100000 in
theorem xX0_told1 (l : Launch) (D : va_G) (t : Nat → Nat) (cI : ClassId) (o : Nat) (ad : Nat → Nat) (sz : Nat) (u : S0) (hl0 : l.stackTraces = false) (p0 p1 : Int32) (h : p0 < 0 ∨ nI u.2.1 ≤ p0) : gX l yX0_told (rw_ yX0_told cX0_told 3 (some .int)) (rm_ 7 1 6 103) [.ref o, .int p0, .int p1] D [(cI, .int)] t (ra_w cI o ad u) sz "java/lang/IndexOutOfBoundsException" := by
  refine gX_of (cc := cX0_told) (nL := 3) (rt := (some .int)) (by decide) (Nat.le_of_ble_eq_true rfl) (fun p e s m args below meth c A ls H C htab hS hP hD hl => ?_)
  have hx := C.1
  have hb := C.2.1
  have hown := C.2.2.2.1
  have hts := C.2.2.2.2.1
  have hl : lv_has ls 3 [(0, .ref o), (1, .int p0), (2, .int p1)] := hl
  refine lv_iload_n hx hb dX0_told_0 rfl (lv_at hl 1 rfl) ?_
  refine lv_aload_n hx hb dX0_told_1 rfl (lv_at hl 0 rfl) ?_
  refine x0_gf C hP 9 (by decide) (v := .int (nI u.2.1)) rfl rfl q44 dX0_told_2 ?_
  exact g_xout C htab hD hS (Nat.le_of_ble_eq_true rfl) (Nat.le_of_ble_eq_true rfl) (g_xrunS (wr := []) (n := 2) (As := [.int p0, .int (nI u.2.1)]) C (xX0_requireIndex l D t [(cI, .int)] (ra_w cI o ad u) H.size hl0 p0 (nI u.2.1) h) (rw_S q85 q86 q2 q87) kd_X0_requireIndex ⟨Nat.le_of_ble_eq_true rfl, Nat.le_of_ble_eq_true rfl⟩ C.2.2.2.2.2.1 hP hD hS hl.1 rfl rfl (Nat.le_of_ble_eq_true rfl) dX0_told_5 ⟨Nat.le_of_ble_eq_true rfl, Nat.le_of_ble_eq_true rfl⟩)
set_option maxHeartbeats 4000000 in
set_option maxRecDepth 100000 in
theorem xX0_told2 (l : Launch) (D : va_G) (t : Nat → Nat) (cI : ClassId) (o : Nat) (ad : Nat → Nat) (sz : Nat) (u : S0) (hl0 : l.stackTraces = false) (hh : u.2.1 ≤ 8) (r : Nat) (hr : r < u.2.1) (p1 : Int32) (h : p1 < 0 ∨ 8 ≤ p1) : gX l yX0_told (rw_ yX0_told cX0_told 3 (some .int)) (rm_ 7 1 6 103) [.ref o, .int (nI r), .int p1] D [(cI, .int)] t (ra_w cI o ad u) sz "java/lang/IndexOutOfBoundsException" := by
  refine gX_of (cc := cX0_told) (nL := 3) (rt := (some .int)) (by decide) (Nat.le_of_ble_eq_true rfl) (fun p e s m args below meth c A ls H C htab hS hP hD hl => ?_)
  have hx := C.1
  have hb := C.2.1
  have hown := C.2.2.2.1
  have hts := C.2.2.2.2.1
  have hl : lv_has ls 3 [(0, .ref o), (1, .int (nI r)), (2, .int p1)] := hl
  refine lv_iload_n hx hb dX0_told_0 rfl (lv_at hl 1 rfl) ?_
  refine lv_aload_n hx hb dX0_told_1 rfl (lv_at hl 0 rfl) ?_
  refine x0_gf C hP 9 (by decide) (v := .int (nI u.2.1)) rfl rfl q44 dX0_told_2 ?_
  refine g_cv (wr := []) (cells' := 0) (slots' := 0) rfl rfl C rd_nil hD hS (g_runS (wr := []) (n := 2) (As := [.int (nI r), .int (nI u.2.1)]) C (mX0_requireIndex l D t [(cI, .int)] (ra_w cI o ad u) H.size r u.2.1 (by omega) (by omega)) (rw_S q85 q86 q2 q87) kd_X0_requireIndex ⟨Nat.le_of_ble_eq_true rfl, Nat.le_of_ble_eq_true rfl⟩ C.2.2.2.2.2.1 hP hD hS hl.1 rfl rfl (Nat.le_of_ble_eq_true rfl) dX0_told_5 ⟨Nat.le_of_ble_eq_true rfl, Nat.le_of_ble_eq_true rfl⟩) (fun w' H locs hv _ _ hP hD hS => ?_)
  subst hv
  have hD : va_D A (ra_w cI o ad u) := hD
  refine lv_iload_n hx hb dX0_told_8 rfl (lv_at hl 2 rfl) ?_
  refine lv_bipush (v := 8) hx hb dX0_told_9 (by decide) ?_
  exact g_xout C htab hD hS (Nat.le_of_ble_eq_true rfl) (Nat.le_of_ble_eq_true rfl) (g_xrunS (wr := []) (n := 2) (As := [.int p1, .int 8]) C (xX0_requireIndex l D t [(cI, .int)] (ra_w cI o ad u) H.size hl0 p1 8 h) (rw_S q85 q86 q2 q87) kd_X0_requireIndex ⟨Nat.le_of_ble_eq_true rfl, Nat.le_of_ble_eq_true rfl⟩ C.2.2.2.2.2.1 hP hD hS hl.1 rfl rfl (Nat.le_of_ble_eq_true rfl) dX0_told_11 ⟨Nat.le_of_ble_eq_true rfl, Nat.le_of_ble_eq_true rfl⟩)
set_option maxHeartbeats 4000000 in
set_option maxRecDepth 100000 in
theorem xX0_wage1 (l : Launch) (D : va_G) (t : Nat → Nat) (cI : ClassId) (o : Nat) (ad : Nat → Nat) (sz : Nat) (u : S0) (hl0 : l.stackTraces = false) (p0 p1 : Int32) (h : p0 < 0 ∨ nI u.2.1 ≤ p0) : gX l yX0_wage (rw_ yX0_wage cX0_wage 3 (some .int)) (rm_ 7 1 6 103) [.ref o, .int p0, .int p1] D [(cI, .int)] t (ra_w cI o ad u) sz "java/lang/IndexOutOfBoundsException" := by
  refine gX_of (cc := cX0_wage) (nL := 3) (rt := (some .int)) (by decide) (Nat.le_of_ble_eq_true rfl) (fun p e s m args below meth c A ls H C htab hS hP hD hl => ?_)
  have hx := C.1
  have hb := C.2.1
  have hown := C.2.2.2.1
  have hts := C.2.2.2.2.1
  have hl : lv_has ls 3 [(0, .ref o), (1, .int p0), (2, .int p1)] := hl
  refine lv_iload_n hx hb dX0_wage_0 rfl (lv_at hl 1 rfl) ?_
  refine lv_aload_n hx hb dX0_wage_1 rfl (lv_at hl 0 rfl) ?_
  refine x0_gf C hP 9 (by decide) (v := .int (nI u.2.1)) rfl rfl q44 dX0_wage_2 ?_
  exact g_xout C htab hD hS (Nat.le_of_ble_eq_true rfl) (Nat.le_of_ble_eq_true rfl) (g_xrunS (wr := []) (n := 2) (As := [.int p0, .int (nI u.2.1)]) C (xX0_requireIndex l D t [(cI, .int)] (ra_w cI o ad u) H.size hl0 p0 (nI u.2.1) h) (rw_S q85 q86 q2 q87) kd_X0_requireIndex ⟨Nat.le_of_ble_eq_true rfl, Nat.le_of_ble_eq_true rfl⟩ C.2.2.2.2.2.1 hP hD hS hl.1 rfl rfl (Nat.le_of_ble_eq_true rfl) dX0_wage_5 ⟨Nat.le_of_ble_eq_true rfl, Nat.le_of_ble_eq_true rfl⟩)
set_option maxHeartbeats 4000000 in
set_option maxRecDepth 100000 in
theorem xX0_wage2 (l : Launch) (D : va_G) (t : Nat → Nat) (cI : ClassId) (o : Nat) (ad : Nat → Nat) (sz : Nat) (u : S0) (hl0 : l.stackTraces = false) (hh : u.2.1 ≤ 8) (r : Nat) (hr : r < u.2.1) (p1 : Int32) (h : p1 < 0 ∨ 6 ≤ p1) : gX l yX0_wage (rw_ yX0_wage cX0_wage 3 (some .int)) (rm_ 7 1 6 103) [.ref o, .int (nI r), .int p1] D [(cI, .int)] t (ra_w cI o ad u) sz "java/lang/IndexOutOfBoundsException" := by
  refine gX_of (cc := cX0_wage) (nL := 3) (rt := (some .int)) (by decide) (Nat.le_of_ble_eq_true rfl) (fun p e s m args below meth c A ls H C htab hS hP hD hl => ?_)
  have hx := C.1
  have hb := C.2.1
  have hown := C.2.2.2.1
  have hts := C.2.2.2.2.1
  have hl : lv_has ls 3 [(0, .ref o), (1, .int (nI r)), (2, .int p1)] := hl
  refine lv_iload_n hx hb dX0_wage_0 rfl (lv_at hl 1 rfl) ?_
  refine lv_aload_n hx hb dX0_wage_1 rfl (lv_at hl 0 rfl) ?_
  refine x0_gf C hP 9 (by decide) (v := .int (nI u.2.1)) rfl rfl q44 dX0_wage_2 ?_
  refine g_cv (wr := []) (cells' := 0) (slots' := 0) rfl rfl C rd_nil hD hS (g_runS (wr := []) (n := 2) (As := [.int (nI r), .int (nI u.2.1)]) C (mX0_requireIndex l D t [(cI, .int)] (ra_w cI o ad u) H.size r u.2.1 (by omega) (by omega)) (rw_S q85 q86 q2 q87) kd_X0_requireIndex ⟨Nat.le_of_ble_eq_true rfl, Nat.le_of_ble_eq_true rfl⟩ C.2.2.2.2.2.1 hP hD hS hl.1 rfl rfl (Nat.le_of_ble_eq_true rfl) dX0_wage_5 ⟨Nat.le_of_ble_eq_true rfl, Nat.le_of_ble_eq_true rfl⟩) (fun w' H locs hv _ _ hP hD hS => ?_)
  subst hv
  have hD : va_D A (ra_w cI o ad u) := hD
  refine lv_iload_n hx hb dX0_wage_8 rfl (lv_at hl 2 rfl) ?_
  refine lv_bipush (v := 6) hx hb dX0_wage_9 (by decide) ?_
  exact g_xout C htab hD hS (Nat.le_of_ble_eq_true rfl) (Nat.le_of_ble_eq_true rfl) (g_xrunS (wr := []) (n := 2) (As := [.int p1, .int 6]) C (xX0_requireIndex l D t [(cI, .int)] (ra_w cI o ad u) H.size hl0 p1 6 h) (rw_S q85 q86 q2 q87) kd_X0_requireIndex ⟨Nat.le_of_ble_eq_true rfl, Nat.le_of_ble_eq_true rfl⟩ C.2.2.2.2.2.1 hP hD hS hl.1 rfl rfl (Nat.le_of_ble_eq_true rfl) dX0_wage_11 ⟨Nat.le_of_ble_eq_true rfl, Nat.le_of_ble_eq_true rfl⟩)
set_option maxHeartbeats 4000000 in
set_option maxRecDepth 100000 in
theorem xX0_coins1 (l : Launch) (D : va_G) (t : Nat → Nat) (cI : ClassId) (o : Nat) (ad : Nat → Nat) (sz : Nat) (u : S0) (hl0 : l.stackTraces = false) (p0 p1 : Int32) (h : p0 < 0 ∨ nI u.2.1 ≤ p0) : gX l yX0_coins (rw_ yX0_coins cX0_coins 4 (some .int)) (rm_ 7 1 6 103) [.ref o, .int p0, .int p1] D [(cI, .int)] t (ra_w cI o ad u) sz "java/lang/IndexOutOfBoundsException" := by
  refine gX_of (cc := cX0_coins) (nL := 4) (rt := (some .int)) (by decide) (Nat.le_of_ble_eq_true rfl) (fun p e s m args below meth c A ls H C htab hS hP hD hl => ?_)
  have hx := C.1
  have hb := C.2.1
  have hown := C.2.2.2.1
  have hts := C.2.2.2.2.1
  have hl : lv_has ls 4 [(0, .ref o), (1, .int p0), (2, .int p1)] := hl
  refine lv_iload_n hx hb dX0_coins_0 rfl (lv_at hl 1 rfl) ?_
  refine lv_aload_n hx hb dX0_coins_1 rfl (lv_at hl 0 rfl) ?_
  refine x0_gf C hP 9 (by decide) (v := .int (nI u.2.1)) rfl rfl q44 dX0_coins_2 ?_
  exact g_xout C htab hD hS (Nat.le_of_ble_eq_true rfl) (Nat.le_of_ble_eq_true rfl) (g_xrunS (wr := []) (n := 2) (As := [.int p0, .int (nI u.2.1)]) C (xX0_requireIndex l D t [(cI, .int)] (ra_w cI o ad u) H.size hl0 p0 (nI u.2.1) h) (rw_S q85 q86 q2 q87) kd_X0_requireIndex ⟨Nat.le_of_ble_eq_true rfl, Nat.le_of_ble_eq_true rfl⟩ C.2.2.2.2.2.1 hP hD hS hl.1 rfl rfl (Nat.le_of_ble_eq_true rfl) dX0_coins_5 ⟨Nat.le_of_ble_eq_true rfl, Nat.le_of_ble_eq_true rfl⟩)
set_option maxHeartbeats 4000000 in
set_option maxRecDepth 100000 in
theorem xX0_coins2 (l : Launch) (D : va_G) (t : Nat → Nat) (cI : ClassId) (o : Nat) (ad : Nat → Nat) (sz : Nat) (u : S0) (hl0 : l.stackTraces = false) (hh : u.2.1 ≤ 8) (r : Nat) (hr : r < u.2.1) (p1 : Int32) (h : p1 < 0 ∨ 3 ≤ p1) : gX l yX0_coins (rw_ yX0_coins cX0_coins 4 (some .int)) (rm_ 7 1 6 103) [.ref o, .int (nI r), .int p1] D [(cI, .int)] t (ra_w cI o ad u) sz "java/lang/IndexOutOfBoundsException" := by
  refine gX_of (cc := cX0_coins) (nL := 4) (rt := (some .int)) (by decide) (Nat.le_of_ble_eq_true rfl) (fun p e s m args below meth c A ls H C htab hS hP hD hl => ?_)
  have hx := C.1
  have hb := C.2.1
  have hown := C.2.2.2.1
  have hts := C.2.2.2.2.1
  have hl : lv_has ls 4 [(0, .ref o), (1, .int (nI r)), (2, .int p1)] := hl
  refine lv_iload_n hx hb dX0_coins_0 rfl (lv_at hl 1 rfl) ?_
  refine lv_aload_n hx hb dX0_coins_1 rfl (lv_at hl 0 rfl) ?_
  refine x0_gf C hP 9 (by decide) (v := .int (nI u.2.1)) rfl rfl q44 dX0_coins_2 ?_
  refine g_cv (wr := []) (cells' := 0) (slots' := 0) rfl rfl C rd_nil hD hS (g_runS (wr := []) (n := 2) (As := [.int (nI r), .int (nI u.2.1)]) C (mX0_requireIndex l D t [(cI, .int)] (ra_w cI o ad u) H.size r u.2.1 (by omega) (by omega)) (rw_S q85 q86 q2 q87) kd_X0_requireIndex ⟨Nat.le_of_ble_eq_true rfl, Nat.le_of_ble_eq_true rfl⟩ C.2.2.2.2.2.1 hP hD hS hl.1 rfl rfl (Nat.le_of_ble_eq_true rfl) dX0_coins_5 ⟨Nat.le_of_ble_eq_true rfl, Nat.le_of_ble_eq_true rfl⟩) (fun w' H locs hv _ _ hP hD hS => ?_)
  subst hv
  have hD : va_D A (ra_w cI o ad u) := hD
  refine lv_iload_n hx hb dX0_coins_8 rfl (lv_at hl 2 rfl) ?_
  refine lv_iconst (v := 3) hx hb dX0_coins_9 (by decide) ?_
  exact g_xout C htab hD hS (Nat.le_of_ble_eq_true rfl) (Nat.le_of_ble_eq_true rfl) (g_xrunS (wr := []) (n := 2) (As := [.int p1, .int 3]) C (xX0_requireIndex l D t [(cI, .int)] (ra_w cI o ad u) H.size hl0 p1 3 h) (rw_S q85 q86 q2 q87) kd_X0_requireIndex ⟨Nat.le_of_ble_eq_true rfl, Nat.le_of_ble_eq_true rfl⟩ C.2.2.2.2.2.1 hP hD hS hl.1 rfl rfl (Nat.le_of_ble_eq_true rfl) dX0_coins_10 ⟨Nat.le_of_ble_eq_true rfl, Nat.le_of_ble_eq_true rfl⟩)
set_option maxHeartbeats 4000000 in
set_option maxRecDepth 100000 in
theorem xX0_chest1 (l : Launch) (D : va_G) (t : Nat → Nat) (cI : ClassId) (o : Nat) (ad : Nat → Nat) (sz : Nat) (u : S0) (hl0 : l.stackTraces = false) (p0 : Int32) (h : p0 < 0 ∨ 3 ≤ p0) : gX l yX0_chest (rw_ yX0_chest cX0_chest 2 (some .int)) (rm_ 7 1 6 103) [.ref o, .int p0] D [(cI, .int)] t (ra_w cI o ad u) sz "java/lang/IndexOutOfBoundsException" := by
  refine gX_of (cc := cX0_chest) (nL := 2) (rt := (some .int)) (by decide) (Nat.le_of_ble_eq_true rfl) (fun p e s m args below meth c A ls H C htab hS hP hD hl => ?_)
  have hx := C.1
  have hb := C.2.1
  have hown := C.2.2.2.1
  have hts := C.2.2.2.2.1
  have hl : lv_has ls 2 [(0, .ref o), (1, .int p0)] := hl
  refine lv_iload_n hx hb dX0_chest_0 rfl (lv_at hl 1 rfl) ?_
  refine lv_iconst (v := 3) hx hb dX0_chest_1 (by decide) ?_
  exact g_xout C htab hD hS (Nat.le_of_ble_eq_true rfl) (Nat.le_of_ble_eq_true rfl) (g_xrunS (wr := []) (n := 2) (As := [.int p0, .int 3]) C (xX0_requireIndex l D t [(cI, .int)] (ra_w cI o ad u) H.size hl0 p0 3 h) (rw_S q85 q86 q2 q87) kd_X0_requireIndex ⟨Nat.le_of_ble_eq_true rfl, Nat.le_of_ble_eq_true rfl⟩ C.2.2.2.2.2.1 hP hD hS hl.1 rfl rfl (Nat.le_of_ble_eq_true rfl) dX0_chest_2 ⟨Nat.le_of_ble_eq_true rfl, Nat.le_of_ble_eq_true rfl⟩)
set_option maxHeartbeats 4000000 in
set_option maxRecDepth 100000 in
theorem xX0_rate1 (l : Launch) (D : va_G) (t : Nat → Nat) (cI : ClassId) (o : Nat) (ad : Nat → Nat) (sz : Nat) (u : S0) (hl0 : l.stackTraces = false) (p0 : Int32) (h : p0 < 0 ∨ 5 ≤ p0) : gX l yX0_rate (rw_ yX0_rate cX0_rate 2 (some .int)) (rm_ 7 1 6 103) [.ref o, .int p0] D [(cI, .int)] t (ra_w cI o ad u) sz "java/lang/IndexOutOfBoundsException" := by
  refine gX_of (cc := cX0_rate) (nL := 2) (rt := (some .int)) (by decide) (Nat.le_of_ble_eq_true rfl) (fun p e s m args below meth c A ls H C htab hS hP hD hl => ?_)
  have hx := C.1
  have hb := C.2.1
  have hown := C.2.2.2.1
  have hts := C.2.2.2.2.1
  have hl : lv_has ls 2 [(0, .ref o), (1, .int p0)] := hl
  refine lv_iload_n hx hb dX0_rate_0 rfl (lv_at hl 1 rfl) ?_
  refine lv_iconst (v := 5) hx hb dX0_rate_1 (by decide) ?_
  exact g_xout C htab hD hS (Nat.le_of_ble_eq_true rfl) (Nat.le_of_ble_eq_true rfl) (g_xrunS (wr := []) (n := 2) (As := [.int p0, .int 5]) C (xX0_requireIndex l D t [(cI, .int)] (ra_w cI o ad u) H.size hl0 p0 5 h) (rw_S q85 q86 q2 q87) kd_X0_requireIndex ⟨Nat.le_of_ble_eq_true rfl, Nat.le_of_ble_eq_true rfl⟩ C.2.2.2.2.2.1 hP hD hS hl.1 rfl rfl (Nat.le_of_ble_eq_true rfl) dX0_rate_2 ⟨Nat.le_of_ble_eq_true rfl, Nat.le_of_ble_eq_true rfl⟩)
set_option maxHeartbeats 4000000 in
set_option maxRecDepth 100000 in
theorem xX0_count1 (l : Launch) (D : va_G) (t : Nat → Nat) (cI : ClassId) (o : Nat) (ad : Nat → Nat) (sz : Nat) (u : S0) (hl0 : l.stackTraces = false) (p0 : Int32) (h : p0 < 0 ∨ 7 ≤ p0) : gX l yX0_count (rw_ yX0_count cX0_count 2 (some .int)) (rm_ 7 1 6 103) [.ref o, .int p0] D [(cI, .int)] t (ra_w cI o ad u) sz "java/lang/IndexOutOfBoundsException" := by
  refine gX_of (cc := cX0_count) (nL := 2) (rt := (some .int)) (by decide) (Nat.le_of_ble_eq_true rfl) (fun p e s m args below meth c A ls H C htab hS hP hD hl => ?_)
  have hx := C.1
  have hb := C.2.1
  have hown := C.2.2.2.1
  have hts := C.2.2.2.2.1
  have hl : lv_has ls 2 [(0, .ref o), (1, .int p0)] := hl
  refine lv_iload_n hx hb dX0_count_0 rfl (lv_at hl 1 rfl) ?_
  refine lv_bipush (v := 7) hx hb dX0_count_1 (by decide) ?_
  exact g_xout C htab hD hS (Nat.le_of_ble_eq_true rfl) (Nat.le_of_ble_eq_true rfl) (g_xrunS (wr := []) (n := 2) (As := [.int p0, .int 7]) C (xX0_requireIndex l D t [(cI, .int)] (ra_w cI o ad u) H.size hl0 p0 7 h) (rw_S q85 q86 q2 q87) kd_X0_requireIndex ⟨Nat.le_of_ble_eq_true rfl, Nat.le_of_ble_eq_true rfl⟩ C.2.2.2.2.2.1 hP hD hS hl.1 rfl rfl (Nat.le_of_ble_eq_true rfl) dX0_count_3 ⟨Nat.le_of_ble_eq_true rfl, Nat.le_of_ble_eq_true rfl⟩)
set_option maxHeartbeats 4000000 in
set_option maxRecDepth 100000 in
theorem xX0_until1 (l : Launch) (D : va_G) (t : Nat → Nat) (cI : ClassId) (o : Nat) (ad : Nat → Nat) (sz : Nat) (u : S0) (hl0 : l.stackTraces = false) (p0 : Int32) (h : p0 < 0 ∨ nI u.2.1 ≤ p0) : gX l yX0_until (rw_ yX0_until cX0_until 5 (some .int)) (rm_ 7 1 6 103) [.ref o, .int p0] D [(cI, .int)] t (ra_w cI o ad u) sz "java/lang/IndexOutOfBoundsException" := by
  refine gX_of (cc := cX0_until) (nL := 5) (rt := (some .int)) (by decide) (Nat.le_of_ble_eq_true rfl) (fun p e s m args below meth c A ls H C htab hS hP hD hl => ?_)
  have hx := C.1
  have hb := C.2.1
  have hown := C.2.2.2.1
  have hts := C.2.2.2.2.1
  have hl : lv_has ls 5 [(0, .ref o), (1, .int p0)] := hl
  refine lv_iload_n hx hb dX0_until_0 rfl (lv_at hl 1 rfl) ?_
  refine lv_aload_n hx hb dX0_until_1 rfl (lv_at hl 0 rfl) ?_
  refine x0_gf C hP 9 (by decide) (v := .int (nI u.2.1)) rfl rfl q44 dX0_until_2 ?_
  exact g_xout C htab hD hS (Nat.le_of_ble_eq_true rfl) (Nat.le_of_ble_eq_true rfl) (g_xrunS (wr := []) (n := 2) (As := [.int p0, .int (nI u.2.1)]) C (xX0_requireIndex l D t [(cI, .int)] (ra_w cI o ad u) H.size hl0 p0 (nI u.2.1) h) (rw_S q85 q86 q2 q87) kd_X0_requireIndex ⟨Nat.le_of_ble_eq_true rfl, Nat.le_of_ble_eq_true rfl⟩ C.2.2.2.2.2.1 hP hD hS hl.1 rfl rfl (Nat.le_of_ble_eq_true rfl) dX0_until_5 ⟨Nat.le_of_ble_eq_true rfl, Nat.le_of_ble_eq_true rfl⟩)
