/-! THE GROUND that all contracts share: one list of words for all methods; a contract over any world; calls with a frame. -/
def rw_ (y : MethodName) (c : ByteArray) (n : Nat) (r : Option FieldType) : List Cond := Cond.code y c n r :: wsL_law
theorem rw_all : wsL_law.all goodWord = true := by decide +kernel
theorem rw_in {ws : List Cond} (h : ∀ w ∈ ws, w ∈ wsL_law) : GoodIn wsL_law ws := fun w hw => ⟨h w hw, good_of_word (List.all_eq_true.mp rw_all w (h w hw))⟩
theorem rw_c {y : MethodName} {c : ByteArray} {n : Nat} {r : Option FieldType} (h5 : Cond.code y c n r ∈ wsL_law) : ∀ w ∈ rw_ y c n r, w ∈ wsL_law := fun w hw => (List.mem_cons.mp hw).elim (fun e => e ▸ h5) id
theorem rw_V {own C : String} {idx : Nat} {y : MethodName} {c : ByteArray} {n : Nat} {r : Option FieldType} (h1 : Cond.methodLink own idx y ∈ wsL_law) (h2 : Cond.instanceMethod y ∈ wsL_law) (h3 : Cond.selects C y y ∈ wsL_law) (h4 : Cond.initialized C ∈ wsL_law) (h5 : Cond.code y c n r ∈ wsL_law) : GoodIn wsL_law (wsV own idx C y (rw_ y c n r)) := rw_in (fun w hw => by
  rcases List.mem_append.mp hw with h | h
  · rcases List.mem_cons.mp h with h | h
    · exact h ▸ h1
    · rcases List.mem_cons.mp h with h | h
      · exact h ▸ h2
      · rcases List.mem_cons.mp h with h | h
        · exact h ▸ h3
        · exact (List.mem_singleton.mp h) ▸ h4
  · exact rw_c h5 w h)
theorem rw_S {own : String} {idx : Nat} {y : MethodName} {c : ByteArray} {n : Nat} {r : Option FieldType} (h1 : Cond.methodLink own idx y ∈ wsL_law) (h2 : Cond.static y ∈ wsL_law) (h4 : Cond.initialized y.cls ∈ wsL_law) (h5 : Cond.code y c n r ∈ wsL_law) : GoodIn wsL_law (va_wsS own idx y (rw_ y c n r)) := rw_in (fun w hw => by
  rcases List.mem_append.mp hw with h | h
  · rcases List.mem_cons.mp h with h | h
    · exact h ▸ h1
    · rcases List.mem_cons.mp h with h | h
      · exact h ▸ h2
      · exact (List.mem_singleton.mp h) ▸ h4
  · exact rw_c h5 w h)
/-! apartness speaks of addresses alone -/
theorem rd_map {A : Nat → Prop} {ws ws' : va_W} (h : va_D A ws) (e : ws.map Prod.fst = ws'.map Prod.fst) : va_D A ws' := by
  have key : ∀ (k : Nat) (q : Nat × va_E), ws'[k]? = some q → ∃ z, ws[k]? = some z ∧ z.1 = q.1 := by
    intro k q hk
    have h1 : (ws.map Prod.fst)[k]? = some q.1 := by rw [e, List.getElem?_map, hk]; rfl
    rw [List.getElem?_map] at h1
    cases hz : ws[k]? with
    | none => rw [hz] at h1; cases h1
    | some z => rw [hz] at h1; exact ⟨z, rfl, Option.some.inj h1⟩
  refine ⟨fun i j x y hi hj hxy => ?_, fun k q hk => ?_⟩
  · obtain ⟨x0, h1, h2⟩ := key i x hi
    obtain ⟨y0, h3, h4⟩ := key j y hj
    exact h.1 i j x0 y0 h1 h3 (h2.trans (hxy.trans h4.symm))
  · obtain ⟨z, h1, h2⟩ := key k q hk
    rw [← h2]
    exact h.2 k z h1
theorem rd_right {A : Nat → Prop} {w1 w2 : va_W} (h : va_D A (w1 ++ w2)) : va_D A w2 := by
  have at' : ∀ (i : Nat) (p : Nat × va_E), w2[i]? = some p → (w1 ++ w2)[w1.length + i]? = some p := fun i p hp => by
    rw [List.getElem?_append_right (Nat.le_add_right _ _), Nat.add_sub_cancel_left]
    exact hp
  exact ⟨fun i j p q hp hq e => by have := h.1 _ _ p q (at' i p hp) (at' j q hq) e; omega, fun k q hk => h.2 _ q (at' k q hk)⟩
theorem rd_left {A : Nat → Prop} {w1 w2 : va_W} (h : va_D A (w1 ++ w2)) : va_D A w1 := by
  have at' : ∀ (i : Nat) (p : Nat × va_E), w1[i]? = some p → (w1 ++ w2)[i]? = some p := fun i p hp => by
    rw [List.getElem?_append_left (List.getElem?_eq_some_iff.mp hp).1]
    exact hp
  exact ⟨fun i j p q hp hq e => h.1 _ _ p q (at' i p hp) (at' j q hq) e, fun k q hk => h.2 _ q (at' k q hk)⟩
theorem rd_sep {A : Nat → Prop} {w1 w2 : va_W} (h : va_D A (w1 ++ w2)) : ∀ (i j : Nat) (p q : Nat × va_E), w1[i]? = some p → w2[j]? = some q → p.1 ≠ q.1 := by
  intro i j p q hp hq e
  have hl := (List.getElem?_eq_some_iff.mp hp).1
  have := h.1 i (w1.length + j) p q (by rw [List.getElem?_append_left hl]; exact hp) (by rw [List.getElem?_append_right (Nat.le_add_right _ _), Nat.add_sub_cancel_left]; exact hq) e
  omega
theorem rd_swap {A : Nat → Prop} {w1 w2 : va_W} (h : va_D A (w1 ++ w2)) : va_D A (w2 ++ w1) := va_D.app (rd_right h) (rd_left h) (fun i j p q hp hq e => rd_sep h j i q p hq hp e.symm)
theorem rd_AA {A : Nat → Prop} {w : va_W} {sz z0 : Nat} (hD : va_D A w) (hA : ∀ q, z0 ≤ q → A q) (h : z0 ≤ sz) : ∀ q, va_A w sz q → A q := by
  intro q hq
  rcases hq with ⟨k, e, hk⟩ | hq
  · exact hD.2 k (q, e) hk
  · exact hA q (Nat.le_trans h hq)
/-- behind a call: what isn't the callee's -/
theorem rd_frame {A : Nat → Prop} {D : va_G} {cl : List vw_C} {wr wc w1 : va_W} {H H1 : Heap} (hPr : va_P D cl wr H) (hD : va_D A (wr ++ wc)) (hF : ∀ q, va_A wc H.size q → A q) (hk : ∀ q : Nat, q < H.size → ¬ va_A wc H.size q → H1[q]? = H[q]?) (hD1 : va_D (va_A wc H.size) w1) : va_P D cl wr H1 ∧ va_D A (wr ++ w1) := by
  have apart : ∀ (k : Nat) (q : Nat × va_E), wr[k]? = some q → q.1 < H.size ∧ ¬ va_A wc H.size q.1 := by
    intro k q hq
    have hl := (hPr k q hq).lt
    refine ⟨hl, fun h => ?_⟩
    rcases h with ⟨k2, e, h⟩ | h
    · exact rd_sep hD k k2 q (q.1, e) hq h rfl
    · omega
  refine ⟨fun k q hq => (hPr k q hq).kept (hk q.1 (apart k q hq).1 (apart k q hq).2), va_D.app (rd_left hD) (hD1.weaken (fun k q _ h => hF q.1 h)) (fun i j x y hx hy hxy => ?_)⟩
  exact (apart i x hx).2 (by rw [hxy]; exact hD1.2 j y hy)
theorem rd_nil {D : va_G} {cl : List vw_C} {H : Heap} : va_P D cl [] H := fun k q h => by simp at h
/-! what stands beside the worlds: the static arrays, the texts of the throws, two statics of Throwable -/
def rt_RX0_LEAST_RATE : Nat → Int32 := fun k => match k with
  | 0 => 1
  | 1 => 1
  | 2 => 100
  | 3 => 0
  | _ => 1
def rt_RX0_MOST_RATE : Nat → Int32 := fun k => match k with
  | 0 => 40
  | 1 => 99
  | 2 => 900
  | 3 => 100
  | _ => 9
def rt_RX0_COIN_WORTH : Nat → Int32 := fun k => match k with
  | 0 => 120
  | 1 => 48
  | _ => 4
/-- the tables know the class of arrays of arrays of ints -/
def gAA (U : State) : Prop := ∃ (cAA comp : ClassId) (kA : Class), U.vm.findClass "[[I" = some cAA ∧ U.vm.classes[cAA]? = some kA ∧ kA.kind = .array comp (.array .int) ∧ U.vm.findClass "[I" = some comp
theorem gAA.moved {u U : State} (hvm : u.vm.Alike U.vm) (h : gAA u) : gAA U := by
  obtain ⟨cAA, comp, kA, h1, h2, h3, h4⟩ := h
  obtain ⟨k', hk', he⟩ := hvm.2.2 _ _ h2
  exact ⟨cAA, comp, k', by rw [hvm.findClass]; exact h1, hk', by rw [he]; exact h3, by rw [hvm.findClass]; exact h4⟩
/-- the script: at t 9, t 10 long, its cells behind -/
def gxs (t : Nat → Nat) (j : Nat) : Int32 := Int32.ofNat (t (j + 11))

def gZ (t : Nat → Nat) (A : Nat → Prop) (U : State) (H : Heap) : Prop := va_Z RX0 "LEAST_RATE" "[I" (.ref (t 0)) A U H ∧ va_T .int (t 0) 5 (fun j => .int (rt_RX0_LEAST_RATE j)) A U H ∧ va_Z RX0 "MOST_RATE" "[I" (.ref (t 1)) A U H ∧ va_T .int (t 1) 5 (fun j => .int (rt_RX0_MOST_RATE j)) A U H ∧ va_Z RX0 "COIN_WORTH" "[I" (.ref (t 2)) A U H ∧ va_T .int (t 2) 3 (fun j => .int (rt_RX0_COIN_WORTH j)) A U H ∧ va_Nw (.castable "[I" "java/lang/Cloneable") U ∧ va_Nw (.methodLinkNest RL 23 yX1_init RL) U ∧ va_Nw (.methodLinkNest RL 77 yX2_init RL) U ∧ va_AO RX1 U ∧ gAA U ∧ va_T .int (t 9) (t 10) (fun j => .int (gxs t j)) A U H
theorem gZ.go {t : Nat → Nat} {A B : Nat → Prop} {s U : State} {H : Heap} {locs : List Loc} (h : gZ t A s s.heap) (hS : va_S A s.heap H locs) (hAB : ∀ q, B q → A q) (hW : s.WarmedH U.vm) : gZ t B U H := by
  obtain ⟨h0, h1, h2, h3, h4, h5, h6, h7, h8, h9, h10, h11⟩ := h
  exact ⟨va_Z.moved hW.alike ((h0.kept hS.2.1).narrow hAB), va_T.moved hW.alike ((h1.kept hS.2.1).narrow hAB), va_Z.moved hW.alike ((h2.kept hS.2.1).narrow hAB), va_T.moved hW.alike ((h3.kept hS.2.1).narrow hAB), va_Z.moved hW.alike ((h4.kept hS.2.1).narrow hAB), va_T.moved hW.alike ((h5.kept hS.2.1).narrow hAB), va_Nw.warmC hW h6, va_Nw.warmM hW h7, va_Nw.warmM hW h8, va_AO.moved hW.alike h9, gAA.moved hW.alike h10, va_T.moved hW.alike ((h11.kept hS.2.1).narrow hAB)⟩
theorem gZ.blind {t : Nat → Nat} {A : Nat → Prop} {U V : State} {H : Heap} (h : gZ t A U H) (hv : V.vm = U.vm) : gZ t A V H := by
  obtain ⟨h0, h1, h2, h3, h4, h5, h6, h7, h8, h9, h10, h11⟩ := h
  have ha : U.vm.Alike V.vm := by rw [hv]; exact Vm.Alike.refl U.vm
  exact ⟨va_Z.moved ha h0, va_T.moved ha h1, va_Z.moved ha h2, va_T.moved ha h3, va_Z.moved ha h4, va_T.moved ha h5, va_Nw.same rfl hv.symm h6, va_Nw.same rfl hv.symm h7, va_Nw.same rfl hv.symm h8, va_AO.moved ha h9, gAA.moved ha h10, va_T.moved ha h11⟩
/-- a contract's start: the world ws in a heap of size sz -/
def gP (D : va_G) (ty : List (ClassId × FieldType)) (t : Nat → Nat) (ws : va_W) (sz : Nat) (U : State) : Prop := U.heap.size = sz ∧ va_P D vwCl ws U.heap ∧ va_K D vwCl ty U ∧ va_D (fun _ => True) ws ∧ gZ t (va_A ws sz) U U.heap
def gQ (D : va_G) (A : Nat → Prop) (ws : va_W) (U : State) : Prop := va_P D vwCl ws U.heap ∧ va_D A ws
theorem gP_blind {D : va_G} {ty : List (ClassId × FieldType)} {t : Nat → Nat} {ws : va_W} {sz : Nat} {av : List Value} : FrameBlind (va_Pc av (gP D ty t ws sz)) := fun a U g mk q => by
  obtain ⟨q0, q1, q2, q3, q4, q5⟩ := q
  exact ⟨q0, q1, q2, va_K.moved (u := U) (U := U.calling g mk a) (Vm.Alike.refl U.vm) q3, q4, gZ.blind q5 rfl⟩
/-- what stays the same through a method's body -/
def gC (p : Program) (s : State) (m : MethodId) (args : Array Value) (meth : Method) (c : Code) (cc : ByteArray) (nL : Nat) (own : String) (D : va_G) (ty : List (ClassId × FieldType)) (t : Nat → Nat) (A : Nat → Prop) : Prop :=
  p.tables.exec = Jvm.exec ∧ c.code = cc ∧ c.maxLocals = nL ∧ s.vm.findClass own = some m.cls ∧ (∀ w ∈ wsL_law, w.before args s = true) ∧ va_K D vwCl ty s ∧ (∀ q, s.heap.size ≤ q → A q) ∧ gZ t A s s.heap ∧ meth.locks = false
/-- contracts: an int, a long, nothing; what is said of the answer and of the world behind it -/
def gMi (l : Launch) (y : MethodName) (ws : List Cond) (rm : Room) (av : List Value) (D : va_G) (ty : List (ClassId × FieldType)) (t : Nat → Nat) (w : va_W) (sz : Nat) (post : Int32 → va_W → Prop) : Prop := Met l y ws rm (va_Pc av (gP D ty t w sz)) (va_Qi post (fun w' U => gQ D (va_A w sz) w' U) (va_A w sz)) rm.cells rm.slots (va_A w sz)
def gMl (l : Launch) (y : MethodName) (ws : List Cond) (rm : Room) (av : List Value) (D : va_G) (ty : List (ClassId × FieldType)) (t : Nat → Nat) (w : va_W) (sz : Nat) (post : Int64 → va_W → Prop) : Prop := Met l y ws rm (va_Pc av (gP D ty t w sz)) (va_Ql post (fun w' U => gQ D (va_A w sz) w' U) (va_A w sz)) rm.cells rm.slots (va_A w sz)
def gMv (l : Launch) (y : MethodName) (ws : List Cond) (rm : Room) (av : List Value) (D : va_G) (ty : List (ClassId × FieldType)) (t : Nat → Nat) (w : va_W) (sz : Nat) (post : va_W → Prop) : Prop := Met l y ws rm (va_Pc av (gP D ty t w sz)) (va_Qv post (fun w' U => gQ D (va_A w sz) w' U) (va_A w sz)) rm.cells rm.slots (va_A w sz)
def gMr (l : Launch) (y : MethodName) (ws : List Cond) (rm : Room) (av : List Value) (D : va_G) (ty : List (ClassId × FieldType)) (t : Nat → Nat) (w : va_W) (sz : Nat) (post : Nat × va_W → Prop) : Prop := Met l y ws rm (va_Pc av (gP D ty t w sz)) (va_Qr (S := Nat × va_W) post (fun u a U => u.1 = a ∧ gQ D (va_A w sz) u.2 U) (va_A w sz)) rm.cells rm.slots (va_A w sz)
section GOF
variable {l : Launch} {y : MethodName} {cc : ByteArray} {nL : Nat} {rm : Room} {av : List Value} {D : va_G} {ty : List (ClassId × FieldType)} {t : Nat → Nat} {w : va_W} {sz : Nat}
/-- the body of a contract, whatever it says of its end -/
theorem g_of {rt : Option FieldType} {Q : (Nat → Prop) → Array Value → State → Outcome → State → Prop} (hy : plainName y.cls = true) (hav : (lg_sl av).length ≤ nL)
    (body : ∀ (p : Program) (e : Env) (s : State) (m : MethodId) (args : Array Value) (below : List Frame) (meth : Method) (c : Code) (A : Nat → Prop) (ls : Array Slot) (H : Heap), gC p s m args meth c cc nL y.cls D ty t A → meth.sig.returnType = rt → meth.name = y.name → va_S A s.heap H [] → va_P D vwCl w H → va_D A w → lv_has ls nL (lv_args 0 av) →
      W p l e rm s m args below meth c H [] 0 0 (MQ below (Q A) args s rm.cells rm.slots A) (F0 m 0 ls [])) :
    Met l y (rw_ y cc nL rt) rm (va_Pc av (gP D ty t w sz)) (Q (va_A w sz)) rm.cells rm.slots (va_A w sz) := by
  refine Met.ofW (cc := cc) (maxL := nL) (ret := rt) hy rfl ?_
  intro p e s m args below meth c s₁ B hml hv
  obtain ⟨rfl, hsz, hP, hK, hD, hZ⟩ := hv
  have hts := atoms_spec (ws := rw_ y cc nL rt) B.pre
  subst hsz
  have hl := lv_entry av hav
  rw [lg_entry_eq]
  exact body p e s m _ below meth c (va_A w s.heap.size) _ s.heap ⟨B.exec, B.bytes, hml, findClass_of_methodNamed B.named, fun w h => hts w (List.mem_cons_of_mem _ h), hK, fun q h => Or.inr h, hZ, B.notSynchronized⟩ B.returns (name_of_methodNamed B.named B.method).1 va_S.rf hP hD.self hl
end GOF
section GEND
variable {p : Program} {l : Launch} {e : Env} {R : Room} {s : State} {m : MethodId} {args : Array Value} {below : List Frame} {meth : Method} {c : Code} {H : Heap} {locs : List Loc} {cells slots : Nat}
variable {cc : ByteArray} {nL pc : Nat} {ls : Array Slot} {own : String} {D : va_G} {ty : List (ClassId × FieldType)} {t : Nat → Nat} {A : Nat → Prop} {w' : va_W}
theorem g_iret {post : Int32 → va_W → Prop} {v : Int32} (C : gC p s m args meth c cc nL own D ty t A) (hr : meth.sig.returnType = some .int) (hP : va_P D vwCl w' H) (hD : va_D A w') (hS : va_S A s.heap H locs) (hdg : decode cc pc = .ok (.ireturn, 1)) (hpost : post v w') :
    W p l e R s m args below meth c H locs cells slots (MQ below (va_Qi post (fun w' U => gQ D A w' U) A) args s cells slots A) (F0 m pc ls [.int v]) :=
  W.iret C.1 C.2.1 hr (fun t ht hW => ⟨⟨v, w', rfl, hpost, by rw [ht]; exact hP, hD⟩, hS.F ht⟩) hS.2.2 hdg C.2.2.2.2.2.2.2.2
theorem g_zret {post : Int32 → va_W → Prop} {v : Int32} (C : gC p s m args meth c cc nL own D ty t A) (hr : meth.sig.returnType = some .boolean) (hn : narrow .boolean (.int v) = .int v) (hP : va_P D vwCl w' H) (hD : va_D A w') (hS : va_S A s.heap H locs) (hdg : decode cc pc = .ok (.ireturn, 1)) (hpost : post v w') :
    W p l e R s m args below meth c H locs cells slots (MQ below (va_Qi post (fun w' U => gQ D A w' U) A) args s cells slots A) (F0 m pc ls [.int v]) :=
  W.zret C.1 C.2.1 hr hn (fun t ht hW => ⟨⟨v, w', rfl, hpost, by rw [ht]; exact hP, hD⟩, hS.F ht⟩) hS.2.2 hdg C.2.2.2.2.2.2.2.2
theorem g_lret {post : Int64 → va_W → Prop} {v : Int64} (C : gC p s m args meth c cc nL own D ty t A) (hr : meth.sig.returnType = some .long) (hP : va_P D vwCl w' H) (hD : va_D A w') (hS : va_S A s.heap H locs) (hdg : decode cc pc = .ok (.lreturn, 1)) (hpost : post v w') :
    W p l e R s m args below meth c H locs cells slots (MQ below (va_Ql post (fun w' U => gQ D A w' U) A) args s cells slots A) (F0 m pc ls [.long v]) :=
  W.lret C.1 C.2.1 hr (fun t ht hW => ⟨⟨v, w', rfl, hpost, by rw [ht]; exact hP, hD⟩, hS.F ht⟩) hS.2.2 hdg C.2.2.2.2.2.2.2.2
theorem g_vret {post : va_W → Prop} (C : gC p s m args meth c cc nL own D ty t A) (hr : meth.sig.returnType = none) (hP : va_P D vwCl w' H) (hD : va_D A w') (hS : va_S A s.heap H locs) (hdg : decode cc pc = .ok (.return_, 1)) (hpost : post w') :
    W p l e R s m args below meth c H locs cells slots (MQ below (va_Qv post (fun w' U => gQ D A w' U) A) args s cells slots A) (F0 m pc ls []) :=
  W.vret C.1 C.2.1 hr (fun t ht hW => ⟨⟨w', rfl, hpost, by rw [ht]; exact hP, hD⟩, hS.F ht⟩) hS.2.2 hdg C.2.2.2.2.2.2.2.2
theorem g_aret {post : Nat × va_W → Prop} {a : Nat} {rt : FieldType} (C : gC p s m args meth c cc nL own D ty t A) (hr : meth.sig.returnType = some (.array rt)) (hP : va_P D vwCl w' H) (hD : va_D A w') (hS : va_S A s.heap H locs) (hdg : decode cc pc = .ok (.areturn, 1)) (hpost : post (a, w')) :
    W p l e R s m args below meth c H locs cells slots (MQ below (va_Qr (S := Nat × va_W) post (fun u a U => u.1 = a ∧ gQ D A u.2 U) A) args s cells slots A) (F0 m pc ls [.ref a]) :=
  W.aret C.1 C.2.1 hr (Or.inr ⟨_, rfl⟩) (Or.inr ⟨_, rfl⟩) (fun t ht hW => ⟨⟨(a, w'), a, rfl, hpost, rfl, by rw [ht]; exact hP, hD⟩, hS.F ht⟩) hS.2.2 hdg C.2.2.2.2.2.2.2.2
/-- the top of the stack by another name -/
theorem g_top {x y : Int32} {rest : List Value} {Q : State → Prop} (h : x = y) (k : W p l e R s m args below meth c H locs cells slots Q (F0 m pc ls (.int y :: rest))) : W p l e R s m args below meth c H locs cells slots Q (F0 m pc ls (.int x :: rest)) := h ▸ k
end GEND
section GCALL
variable {p : Program} {l : Launch} {e : Env} {R : Room} {s : State} {m : MethodId} {args : Array Value} {below : List Frame} {meth : Method} {c : Code} {H : Heap} {locs : List Loc} {cells slots : Nat} {Q : State → Prop}
variable {cc : ByteArray} {nL pc : Nat} {ls : Array Slot} {own : String} {D : va_G} {ty ty2 : List (ClassId × FieldType)} {t : Nat → Nat} {A : Nat → Prop} {wr wc : va_W}
variable {y : MethodName} {bytes : ByteArray} {maxL n idx : Nat} {ret : Option FieldType} {rm : Room} {b : Nat} {As rest st0 : List Value} {Qa : Array Value → State → Outcome → State → Prop}
theorem g_pre (C : gC p s m args meth c cc nL own D ty t A) (hK2 : va_K D vwCl ty2 s) (hPc : va_P D vwCl wc H) (hD : va_D A (wr ++ wc)) (hS : va_S A s.heap H locs) {av : List Value} (U : State) (hU : U.heap = H) (hW : s.WarmedH U.vm) : va_Pc av (gP D ty2 t wc H.size) av.toArray U :=
  ⟨rfl, by rw [hU], by rw [hU]; exact hPc, va_K.moved hW.alike hK2, (rd_right hD).weaken (fun _ _ _ _ => trivial), by rw [hU]; exact gZ.go C.2.2.2.2.2.2.2.1 hS (rd_AA (rd_right hD) C.2.2.2.2.2.2.1 hS.1) hW⟩
/-- a virtual or private call -/
theorem g_runV (C : gC p s m args meth c cc nL own D ty t A) (hM : Met l y (rw_ y bytes maxL ret) rm (va_Pc (.ref b :: As) (gP D ty2 t wc H.size)) Qa rm.cells rm.slots (va_A wc H.size)) (hG : GoodIn wsL_law (wsV own idx y.cls y (rw_ y bytes maxL ret)))
    (hd : y.cls = y.cls ∧ y.cls ≠ "java/lang/invoke/MethodHandle" ∧ y.cls ≠ "java/lang/invoke/VarHandle" ∧ (parseMethodDescriptor y.desc).map (fun d => d.parameters.length) = some n) (hR : rm.frames + 1 ≤ R.frames ∧ 8 + (maxL + 11) + rm.locals ≤ R.locals) {ci : Nat} {q : vw_C} {fs : List Value} (hci : vwCl[ci]? = some q) (hq : q.1 = y.cls) (hrc : wc[0]? = some (b, .inr (ci, fs)))
    (hK2 : va_K D vwCl ty2 s) (hPc : va_P D vwCl wc H) (hD : va_D A (wr ++ wc)) (hS : va_S A s.heap H locs) (hl : ls.size = nL) (hn : As.length = n) (hst : st0 = As.reverse ++ .ref b :: rest) (hrest : (rest.map fun v => v.category).sum ≤ 8) (hdg : decode cc pc = .ok (.invokevirtual idx, 3)) (hf : cells + rm.cells ≤ R.cells ∧ slots + rm.slots ≤ R.slots) :
    va_Run p l e R s m args below meth c H locs cells slots rm.cells rm.slots (F0 m pc ls st0) rest (Qa (Value.ref b :: As).toArray) (va_A wc H.size) :=
  va_runV ⟨C.1, C.2.1, C.2.2.1, C.2.2.2.1, C.2.2.2.2.1⟩ hM (cwV n C.2.2.2.2.1 hG rfl rfl rfl hd hR) ⟨gP_blind, by rw [← hq]; exact va_recv hK2 hPc hci hrc, g_pre C hK2 hPc hD hS⟩ rfl hn hl hst (lv_room hrest) hdg hf
/-- a static call -/
theorem g_runS (C : gC p s m args meth c cc nL own D ty t A) (hM : Met l y (rw_ y bytes maxL ret) rm (va_Pc As (gP D ty2 t wc H.size)) Qa rm.cells rm.slots (va_A wc H.size)) (hG : GoodIn wsL_law (va_wsS own idx y (rw_ y bytes maxL ret)))
    (hd : y.cls ≠ "java/lang/invoke/MethodHandle" ∧ y.cls ≠ "java/lang/invoke/VarHandle" ∧ (parseMethodDescriptor y.desc).map (fun d => d.parameters.length) = some n) (hR : rm.frames + 1 ≤ R.frames ∧ 8 + (maxL + 11) + rm.locals ≤ R.locals)
    (hK2 : va_K D vwCl ty2 s) (hPc : va_P D vwCl wc H) (hD : va_D A (wr ++ wc)) (hS : va_S A s.heap H locs) (hl : ls.size = nL) (hn : As.length = n) (hst : st0 = As.reverse ++ rest) (hrest : (rest.map fun v => v.category).sum ≤ 8) (hdg : decode cc pc = .ok (.invokestatic idx, 3)) (hf : cells + rm.cells ≤ R.cells ∧ slots + rm.slots ≤ R.slots) :
    va_Run p l e R s m args below meth c H locs cells slots rm.cells rm.slots (F0 m pc ls st0) rest (Qa As.toArray) (va_A wc H.size) :=
  va_runS ⟨C.1, C.2.1, C.2.2.1, C.2.2.2.1, C.2.2.2.2.1⟩ hM (va_cwS n C.2.2.2.2.1 hG rfl rfl rfl hd hR) ⟨gP_blind, g_pre C hK2 hPc hD hS⟩ rfl hn hl hst (lv_room hrest) hdg hf
variable {mc ms : Nat} {a : Array Value}
theorem g_ci {post : Int32 → va_W → Prop} {cells' slots' : Nat} (hc : cells + mc = cells') (hs : slots + ms = slots') (C : gC p s m args meth c cc nL own D ty t A) (hPr : va_P D vwCl wr H) (hD : va_D A (wr ++ wc)) (hS : va_S A s.heap H locs) (hr : va_Run p l e R s m args below meth c H locs cells slots mc ms (F0 m pc ls st0) rest (va_Qi post (fun w' U => gQ D (va_A wc H.size) w' U) (va_A wc H.size) a) (va_A wc H.size))
    (kk : ∀ (r : Int32) (w' : va_W) (H1 : Heap) (locs1 : List Loc), post r w' → H.size ≤ H1.size → va_P D vwCl wr H1 → va_P D vwCl w' H1 → va_D A (wr ++ w') → va_S A s.heap H1 locs1 → W p l e R s m args below meth c H1 locs1 cells' slots' Q (F0 m (pc + 3) ls (.int r :: rest))) : W p l e R s m args below meth c H locs cells slots Q (F0 m pc ls st0) := by
  subst hc
  subst hs
  have hF := rd_AA (rd_right hD) C.2.2.2.2.2.2.1 hS.1
  refine va_calli hr hS (fun q _ h => hF q h) hF (fun r w' t H1 locs1 ht _ hp hB hz hk hS1 => ?_)
  obtain ⟨b1, b2⟩ := hB
  rw [ht] at b1
  obtain ⟨c1, c2⟩ := rd_frame hPr hD hF hk b2
  exact kk r w' H1 locs1 hp hz c1 b1 c2 hS1
theorem g_cl {post : Int64 → va_W → Prop} {cells' slots' : Nat} (hc : cells + mc = cells') (hs : slots + ms = slots') (C : gC p s m args meth c cc nL own D ty t A) (hPr : va_P D vwCl wr H) (hD : va_D A (wr ++ wc)) (hS : va_S A s.heap H locs) (hr : va_Run p l e R s m args below meth c H locs cells slots mc ms (F0 m pc ls st0) rest (va_Ql post (fun w' U => gQ D (va_A wc H.size) w' U) (va_A wc H.size) a) (va_A wc H.size))
    (kk : ∀ (r : Int64) (w' : va_W) (H1 : Heap) (locs1 : List Loc), post r w' → H.size ≤ H1.size → va_P D vwCl wr H1 → va_P D vwCl w' H1 → va_D A (wr ++ w') → va_S A s.heap H1 locs1 → W p l e R s m args below meth c H1 locs1 cells' slots' Q (F0 m (pc + 3) ls (.long r :: rest))) : W p l e R s m args below meth c H locs cells slots Q (F0 m pc ls st0) := by
  subst hc
  subst hs
  have hF := rd_AA (rd_right hD) C.2.2.2.2.2.2.1 hS.1
  refine va_calll hr hS (fun q _ h => hF q h) hF (fun r w' t H1 locs1 ht _ hp hB hz hk hS1 => ?_)
  obtain ⟨b1, b2⟩ := hB
  rw [ht] at b1
  obtain ⟨c1, c2⟩ := rd_frame hPr hD hF hk b2
  exact kk r w' H1 locs1 hp hz c1 b1 c2 hS1
theorem g_cv {post : va_W → Prop} {cells' slots' : Nat} (hc : cells + mc = cells') (hs : slots + ms = slots') (C : gC p s m args meth c cc nL own D ty t A) (hPr : va_P D vwCl wr H) (hD : va_D A (wr ++ wc)) (hS : va_S A s.heap H locs) (hr : va_Run p l e R s m args below meth c H locs cells slots mc ms (F0 m pc ls st0) rest (va_Qv post (fun w' U => gQ D (va_A wc H.size) w' U) (va_A wc H.size) a) (va_A wc H.size))
    (kk : ∀ (w' : va_W) (H1 : Heap) (locs1 : List Loc), post w' → H.size ≤ H1.size → va_P D vwCl wr H1 → va_P D vwCl w' H1 → va_D A (wr ++ w') → va_S A s.heap H1 locs1 → W p l e R s m args below meth c H1 locs1 cells' slots' Q (F0 m (pc + 3) ls rest)) : W p l e R s m args below meth c H locs cells slots Q (F0 m pc ls st0) := by
  subst hc
  subst hs
  have hF := rd_AA (rd_right hD) C.2.2.2.2.2.2.1 hS.1
  refine va_callv hr hS (fun q _ h => hF q h) hF (fun w' t H1 locs1 ht _ hp hB hz hk hS1 => ?_)
  obtain ⟨b1, b2⟩ := hB
  rw [ht] at b1
  obtain ⟨c1, c2⟩ := rd_frame hPr hD hF hk b2
  exact kk w' H1 locs1 hp hz c1 b1 c2 hS1
theorem g_cr {post : Nat × va_W → Prop} {cells' slots' : Nat} (hc : cells + mc = cells') (hs : slots + ms = slots') (C : gC p s m args meth c cc nL own D ty t A) (hPr : va_P D vwCl wr H) (hD : va_D A (wr ++ wc)) (hS : va_S A s.heap H locs) (hr : va_Run p l e R s m args below meth c H locs cells slots mc ms (F0 m pc ls st0) rest (va_Qr (S := Nat × va_W) post (fun u a U => u.1 = a ∧ gQ D (va_A wc H.size) u.2 U) (va_A wc H.size) a) (va_A wc H.size))
    (kk : ∀ (r : Nat) (w' : va_W) (H1 : Heap) (locs1 : List Loc), post (r, w') → H.size ≤ H1.size → va_P D vwCl wr H1 → va_P D vwCl w' H1 → va_D A (wr ++ w') → va_S A s.heap H1 locs1 → W p l e R s m args below meth c H1 locs1 cells' slots' Q (F0 m (pc + 3) ls (.ref r :: rest))) : W p l e R s m args below meth c H locs cells slots Q (F0 m pc ls st0) := by
  subst hc
  subst hs
  have hF := rd_AA (rd_right hD) C.2.2.2.2.2.2.1 hS.1
  refine va_callr hr hS (fun q _ h => hF q h) hF (fun u ra t H1 locs1 ht _ hp hB hz hk hS1 => ?_)
  obtain ⟨r0, w'⟩ := u
  obtain ⟨e0, b1, b2⟩ := hB
  dsimp only at e0 b1 b2 hp
  subst e0
  rw [ht] at b1
  obtain ⟨c1, c2⟩ := rd_frame hPr hD hF hk b2
  exact kk r0 w' H1 locs1 hp hz c1 b1 c2 hS1
end GCALL
