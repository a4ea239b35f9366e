section
-- ===== PART A: goes FIRST, ahead of the names: the tables' words, and 'selects' of the private methods out of them =====
/-- a private method of a class that the tables say can be made, by its rows of tables_1 -/
def lw_okq (q : MethodName × Nat) : Prop := (q.1.cls ≠ "java/lang/invoke/MethodHandle" ∧ q.1.cls ≠ "java/lang/invoke/VarHandle") ∧ Cond.instantiable q.1.cls q.2 ∈ tables_1 ∧ Cond.privateMethod q.1 ∈ tables_1 ∧ Cond.instanceMethod q.1 ∈ tables_1
theorem lw_p0 : lw_okq (⟨"ReaperWages", "settle", "(I)I"⟩, 14) := ⟨⟨by decide +kernel, by decide +kernel⟩, List.mem_of_getElem? (i := 12) (by decide +kernel), List.mem_of_getElem? (i := 68) (by decide +kernel), List.mem_of_getElem? (i := 69) (by decide +kernel)⟩
theorem lw_p1 : lw_okq (⟨"ReaperWages", "coming", "(I)I"⟩, 14) := ⟨⟨by decide +kernel, by decide +kernel⟩, List.mem_of_getElem? (i := 12) (by decide +kernel), List.mem_of_getElem? (i := 72) (by decide +kernel), List.mem_of_getElem? (i := 73) (by decide +kernel)⟩
theorem lw_p2 : lw_okq (⟨"ReaperWages", "weekWage", "(I[I)I"⟩, 14) := ⟨⟨by decide +kernel, by decide +kernel⟩, List.mem_of_getElem? (i := 12) (by decide +kernel), List.mem_of_getElem? (i := 76) (by decide +kernel), List.mem_of_getElem? (i := 77) (by decide +kernel)⟩
theorem lw_p3 : lw_okq (⟨"ReaperWages", "wageByPieces", "(I[I)I"⟩, 14) := ⟨⟨by decide +kernel, by decide +kernel⟩, List.mem_of_getElem? (i := 12) (by decide +kernel), List.mem_of_getElem? (i := 80) (by decide +kernel), List.mem_of_getElem? (i := 81) (by decide +kernel)⟩
theorem lw_p4 : lw_okq (⟨"ReaperWages", "wageByHours", "(I[I)I"⟩, 14) := ⟨⟨by decide +kernel, by decide +kernel⟩, List.mem_of_getElem? (i := 12) (by decide +kernel), List.mem_of_getElem? (i := 88) (by decide +kernel), List.mem_of_getElem? (i := 89) (by decide +kernel)⟩
theorem lw_p5 : lw_okq (⟨"ReaperWages", "hoursThatCount", "(I)I"⟩, 14) := ⟨⟨by decide +kernel, by decide +kernel⟩, List.mem_of_getElem? (i := 12) (by decide +kernel), List.mem_of_getElem? (i := 92) (by decide +kernel), List.mem_of_getElem? (i := 93) (by decide +kernel)⟩
theorem lw_p6 : lw_okq (⟨"ReaperWages", "takenBack", "(II)I"⟩, 14) := ⟨⟨by decide +kernel, by decide +kernel⟩, List.mem_of_getElem? (i := 12) (by decide +kernel), List.mem_of_getElem? (i := 99) (by decide +kernel), List.mem_of_getElem? (i := 100) (by decide +kernel)⟩
theorem lw_p7 : lw_okq (⟨"ReaperWages", "handOut", "([II)I"⟩, 14) := ⟨⟨by decide +kernel, by decide +kernel⟩, List.mem_of_getElem? (i := 12) (by decide +kernel), List.mem_of_getElem? (i := 106) (by decide +kernel), List.mem_of_getElem? (i := 107) (by decide +kernel)⟩
theorem lw_p8 : lw_okq (⟨"java/lang/Throwable", "fillInStackTrace", "(I)Ljava/lang/Throwable;"⟩, 6) := ⟨⟨by decide +kernel, by decide +kernel⟩, List.mem_of_getElem? (i := 157) (by decide +kernel), List.mem_of_getElem? (i := 155) (by decide +kernel), List.mem_of_getElem? (i := 156) (by decide +kernel)⟩
theorem lw_p9 : lw_okq (⟨"ReaperWages", "restToPay", "(I)I"⟩, 14) := ⟨⟨by decide +kernel, by decide +kernel⟩, List.mem_of_getElem? (i := 12) (by decide +kernel), List.mem_of_getElem? (i := 191) (by decide +kernel), List.mem_of_getElem? (i := 192) (by decide +kernel)⟩
theorem lw_p10 : lw_okq (⟨"ReaperWages", "sumOfHired", "([I)I"⟩, 14) := ⟨⟨by decide +kernel, by decide +kernel⟩, List.mem_of_getElem? (i := 12) (by decide +kernel), List.mem_of_getElem? (i := 210) (by decide +kernel), List.mem_of_getElem? (i := 211) (by decide +kernel)⟩
theorem lw_p11 : lw_okq (⟨"ReaperWages", "worthOfPurse", "()I"⟩, 14) := ⟨⟨by decide +kernel, by decide +kernel⟩, List.mem_of_getElem? (i := 12) (by decide +kernel), List.mem_of_getElem? (i := 214) (by decide +kernel), List.mem_of_getElem? (i := 215) (by decide +kernel)⟩
theorem lw_p12 : lw_okq (⟨"ReaperWages", "allWages", "([I)I"⟩, 14) := ⟨⟨by decide +kernel, by decide +kernel⟩, List.mem_of_getElem? (i := 12) (by decide +kernel), List.mem_of_getElem? (i := 218) (by decide +kernel), List.mem_of_getElem? (i := 219) (by decide +kernel)⟩
def lw_privs_1 : List (MethodName × Nat) := [(⟨"ReaperWages", "settle", "(I)I"⟩, 14), (⟨"ReaperWages", "coming", "(I)I"⟩, 14), (⟨"ReaperWages", "weekWage", "(I[I)I"⟩, 14), (⟨"ReaperWages", "wageByPieces", "(I[I)I"⟩, 14), (⟨"ReaperWages", "wageByHours", "(I[I)I"⟩, 14), (⟨"ReaperWages", "hoursThatCount", "(I)I"⟩, 14), (⟨"ReaperWages", "takenBack", "(II)I"⟩, 14), (⟨"ReaperWages", "handOut", "([II)I"⟩, 14), (⟨"java/lang/Throwable", "fillInStackTrace", "(I)Ljava/lang/Throwable;"⟩, 6), (⟨"ReaperWages", "restToPay", "(I)I"⟩, 14), (⟨"ReaperWages", "sumOfHired", "([I)I"⟩, 14), (⟨"ReaperWages", "worthOfPurse", "()I"⟩, 14), (⟨"ReaperWages", "allWages", "([I)I"⟩, 14)]
theorem lw_r1 : ∀ q ∈ lw_privs_1, lw_okq q := List.forall_mem_cons.mpr ⟨lw_p0, List.forall_mem_cons.mpr ⟨lw_p1, List.forall_mem_cons.mpr ⟨lw_p2, List.forall_mem_cons.mpr ⟨lw_p3, List.forall_mem_cons.mpr ⟨lw_p4, List.forall_mem_cons.mpr ⟨lw_p5, List.forall_mem_cons.mpr ⟨lw_p6, List.forall_mem_cons.mpr ⟨lw_p7, List.forall_mem_cons.mpr ⟨lw_p8, List.forall_mem_cons.mpr ⟨lw_p9, List.forall_mem_cons.mpr ⟨lw_p10, List.forall_mem_cons.mpr ⟨lw_p11, List.forall_mem_cons.mpr ⟨lw_p12, fun _ h => absurd h List.not_mem_nil⟩⟩⟩⟩⟩⟩⟩⟩⟩⟩⟩⟩⟩
def lw_privs : List (MethodName × Nat) := lw_privs_1
def lw_tbl : List Cond := k2_sels lw_privs ++ tables_1
theorem lw_privs_ok : ∀ q ∈ lw_privs, lw_okq q := lw_r1
/-- the streams that the claim lets the run draw from -/
abbrev lw_cs : List Choice := [Jvm.Choice.named "NaN.bits"]
theorem lw_bits : nanBits ∈ lw_cs := by first | decide | exact List.mem_cons_self | simp [lw_cs, nanBits]

/-! ===== BEGIN words of one list among another's, by their places ===== -/
theorem goodIn_r {big : List Cond} (ws : List Cond) (ps : List Nat) (hp : ws = ps.filterMap (fun i => big[i]?)) (h : ws.all goodWord = true) : GoodIn big ws := by
  intro w hw
  have h1 := List.all_eq_true.mp h w hw
  rw [hp] at hw
  obtain ⟨i, -, hi⟩ := List.mem_filterMap.mp hw
  have hm : w ∈ big := by first | exact List.mem_of_getElem? hi | exact List.getElem?_mem hi
  exact ⟨hm, good_of_word h1⟩
theorem goodIn_app {big a b : List Cond} (ha : GoodIn big a) (hb : GoodIn big b) : GoodIn big (a ++ b) := fun w h => (List.mem_append.mp h).elim (ha w) (hb w)
theorem goodIn_ca {big a b : List Cond} {c : Cond} (ha : GoodIn big (c :: a)) (hb : GoodIn big b) : GoodIn big (c :: (a ++ b)) := fun w h => (List.mem_cons.mp h).elim (fun e => ha w (List.mem_cons.mpr (Or.inl e))) (fun h => (List.mem_append.mp h).elim (fun h => ha w (List.mem_cons.mpr (Or.inr h))) (hb w))
theorem goodIn_sub {big ws : List Cond} (hm : ∀ w ∈ ws, w ∈ big) (h : ws.all goodWord = true) : GoodIn big ws := fun w hw => ⟨hm w hw, good_of_word (List.all_eq_true.mp h w hw)⟩
/-! ===== END ===== -/



/-! ===== BEGIN exceptions that leave a method, and their catching by the caller (launches without stack traces) ===== -/
section VXA
/-! The laws vx_back, vx_callV, vx_callS, vx_callSW, vx_throw0, vx_throwS follow proofs of the library, with one case more: JvmDerived/Free/Laws.lean (Back.of_free), Shelf42/LK1.lean (callV, callS), Shelf/KitTraced.lean (throwNew0V, throwNewS). -/
/-- where a method has thrown q: the class by its name, the cell, what was written, the world -/
def vx_T (XC : String → State → State → Prop) (st : State) (q : Addr) (t : State) (mc ms : Nat) (free : Addr → Prop) : Prop :=
  ∃ (E : String) (ce : Cell) (L : List Loc), XC E st t ∧ t.heap[q]? = some ce ∧ ce.vm = .none ∧ st.vm.findClass E = some ce.cls ∧ st.WarmedH t.vm ∧ st.sameButNew ({ t with vm := st.vm } : State) L mc ms ∧ ∀ z ∈ L, free z.base
def vx_Q (Qc : Array Value → State → Outcome → State → Prop) (XC : String → State → State → Prop) (mc ms : Nat) (free : Addr → Prop) : Array Value → State → Outcome → State → Prop := fun a st o t =>
  (Qc a st o t ∧ ∃ L, FrameEnd st o t L mc ms ∧ ∀ q ∈ L, free q.base) ∨ ∃ q, o = .threw q ∧ vx_T XC st q t mc ms free
/-- a callee that returns or throws -/
def vx_Met (l : Launch) (y : MethodName) (ws : List Cond) (rm : Room) (Pc : Array Value → State → Prop) (Qc : Array Value → State → Outcome → State → Prop) (XC : String → State → State → Prop) (mc ms : Nat) (free : Addr → Prop) : Prop :=
  MetFree l y (headSpec ws rm) Pc (fun _ _ _ _ _ => True) (vx_Q Qc XC mc ms free)
def vx_Post (XC : String → State → State → Prop) (mc ms : Nat) (free : Addr → Prop) : Pt → Array Value → Addr → Pt → Prop := fun A a q B =>
  ∃ (g : JFrame) (mk : MethodId) (t : State) (L : List Loc) (E : String) (ce : Cell), B.U.heap = t.heap ∧ B.U.vm = t.vm ∧ XC E (A.U.calling g mk a) t ∧ t.heap[q]? = some ce ∧ ce.vm = .none ∧ A.U.vm.findClass E = some ce.cls ∧ B.locs = A.locs ++ L ∧ (∀ z ∈ L, free z.base) ∧ B.cells = A.cells + mc ∧ B.slots = A.slots + ms
def vx_Back (l : Launch) (R : Room) (p : Program) (e : Env) (below : List Frame) (s : State) (sargs : Array Value) (y : MethodName) (len W9 : Nat)
    (Pre : Pt → Array Value → Prop) (Post : Pt → Array Value → Option Value → Pt → Prop) (PostX : Pt → Array Value → Addr → Pt → Prop) : Prop :=
  ∀ (m : MethodId) (meth : Method) (c : Code) (A : Pt) (g : JFrame) (ig : Instr) (mk : MethodId) (a : Array Value),
    Stand p l e R s m sargs below meth c A.U A.locs A.cells A.slots → g.method = m → g.locals.size = c.maxLocals → decode c.code g.pc = .ok (ig, len) →
    2 * g.monitorRoom + (g.stack.map fun v => v.category).sum ≤ W9 → A.U.methodNamed? y = some mk → Pre A a →
    (∃ (v : Option Value) (B : Pt), Stand p l e R s m sargs below meth c B.U B.locs B.cells B.slots ∧ Post A a v B ∧
      Steps p.tables e below (doInvoke e (A.U.setTop g) [] mk a).1 (B.U.setTop { g with pc := g.pc + len, stack := v.toList ++ g.stack })) ∨
    (∃ (q : Addr) (B : Pt), Stand p l e R s m sargs below meth c B.U B.locs B.cells B.slots ∧ PostX A a q B ∧
      Steps p.tables e below (doInvoke e (A.U.setTop g) [] mk a).1 ((B.U.setTop g).pushFrame (.throwing q)))
section Payer
variable {l : Launch} {R : Room} {p : Program} {e : Env} {below : List Frame} {s : State} {sargs : Array Value} {y : MethodName} {len W9 : Nat}
theorem vx_back {ws : List Cond} {rm : Room} {Pc : Array Value → State → Prop} {Qc : Array Value → State → Outcome → State → Prop} {XC : String → State → State → Prop} {mc ms : Nat} {free : Addr → Prop} {bytes : ByteArray} {maxL : Nat} {ret : Option FieldType}
    (hM : vx_Met l y ws rm Pc Qc XC mc ms free) (hblind : FrameBlind Pc) (hrc : rm.cells = mc) (hrs : rm.slots = ms)
    (hframes : rm.frames + 1 ≤ R.frames) (hlocals : W9 + (maxL + 11) + rm.locals ≤ R.locals)
    (hws : ∀ w ∈ ws, ∀ a' U, s.WarmedH U.vm → w.before a' U = true) (hcode : Cond.code y bytes maxL ret ∈ ws) (hinit : ∀ a' U, s.WarmedH U.vm → (Cond.initialized y.cls).before a' U = true) :
    vx_Back l R p e below s sargs y len W9 (PreOf R mc ms Pc) (PostOf Qc mc ms free) (vx_Post XC mc ms free) := by
  intro m meth c A g ig mk a X hg hsize hdg hW hn hp
  have h1 : (headSpec ws rm).pre.before a A.U = true := atoms_intro fun w hw => hws w hw _ _ X.warmed
  have h2 : (Cond.code y bytes maxL ret).before a A.U = true := hws _ hcode _ _ X.warmed
  have h3 : (Cond.initialized y.cls).before a A.U = true := hinit _ _ X.warmed
  have h4 : A.cells + (headSpec ws rm).room.cells ≤ R.cells := by rw [show (headSpec ws rm).room.cells = mc from hrc]; exact hp.1
  have h5 : A.slots + (headSpec ws rm).room.slots ≤ R.slots := by rw [show (headSpec ws rm).room.slots = ms from hrs]; exact hp.2.1
  have hPc : Pc a (A.U.calling g mk a) := hblind _ _ _ _ hp.2.2
  obtain ⟨U, Ls, c0, s0⟩ := A
  dsimp only [Pt.U, Pt.locs, Pt.cells, Pt.slots] at h1 h2 h3 h4 h5 X hn hPc ⊢
  obtain ⟨methY, cY, hmY, hcY, -, hlY, -, -, -, -⟩ := Cond.code_spec hn h2
  obtain ⟨kY, hkY, -⟩ := className_of_methodNamed hn
  have hinitY : kY.init = .initialized := Cond.initialized_spec (findClass_of_methodNamed hn) hkY h3
  have h : At U g.method c below := by rw [hg]; exact X.here
  have hlocals9 : W9 + (maxL + 11) + (headSpec ws rm).room.locals ≤ R.locals := hlocals
  have happ : (headSpec ws rm).appliesLoose y e.platform (U.calling g mk a) = true :=
    Spec.appliesLoose_calling (g := g) h hdg hn hkY hinitY
      (X.room_calling (g := g) (R' := (headSpec ws rm).room) hsize hmY hcY hframes (by rw [hlY]; omega) h4 h5) h1
  obtain ⟨mid, hmid⟩ := h.above
  have hfr : (U.setTop g).frames = (.java g :: mid) ++ below := by rw [State.frames_setTop' g h.top, hmid]; rfl
  obtain ⟨o, s₂, hsteps, -, hend, hq⟩ := Steps.callFree hM p X.admits X.cas X.clock (acts := []) hfr happ hPc trivial
  have hq' : vx_Q Qc XC mc ms free a (U.calling g mk a) o s₂ := hq
  rw [State.frames_setTop' g h.top] at hend
  obtain ⟨g₀, hg0⟩ := Option.isSome_iff_exists.mp h.top
  obtain ⟨r, hr⟩ := State.topJava?_eq_some.mp hg0
  have hr' : (({ U with heap := s₂.heap, slotsUsed := s₂.slotsUsed } : State).setVm s₂.vm).frames = .java g₀ :: r := hr
  rcases hq' with ⟨hqc, L, hfe, hL⟩ | ⟨q, rfl, E, ce, L, hx, hce, hcv, hcl, hW₂, hsm, hL⟩
  · obtain ⟨⟨v, rfl⟩, hW₂, e2, q2, q3, q4, q5, q6⟩ := id hfe
    have e3 : s₂ = ({ (U.calling g mk a).setFrames s₂.frames with heap := s₂.heap, slotsUsed := s₂.slotsUsed } : State).setVm s₂.vm := by
      have : s₂ = ({ s₂ with vm := (U.calling g mk a).vm } : State).setVm s₂.vm := rfl
      rw [e2] at this
      exact this
    obtain ⟨c₂, i₂, len₂, hc₂, hd₂, hf₂⟩ := hend
    have hW' : U.WarmedH s₂.vm := hW₂
    have hcc : c₂ = c := by
      have h1 : s₂.code? g.method = U.code? g.method := by
        rw [State.code?_eq, State.code?_eq, hW'.alike.method?]
      exact Option.some.inj (hc₂.symm.trans (h1.trans h.code))
    subst hcc
    have hlen : len₂ = len := by rw [hdg] at hd₂; cases hd₂; rfl
    subst hlen
    have hs₂ : s₂ = (({ U with heap := s₂.heap, slotsUsed := s₂.slotsUsed } : State).setVm s₂.vm).setTop { g with pc := g.pc + len₂, stack := v.toList ++ g.stack } := by
      refine e3.trans ?_
      rw [hf₂, State.calling_eq h.top, State.setFrames_setFrames, State.setTop_of_frames _ hr', hr]
      rfl
    have hsame : U.sameButNew ({ U with heap := s₂.heap, slotsUsed := s₂.slotsUsed } : State) L mc ms := by
      refine ⟨?_, q2, q3, q4, q5, q6⟩
      obtain ⟨t, ht, -⟩ := State.frames_cons hr
      show ({ U with heap := s₂.heap, slotsUsed := s₂.slotsUsed } : State) = { U.setFrames U.frames with heap := s₂.heap, slotsUsed := s₂.slotsUsed }
      rw [State.setFrames_self ht]
    subst hg
    refine Or.inl ⟨v, ⟨(({ U with heap := s₂.heap, slotsUsed := s₂.slotsUsed } : State).setVm s₂.vm), Ls ++ L, c0 + mc, s0 + ms⟩,
      ⟨X.admits, X.cas, X.clock, X.frames, X.room, X.hears, X.method, X.code, (X.here.setHeapUsed s₂.heap s₂.slotsUsed).setVm hW'.alike, X.tail, State.WarmedH.trans X.warmed hW', X.limits, X.bytes, X.same.trans (hsame.setVm s.vm)⟩,
      ⟨g, mk, s₂, L, rfl, rfl, hqc, rfl, hL, rfl, rfl⟩, ?_⟩
    show Steps p.tables e below _ ((({ U with heap := s₂.heap, slotsUsed := s₂.slotsUsed } : State).setVm s₂.vm).setTop { g with pc := g.pc + len₂, stack := v.toList ++ g.stack })
    rw [← hs₂]
    exact hsteps
  · obtain ⟨e2, q2, q3, q4, q5, q6⟩ := id hsm
    have e3 : s₂ = ({ (U.calling g mk a).setFrames s₂.frames with heap := s₂.heap, slotsUsed := s₂.slotsUsed } : State).setVm s₂.vm := by
      have : s₂ = ({ s₂ with vm := (U.calling g mk a).vm } : State).setVm s₂.vm := rfl
      rw [e2] at this
      exact this
    have hf₂ : s₂.frames = .throwing q :: .java g :: U.frames.tail := hend
    have hW' : U.WarmedH s₂.vm := hW₂
    have hs₂ : s₂ = ((({ U with heap := s₂.heap, slotsUsed := s₂.slotsUsed } : State).setVm s₂.vm).setTop g).pushFrame (.throwing q) := by
      refine e3.trans ?_
      rw [hf₂, State.calling_eq h.top, State.setFrames_setFrames, State.pushFrame, State.frames_setTop _ hr', State.setTop_of_frames _ hr', State.setFrames_setFrames, hr]
      rfl
    have hsame : U.sameButNew ({ U with heap := s₂.heap, slotsUsed := s₂.slotsUsed } : State) L mc ms := by
      refine ⟨?_, q2, q3, q4, q5, q6⟩
      obtain ⟨t, ht, -⟩ := State.frames_cons hr
      show ({ U with heap := s₂.heap, slotsUsed := s₂.slotsUsed } : State) = { U.setFrames U.frames with heap := s₂.heap, slotsUsed := s₂.slotsUsed }
      rw [State.setFrames_self ht]
    subst hg
    refine Or.inr ⟨q, ⟨(({ U with heap := s₂.heap, slotsUsed := s₂.slotsUsed } : State).setVm s₂.vm), Ls ++ L, c0 + mc, s0 + ms⟩,
      ⟨X.admits, X.cas, X.clock, X.frames, X.room, X.hears, X.method, X.code, (X.here.setHeapUsed s₂.heap s₂.slotsUsed).setVm hW'.alike, X.tail, State.WarmedH.trans X.warmed hW', X.limits, X.bytes, X.same.trans (hsame.setVm s.vm)⟩,
      ⟨g, mk, s₂, L, E, ce, rfl, rfl, hx, hce, hcv, hcl, rfl, hL, rfl, rfl⟩, ?_⟩
    show Steps p.tables e below _ (((({ U with heap := s₂.heap, slotsUsed := s₂.slotsUsed } : State).setVm s₂.vm).setTop g).pushFrame (.throwing q))
    rw [← hs₂]
    exact hsteps
end Payer
section Calls
variable {p : Program} {l : Launch} {e : Env} {R : Room} {s : State} {m : MethodId} {args : Array Value} {below : List Frame} {meth : Method} {c : Code} {T : State} {locs : List Loc} {cells slots : Nat}
theorem vx_callV (X : Stand p l e R s m args below meth c T locs cells slots) (hexec : p.tables.exec = Jvm.exec) {own C : String} {index : Nat} {y : MethodName} {bytes : ByteArray} {maxL : Nat} {ret : Option FieldType}
    (hown : s.vm.findClass own = some m.cls) (hlink : (Cond.methodLink own index y).before args s = true) (hinst : (Cond.instanceMethod y).before args s = true) (hsel : (Cond.selects C y y).before args s = true)
    (hcode : (Cond.code y bytes maxL ret).before args s = true) (hy : y.cls ≠ "java/lang/invoke/MethodHandle" ∧ y.cls ≠ "java/lang/invoke/VarHandle")
    {W9 : Nat} {Pre : Pt → Array Value → Prop} {Post : Pt → Array Value → Option Value → Pt → Prop} {PostX : Pt → Array Value → Addr → Pt → Prop} (hK : vx_Back l R p e below s args y 3 W9 Pre Post PostX)
    {b : Addr} {cellB : Cell} (hcell : T.heap[b]? = some cellB) (hobj : cellB.vm.isStatics = false) (hcls : s.vm.findClass C = some cellB.cls)
    {g : JFrame} (hg : g.method = m) (hsize : g.locals.size = c.maxLocals) {argsL rest : List Value} (hlen : ∀ sig, parseMethodDescriptor y.desc = some sig → argsL.length = sig.parameters.length)
    (hstack : g.stack = argsL.reverse ++ .ref b :: rest) (hW : 2 * g.monitorRoom + (rest.map fun v => v.category).sum ≤ W9) (hdg : decode c.code g.pc = .ok (.invokevirtual index, 3))
    (hpre : ∀ vm₁, s.WarmedH vm₁ → Pre ⟨T.setVm vm₁, locs, cells, slots⟩ (Value.ref b :: argsL).toArray) :
    (∃ (v : Option Value) (vm₁ : Vm) (B : Pt), s.WarmedH vm₁ ∧ Stand p l e R s m args below meth c B.U B.locs B.cells B.slots ∧ Post ⟨T.setVm vm₁, locs, cells, slots⟩ (Value.ref b :: argsL).toArray v B ∧
      ∀ target, Steps p.tables e below (B.U.setTop { g with pc := g.pc + 3, stack := v.toList ++ rest }) target → Steps p.tables e below (T.setTop g) target) ∨
    (∃ (q : Addr) (vm₁ : Vm) (B : Pt), s.WarmedH vm₁ ∧ Stand p l e R s m args below meth c B.U B.locs B.cells B.slots ∧ PostX ⟨T.setVm vm₁, locs, cells, slots⟩ (Value.ref b :: argsL).toArray q B ∧
      Steps p.tables e below (T.setTop g) ((B.U.setTop { g with stack := rest }).pushFrame (.throwing q))) := by
  obtain ⟨mk, methM, hnamed, hmethM, hstM, habM⟩ := Cond.instanceMethod_spec hinst
  obtain ⟨methM', cM, hmethM', -, -, -, -, -, -, hsigM⟩ := Cond.code_spec hnamed hcode
  cases hmethM.symm.trans hmethM'
  obtain ⟨c2, r2, m2, q1, q2, q3, q4, kP, hkP, hkPi⟩ := Cond.selects_spec hsel
  cases hcls.symm.trans q1
  cases (State.methodFound?_of_named hnamed hy).symm.trans q2
  cases hnamed.symm.trans q3
  have hselP : selectMethod e.platform s.vm cellB.cls mk = .method mk := by rw [Launch.admits_selectMethod X.admits]; exact q4
  obtain ⟨vm₁, X₁, hstep₁⟩ := X.invokevirtual hexec hown hlink hnamed hmethM hstM hkP hkPi hy (a := b) (cell := cellB) hcell
    (fun z h => by rw [h] at hobj; cases hobj) hselP hmethM habM hkP hkPi (g := g) hg (argsL := argsL) (rest := rest) (hlen _ hsigM) hstack hdg
  rcases hK m meth c ⟨T.setVm vm₁, locs, cells, slots⟩ { g with stack := rest } (.invokevirtual index) mk (Value.ref b :: argsL).toArray X₁ hg hsize hdg hW (X₁.named hnamed) (hpre vm₁ X₁.warmed) with ⟨v, B, X', hpost, hsteps⟩ | ⟨q, B, X', hpost, hsteps⟩
  · exact Or.inl ⟨v, vm₁, B, X₁.warmed, X', hpost, fun target h => hstep₁ _ fun acts => by rw [doInvoke_state]; exact hsteps.trans h⟩
  · exact Or.inr ⟨q, vm₁, B, X₁.warmed, X', hpost, hstep₁ _ fun acts => by rw [doInvoke_state]; exact hsteps⟩
theorem vx_callS (X : Stand p l e R s m args below meth c T locs cells slots) (hexec : p.tables.exec = Jvm.exec) {own : String} {index : Nat} {y : MethodName} {bytes : ByteArray} {maxL : Nat} {ret : Option FieldType}
    (hown : s.vm.findClass own = some m.cls) (hlink : (Cond.methodLink own index y).before args s = true) (hstat : (Cond.static y).before args s = true) (hinit : (Cond.initialized y.cls).before args s = true)
    (hcode : (Cond.code y bytes maxL ret).before args s = true) (hy : y.cls ≠ "java/lang/invoke/MethodHandle" ∧ y.cls ≠ "java/lang/invoke/VarHandle")
    {W9 : Nat} {Pre : Pt → Array Value → Prop} {Post : Pt → Array Value → Option Value → Pt → Prop} {PostX : Pt → Array Value → Addr → Pt → Prop} (hK : vx_Back l R p e below s args y 3 W9 Pre Post PostX)
    {g : JFrame} (hg : g.method = m) (hsize : g.locals.size = c.maxLocals) {argsL rest : List Value} (hlen : ∀ sig, parseMethodDescriptor y.desc = some sig → argsL.length = sig.parameters.length)
    (hstack : g.stack = argsL.reverse ++ rest) (hW : 2 * g.monitorRoom + (rest.map fun v => v.category).sum ≤ W9) (hdg : decode c.code g.pc = .ok (.invokestatic index, 3))
    (hpre : ∀ vm₁, s.WarmedH vm₁ → Pre ⟨T.setVm vm₁, locs, cells, slots⟩ argsL.toArray) :
    (∃ (v : Option Value) (vm₁ : Vm) (B : Pt), s.WarmedH vm₁ ∧ Stand p l e R s m args below meth c B.U B.locs B.cells B.slots ∧ Post ⟨T.setVm vm₁, locs, cells, slots⟩ argsL.toArray v B ∧
      ∀ target, Steps p.tables e below (B.U.setTop { g with pc := g.pc + 3, stack := v.toList ++ rest }) target → Steps p.tables e below (T.setTop g) target) ∨
    (∃ (q : Addr) (vm₁ : Vm) (B : Pt), s.WarmedH vm₁ ∧ Stand p l e R s m args below meth c B.U B.locs B.cells B.slots ∧ PostX ⟨T.setVm vm₁, locs, cells, slots⟩ argsL.toArray q B ∧
      Steps p.tables e below (T.setTop g) ((B.U.setTop { g with stack := rest }).pushFrame (.throwing q))) := by
  obtain ⟨mk, hnamed⟩ := Cond.code_named hcode
  obtain ⟨methM, cM, hmethM, -, -, -, -, -, -, hsigM⟩ := Cond.code_spec hnamed hcode
  have hstatic : methM.isStatic = true := Cond.static_spec hnamed hmethM hstat
  obtain ⟨kP, hkP, -⟩ := className_of_methodNamed hnamed
  have hinitP : kP.init = .initialized := Cond.initialized_spec (findClass_of_methodNamed hnamed) hkP hinit
  obtain ⟨vm₁, X₁, hstep₁⟩ := X.invokestatic hexec hown hlink hnamed hmethM hstatic hkP hinitP hy (g := g) hg (argsL := argsL) (rest := rest) (hlen _ hsigM) hstack hdg
  rcases hK m meth c ⟨T.setVm vm₁, locs, cells, slots⟩ { g with stack := rest } (.invokestatic index) mk argsL.toArray X₁ hg hsize hdg hW (X₁.named hnamed) (hpre vm₁ X₁.warmed) with ⟨v, B, X', hpost, hsteps⟩ | ⟨q, B, X', hpost, hsteps⟩
  · exact Or.inl ⟨v, vm₁, B, X₁.warmed, X', hpost, fun target h => hstep₁ _ fun acts => by rw [doInvoke_state]; exact hsteps.trans h⟩
  · exact Or.inr ⟨q, vm₁, B, X₁.warmed, X', hpost, hstep₁ _ fun acts => by rw [doInvoke_state]; exact hsteps⟩
end Calls
theorem vx_cls {s : State} {T : State} {vm₁ : Vm} {E : String} {k : ClassId} (hW : s.WarmedH vm₁) (h : (T.setVm vm₁).vm.findClass E = some k) : s.vm.findClass E = some k := by
  have h1 : vm₁.findClass E = some k := h
  rw [hW.alike.findClass] at h1
  exact h1
/-- the method's frame g, with q thrown over it -/
def vx_W (p : Program) (l : Launch) (e : Env) (R : Room) (s : State) (m : MethodId) (args : Array Value) (below : List Frame) (meth : Method) (c : Code) (H : Heap) (locs : List Loc) (cells slots : Nat) (Q : State → Prop) (g : JFrame) (q : Addr) : Prop :=
  ∀ T : State, T.heap = H → Stand p l e R s m args below meth c T locs cells slots → ∃ t, Steps p.tables e below ((T.setTop g).pushFrame (.throwing q)) t ∧ Q t
def vx_Run (p : Program) (l : Launch) (e : Env) (R : Room) (s : State) (m : MethodId) (args : Array Value) (below : List Frame) (meth : Method) (c : Code) (H : Heap) (locs : List Loc) (cells slots mc ms : Nat) (g : JFrame) (rest : List Value) (Qa : State → Outcome → State → Prop) (XC : String → State → State → Prop) (free : Addr → Prop) : Prop :=
  ∀ T : State, T.heap = H → Stand p l e R s m args below meth c T locs cells slots →
    (∃ (v : Option Value) (st₀ t T' : State) (L : List Loc), st₀.heap = H ∧ Stand p l e R s m args below meth c T' (locs ++ L) (cells + mc) (slots + ms) ∧ (∀ q ∈ L, free q.base) ∧ T'.heap = t.heap ∧ T'.vm = t.vm ∧ Qa st₀ (.returned v) t ∧
      Goes p e below T g T' { g with pc := g.pc + 3, stack := v.toList ++ rest }) ∨
    (∃ (q : Addr) (st₀ t T' : State) (L : List Loc) (E : String) (ce : Cell), st₀.heap = H ∧ Stand p l e R s m args below meth c T' (locs ++ L) (cells + mc) (slots + ms) ∧ (∀ z ∈ L, free z.base) ∧ T'.heap = t.heap ∧ T'.vm = t.vm ∧ XC E st₀ t ∧ t.heap[q]? = some ce ∧ ce.vm = .none ∧ s.vm.findClass E = some ce.cls ∧
      Steps p.tables e below (T.setTop g) ((T'.setTop { g with stack := rest }).pushFrame (.throwing q)))
def vx_X {S : Type} (px : S → Prop) (B : String → S → State → Prop) (A : Nat → Prop) : String → State → State → Prop := fun E st t => ∃ u : S, px u ∧ B E u t ∧ va_F A st t
section Runs
variable {p : Program} {l : Launch} {e : Env} {R : Room} {s : State} {m : MethodId} {args : Array Value} {below : List Frame} {meth : Method} {c : Code} {H : Heap} {locs : List Loc} {cells slots : Nat}
variable {y : MethodName} {bytes cc : ByteArray} {maxL nL mc ms n index : Nat} {ret : Option FieldType} {ws : List Cond} {rm : Room} {Pc : Array Value → State → Prop} {Qc : Array Value → State → Outcome → State → Prop} {XC : String → State → State → Prop} {free : Addr → Prop} {Ts : List Cond} {own C : String} {b : Addr} {As rest : List Value} {g : JFrame}
theorem vx_callBack (cb : CallB R s args own index y bytes maxL ret ws rm mc ms n) (hM : vx_Met l y ws rm Pc Qc XC mc ms free) (hbl : FrameBlind Pc) : vx_Back l R p e below s args y 3 8 (PreOf R mc ms Pc) (PostOf Qc mc ms free) (vx_Post XC mc ms free) := by
  obtain ⟨hrc, hrs, hfr, hlo, hws, hcw, -, hini, -⟩ := cb
  exact vx_back (bytes := bytes) (maxL := maxL) (ret := ret) hM hbl hrc hrs hfr hlo hws hcw (fun a' U hW => word_at hW (Or.inl (by first | rfl | simp [Cond.onTables, Cond.keeps, Cond.steady])) hini)
theorem vx_runV (S : CallFix p m c cc nL s args Ts own) (hM : vx_Met l y ws rm Pc Qc XC mc ms free) (cw : CallW R s args own C index y bytes maxL ret ws rm mc ms n) (hp : PreV s H C b Pc As)
    (hg : g.method = m) (hn : As.length = n) (hsize : g.locals.size = nL) (hstack : g.stack = As.reverse ++ .ref b :: rest) (hW : 2 * g.monitorRoom + (rest.map fun v => v.category).sum ≤ 8) (hdg : decode cc g.pc = .ok (.invokevirtual index, 3)) (hf : cells + mc ≤ R.cells ∧ slots + ms ≤ R.slots) :
    vx_Run p l e R s m args below meth c H locs cells slots mc ms g rest (Qc (Value.ref b :: As).toArray) XC free := by
  have hK : vx_Back l R p e below s args y 3 8 (PreOf R mc ms Pc) (PostOf Qc mc ms free) (vx_Post XC mc ms free) := vx_callBack cw.1 hM hp.1
  obtain ⟨⟨-, -, -, -, -, -, hcode, -, hy, hlen, hl⟩, hin, hse⟩ := cw
  obtain ⟨hx, hb, hml, ho, -⟩ := S
  obtain ⟨-, ⟨cellB, hcB, hoB, hclB⟩, hPc⟩ := hp
  intro T hT X
  rcases vx_callV X hx (C := C) (bytes := bytes) (maxL := maxL) (ret := ret) ho hl hin hse hcode hy hK (by rw [hT]; exact hcB) hoB hclB hg (hsize.trans hml.symm) (argsL := As) (rest := rest) (fun sig h => hn.trans (hlen sig h)) hstack hW (by rw [hb]; exact hdg)
    (fun vm₁ hW₁ => ⟨hf.1, hf.2, hPc (T.setVm vm₁) hT hW₁⟩) with ⟨v, vm₁, ⟨U', l2, c2, s2⟩, hW₁, X', ⟨g', mk, t, L, e1, e2, hq, h1, hL, h2, h3⟩, st⟩ | ⟨q, vm₁, ⟨U', l2, c2, s2⟩, hW₁, X', ⟨g', mk, t, L, E, ce, e1, e2, hq, hce, hcv, hcl, h1, hL, h2, h3⟩, st⟩
  · dsimp only [Pt.U, Pt.locs, Pt.cells, Pt.slots] at X' e1 e2 h1 h2 h3 st
    subst h1; subst h2; subst h3
    exact Or.inl ⟨v, (T.setVm vm₁).calling g' mk (Value.ref b :: As).toArray, t, U', L, hT, X', hL, e1, e2, hq, st⟩
  · dsimp only [Pt.U, Pt.locs, Pt.cells, Pt.slots] at X' e1 e2 h1 h2 h3 st hcl
    subst h1; subst h2; subst h3
    exact Or.inr ⟨q, (T.setVm vm₁).calling g' mk (Value.ref b :: As).toArray, t, U', L, E, ce, hT, X', hL, e1, e2, hq, hce, hcv, vx_cls hW₁ hcl, st⟩
theorem vx_runS (S : CallFix p m c cc nL s args Ts own) (hM : vx_Met l y ws rm Pc Qc XC mc ms free) (cw : CallB R s args own index y bytes maxL ret ws rm mc ms n ∧ (Cond.static y).before args s = true) (hp : PreS s H Pc As)
    (hg : g.method = m) (hn : As.length = n) (hsize : g.locals.size = nL) (hstack : g.stack = As.reverse ++ rest) (hW : 2 * g.monitorRoom + (rest.map fun v => v.category).sum ≤ 8) (hdg : decode cc g.pc = .ok (.invokestatic index, 3)) (hf : cells + mc ≤ R.cells ∧ slots + ms ≤ R.slots) :
    vx_Run p l e R s m args below meth c H locs cells slots mc ms g rest (Qc As.toArray) XC free := by
  have hK : vx_Back l R p e below s args y 3 8 (PreOf R mc ms Pc) (PostOf Qc mc ms free) (vx_Post XC mc ms free) := vx_callBack cw.1 hM hp.1
  obtain ⟨⟨-, -, -, -, -, -, hcode, hini, hy, hlen, hl⟩, hstt⟩ := cw
  obtain ⟨hx, hb, hml, ho, -⟩ := S
  intro T hT X
  rcases vx_callS X hx (bytes := bytes) (maxL := maxL) (ret := ret) ho hl hstt hini hcode hy hK hg (hsize.trans hml.symm) (argsL := As) (rest := rest) (fun sig h => hn.trans (hlen sig h)) hstack hW (by rw [hb]; exact hdg)
    (fun vm₁ hW₁ => ⟨hf.1, hf.2, hp.2 (T.setVm vm₁) hT hW₁⟩) with ⟨v, vm₁, ⟨U', l2, c2, s2⟩, hW₁, X', ⟨g', mk, t, L, e1, e2, hq, h1, hL, h2, h3⟩, st⟩ | ⟨q, vm₁, ⟨U', l2, c2, s2⟩, hW₁, X', ⟨g', mk, t, L, E, ce, e1, e2, hq, hce, hcv, hcl, h1, hL, h2, h3⟩, st⟩
  · dsimp only [Pt.U, Pt.locs, Pt.cells, Pt.slots] at X' e1 e2 h1 h2 h3 st
    subst h1; subst h2; subst h3
    exact Or.inl ⟨v, (T.setVm vm₁).calling g' mk As.toArray, t, U', L, hT, X', hL, e1, e2, hq, st⟩
  · dsimp only [Pt.U, Pt.locs, Pt.cells, Pt.slots] at X' e1 e2 h1 h2 h3 st hcl
    subst h1; subst h2; subst h3
    exact Or.inr ⟨q, (T.setVm vm₁).calling g' mk As.toArray, t, U', L, E, ce, hT, X', hL, e1, e2, hq, hce, hcv, vx_cls hW₁ hcl, st⟩
end Runs
section Rows
variable {p : Program} {l : Launch} {e : Env} {R : Room} {s : State} {m : MethodId} {args : Array Value} {below : List Frame} {meth : Method} {c : Code} {H : Heap} {locs : List Loc} {cells slots : Nat} {Q : State → Prop}
variable {mc ms : Nat} {free : Addr → Prop} {A0 A1 : Nat → Prop} {H0 : Heap} {a : Array Value} {pc : Nat} {ls : Array Slot} {st0 rest : List Value}
theorem vx_keep {st₀ t T' : State} {L : List Loc} (h0 : st₀.heap = H) (e1 : T'.heap = t.heap) (hS : va_S A0 H0 H locs) (hA : ∀ q, q < H.size → A1 q → A0 q) (hf : ∀ q, free q → A0 q) (hL : ∀ q ∈ L, free q.base) (hF : va_F A1 st₀ t) :
    H.size ≤ T'.heap.size ∧ (∀ q : Nat, q < H.size → ¬ A1 q → T'.heap[q]? = H[q]?) ∧ va_S A0 H0 T'.heap (locs ++ L) := by
  obtain ⟨hz, hk⟩ := hF
  rw [h0] at hz hk
  exact ⟨by rw [e1]; exact hz, fun q h1 h2 => by rw [e1]; exact hk q h1 h2,
    ⟨Nat.le_trans hS.1 (by rw [e1]; exact hz), fun q h1 h2 => by rw [e1, hk q (Nat.lt_of_lt_of_le h1 hS.1) (fun z => h2 (hA q (Nat.lt_of_lt_of_le h1 hS.1) z))]; exact hS.2.1 q h1 h2, fun q hq => by
      rcases List.mem_append.mp hq with h | h
      · exact hS.2.2 q h
      · exact hf _ (hL q h)⟩⟩
theorem vx_calli {S SX : Type} {post : Int32 → S → Prop} {px : SX → Prop} {B : S → State → Prop} {BX : String → SX → State → Prop} {AX : Nat → Prop} (hr : vx_Run p l e R s m args below meth c H locs cells slots mc ms (F0 m pc ls st0) rest (va_Qi post B A1 a) (vx_X px BX AX) free) (hS : va_S A0 H0 H locs) (hA : ∀ q, q < H.size → A1 q → A0 q) (hf : ∀ q, free q → A0 q) (hAX : ∀ q, q < H.size → AX q → A0 q)
    (kx : ∀ (E : String) (ce : Cell) (q9 : Addr) (u : SX) (t : State) (H1 : Heap) (locs1 : List Loc), t.heap = H1 → s.vm.Alike t.vm → px u → BX E u t → H.size ≤ H1.size → (∀ q : Nat, q < H.size → ¬ AX q → H1[q]? = H[q]?) → va_S A0 H0 H1 locs1 → H1[q9]? = some ce → ce.vm = .none → s.vm.findClass E = some ce.cls → vx_W p l e R s m args below meth c H1 locs1 (cells + mc) (slots + ms) Q (F0 m pc ls rest) q9)
    (kk : ∀ (r : Int32) (u : S) (t : State) (H1 : Heap) (locs1 : List Loc), t.heap = H1 → s.vm.Alike t.vm → post r u → B u t → H.size ≤ H1.size → (∀ q : Nat, q < H.size → ¬ A1 q → H1[q]? = H[q]?) → va_S A0 H0 H1 locs1 → W p l e R s m args below meth c H1 locs1 (cells + mc) (slots + ms) Q (F0 m (pc + 3) ls (.int r :: rest))) : W p l e R s m args below meth c H locs cells slots Q (F0 m pc ls st0) := by
  intro T hT X
  rcases hr T hT X with ⟨v, st₀, t, T', L, h0, X', hL, e1, e2, ⟨⟨r, u, hv, hp, hb⟩, hF⟩, st⟩ | ⟨q, st₀, t, T', L, E, ce, h0, X', hL, e1, e2, ⟨u, hp, hb, hF⟩, hce, hcv, hcl, st⟩
  · cases hv
    obtain ⟨k1, k2, k3⟩ := vx_keep h0 e1 hS hA hf hL hF
    obtain ⟨t2, a1, b1⟩ := kk r u t T'.heap (locs ++ L) e1.symm (by rw [← e2]; exact X'.warmed.alike) hp hb k1 k2 k3 T' rfl X'
    exact ⟨t2, st t2 a1, b1⟩
  · obtain ⟨k1, k2, k3⟩ := vx_keep h0 e1 hS hAX hf hL hF
    obtain ⟨t2, a1, b1⟩ := kx E ce q u t T'.heap (locs ++ L) e1.symm (by rw [← e2]; exact X'.warmed.alike) hp hb k1 k2 k3 (by rw [e1]; exact hce) hcv hcl T' rfl X'
    exact ⟨t2, st.trans a1, b1⟩
theorem vx_calll {S SX : Type} {post : Int64 → S → Prop} {px : SX → Prop} {B : S → State → Prop} {BX : String → SX → State → Prop} {AX : Nat → Prop} (hr : vx_Run p l e R s m args below meth c H locs cells slots mc ms (F0 m pc ls st0) rest (va_Ql post B A1 a) (vx_X px BX AX) free) (hS : va_S A0 H0 H locs) (hA : ∀ q, q < H.size → A1 q → A0 q) (hf : ∀ q, free q → A0 q) (hAX : ∀ q, q < H.size → AX q → A0 q)
    (kx : ∀ (E : String) (ce : Cell) (q9 : Addr) (u : SX) (t : State) (H1 : Heap) (locs1 : List Loc), t.heap = H1 → s.vm.Alike t.vm → px u → BX E u t → H.size ≤ H1.size → (∀ q : Nat, q < H.size → ¬ AX q → H1[q]? = H[q]?) → va_S A0 H0 H1 locs1 → H1[q9]? = some ce → ce.vm = .none → s.vm.findClass E = some ce.cls → vx_W p l e R s m args below meth c H1 locs1 (cells + mc) (slots + ms) Q (F0 m pc ls rest) q9)
    (kk : ∀ (r : Int64) (u : S) (t : State) (H1 : Heap) (locs1 : List Loc), t.heap = H1 → s.vm.Alike t.vm → post r u → B u t → H.size ≤ H1.size → (∀ q : Nat, q < H.size → ¬ A1 q → H1[q]? = H[q]?) → va_S A0 H0 H1 locs1 → W p l e R s m args below meth c H1 locs1 (cells + mc) (slots + ms) Q (F0 m (pc + 3) ls (.long r :: rest))) : W p l e R s m args below meth c H locs cells slots Q (F0 m pc ls st0) := by
  intro T hT X
  rcases hr T hT X with ⟨v, st₀, t, T', L, h0, X', hL, e1, e2, ⟨⟨r, u, hv, hp, hb⟩, hF⟩, st⟩ | ⟨q, st₀, t, T', L, E, ce, h0, X', hL, e1, e2, ⟨u, hp, hb, hF⟩, hce, hcv, hcl, st⟩
  · cases hv
    obtain ⟨k1, k2, k3⟩ := vx_keep h0 e1 hS hA hf hL hF
    obtain ⟨t2, a1, b1⟩ := kk r u t T'.heap (locs ++ L) e1.symm (by rw [← e2]; exact X'.warmed.alike) hp hb k1 k2 k3 T' rfl X'
    exact ⟨t2, st t2 a1, b1⟩
  · obtain ⟨k1, k2, k3⟩ := vx_keep h0 e1 hS hAX hf hL hF
    obtain ⟨t2, a1, b1⟩ := kx E ce q u t T'.heap (locs ++ L) e1.symm (by rw [← e2]; exact X'.warmed.alike) hp hb k1 k2 k3 (by rw [e1]; exact hce) hcv hcl T' rfl X'
    exact ⟨t2, st.trans a1, b1⟩
theorem vx_callf {S SX : Type} {post : UInt32 → S → Prop} {px : SX → Prop} {B : S → State → Prop} {BX : String → SX → State → Prop} {AX : Nat → Prop} (hr : vx_Run p l e R s m args below meth c H locs cells slots mc ms (F0 m pc ls st0) rest (va_Qf post B A1 a) (vx_X px BX AX) free) (hS : va_S A0 H0 H locs) (hA : ∀ q, q < H.size → A1 q → A0 q) (hf : ∀ q, free q → A0 q) (hAX : ∀ q, q < H.size → AX q → A0 q)
    (kx : ∀ (E : String) (ce : Cell) (q9 : Addr) (u : SX) (t : State) (H1 : Heap) (locs1 : List Loc), t.heap = H1 → s.vm.Alike t.vm → px u → BX E u t → H.size ≤ H1.size → (∀ q : Nat, q < H.size → ¬ AX q → H1[q]? = H[q]?) → va_S A0 H0 H1 locs1 → H1[q9]? = some ce → ce.vm = .none → s.vm.findClass E = some ce.cls → vx_W p l e R s m args below meth c H1 locs1 (cells + mc) (slots + ms) Q (F0 m pc ls rest) q9)
    (kk : ∀ (r : UInt32) (u : S) (t : State) (H1 : Heap) (locs1 : List Loc), t.heap = H1 → s.vm.Alike t.vm → post r u → B u t → H.size ≤ H1.size → (∀ q : Nat, q < H.size → ¬ A1 q → H1[q]? = H[q]?) → va_S A0 H0 H1 locs1 → W p l e R s m args below meth c H1 locs1 (cells + mc) (slots + ms) Q (F0 m (pc + 3) ls (.float r :: rest))) : W p l e R s m args below meth c H locs cells slots Q (F0 m pc ls st0) := by
  intro T hT X
  rcases hr T hT X with ⟨v, st₀, t, T', L, h0, X', hL, e1, e2, ⟨⟨r, u, hv, hp, hb⟩, hF⟩, st⟩ | ⟨q, st₀, t, T', L, E, ce, h0, X', hL, e1, e2, ⟨u, hp, hb, hF⟩, hce, hcv, hcl, st⟩
  · cases hv
    obtain ⟨k1, k2, k3⟩ := vx_keep h0 e1 hS hA hf hL hF
    obtain ⟨t2, a1, b1⟩ := kk r u t T'.heap (locs ++ L) e1.symm (by rw [← e2]; exact X'.warmed.alike) hp hb k1 k2 k3 T' rfl X'
    exact ⟨t2, st t2 a1, b1⟩
  · obtain ⟨k1, k2, k3⟩ := vx_keep h0 e1 hS hAX hf hL hF
    obtain ⟨t2, a1, b1⟩ := kx E ce q u t T'.heap (locs ++ L) e1.symm (by rw [← e2]; exact X'.warmed.alike) hp hb k1 k2 k3 (by rw [e1]; exact hce) hcv hcl T' rfl X'
    exact ⟨t2, st.trans a1, b1⟩
theorem vx_calld {S SX : Type} {post : UInt64 → S → Prop} {px : SX → Prop} {B : S → State → Prop} {BX : String → SX → State → Prop} {AX : Nat → Prop} (hr : vx_Run p l e R s m args below meth c H locs cells slots mc ms (F0 m pc ls st0) rest (va_Qd post B A1 a) (vx_X px BX AX) free) (hS : va_S A0 H0 H locs) (hA : ∀ q, q < H.size → A1 q → A0 q) (hf : ∀ q, free q → A0 q) (hAX : ∀ q, q < H.size → AX q → A0 q)
    (kx : ∀ (E : String) (ce : Cell) (q9 : Addr) (u : SX) (t : State) (H1 : Heap) (locs1 : List Loc), t.heap = H1 → s.vm.Alike t.vm → px u → BX E u t → H.size ≤ H1.size → (∀ q : Nat, q < H.size → ¬ AX q → H1[q]? = H[q]?) → va_S A0 H0 H1 locs1 → H1[q9]? = some ce → ce.vm = .none → s.vm.findClass E = some ce.cls → vx_W p l e R s m args below meth c H1 locs1 (cells + mc) (slots + ms) Q (F0 m pc ls rest) q9)
    (kk : ∀ (r : UInt64) (u : S) (t : State) (H1 : Heap) (locs1 : List Loc), t.heap = H1 → s.vm.Alike t.vm → post r u → B u t → H.size ≤ H1.size → (∀ q : Nat, q < H.size → ¬ A1 q → H1[q]? = H[q]?) → va_S A0 H0 H1 locs1 → W p l e R s m args below meth c H1 locs1 (cells + mc) (slots + ms) Q (F0 m (pc + 3) ls (.double r :: rest))) : W p l e R s m args below meth c H locs cells slots Q (F0 m pc ls st0) := by
  intro T hT X
  rcases hr T hT X with ⟨v, st₀, t, T', L, h0, X', hL, e1, e2, ⟨⟨r, u, hv, hp, hb⟩, hF⟩, st⟩ | ⟨q, st₀, t, T', L, E, ce, h0, X', hL, e1, e2, ⟨u, hp, hb, hF⟩, hce, hcv, hcl, st⟩
  · cases hv
    obtain ⟨k1, k2, k3⟩ := vx_keep h0 e1 hS hA hf hL hF
    obtain ⟨t2, a1, b1⟩ := kk r u t T'.heap (locs ++ L) e1.symm (by rw [← e2]; exact X'.warmed.alike) hp hb k1 k2 k3 T' rfl X'
    exact ⟨t2, st t2 a1, b1⟩
  · obtain ⟨k1, k2, k3⟩ := vx_keep h0 e1 hS hAX hf hL hF
    obtain ⟨t2, a1, b1⟩ := kx E ce q u t T'.heap (locs ++ L) e1.symm (by rw [← e2]; exact X'.warmed.alike) hp hb k1 k2 k3 (by rw [e1]; exact hce) hcv hcl T' rfl X'
    exact ⟨t2, st.trans a1, b1⟩
theorem vx_callv {S SX : Type} {post : S → Prop} {px : SX → Prop} {B : S → State → Prop} {BX : String → SX → State → Prop} {AX : Nat → Prop} (hr : vx_Run p l e R s m args below meth c H locs cells slots mc ms (F0 m pc ls st0) rest (va_Qv post B A1 a) (vx_X px BX AX) free) (hS : va_S A0 H0 H locs) (hA : ∀ q, q < H.size → A1 q → A0 q) (hf : ∀ q, free q → A0 q) (hAX : ∀ q, q < H.size → AX q → A0 q)
    (kx : ∀ (E : String) (ce : Cell) (q9 : Addr) (u : SX) (t : State) (H1 : Heap) (locs1 : List Loc), t.heap = H1 → s.vm.Alike t.vm → px u → BX E u t → H.size ≤ H1.size → (∀ q : Nat, q < H.size → ¬ AX q → H1[q]? = H[q]?) → va_S A0 H0 H1 locs1 → H1[q9]? = some ce → ce.vm = .none → s.vm.findClass E = some ce.cls → vx_W p l e R s m args below meth c H1 locs1 (cells + mc) (slots + ms) Q (F0 m pc ls rest) q9)
    (kk : ∀ (u : S) (t : State) (H1 : Heap) (locs1 : List Loc), t.heap = H1 → s.vm.Alike t.vm → post u → B u t → H.size ≤ H1.size → (∀ q : Nat, q < H.size → ¬ A1 q → H1[q]? = H[q]?) → va_S A0 H0 H1 locs1 → W p l e R s m args below meth c H1 locs1 (cells + mc) (slots + ms) Q (F0 m (pc + 3) ls (rest))) : W p l e R s m args below meth c H locs cells slots Q (F0 m pc ls st0) := by
  intro T hT X
  rcases hr T hT X with ⟨v, st₀, t, T', L, h0, X', hL, e1, e2, ⟨⟨u, hv, hp, hb⟩, hF⟩, st⟩ | ⟨q, st₀, t, T', L, E, ce, h0, X', hL, e1, e2, ⟨u, hp, hb, hF⟩, hce, hcv, hcl, st⟩
  · cases hv
    obtain ⟨k1, k2, k3⟩ := vx_keep h0 e1 hS hA hf hL hF
    obtain ⟨t2, a1, b1⟩ := kk u t T'.heap (locs ++ L) e1.symm (by rw [← e2]; exact X'.warmed.alike) hp hb k1 k2 k3 T' rfl X'
    exact ⟨t2, st t2 a1, b1⟩
  · obtain ⟨k1, k2, k3⟩ := vx_keep h0 e1 hS hAX hf hL hF
    obtain ⟨t2, a1, b1⟩ := kx E ce q u t T'.heap (locs ++ L) e1.symm (by rw [← e2]; exact X'.warmed.alike) hp hb k1 k2 k3 (by rw [e1]; exact hce) hcv hcl T' rfl X'
    exact ⟨t2, st.trans a1, b1⟩
/-- caught by the row x of this method's table; the rows ahead don't take it -/
theorem vx_catch {own name : String} {E : String} {ce : Cell} {q : Addr} (hown : s.vm.findClass own = some m.cls) (pre : List ExceptionTableEntry) (x : ExceptionTableEntry) (suf : List ExceptionTableEntry) (hsplit : c.exceptionTable.toList = pre ++ x :: suf)
    (hpass : ∀ z ∈ pre, covers z pc = false ∨ (z.catchType ≠ 0 ∧ ∃ nm : String, (Cond.classLink own z.catchType nm).before args s = true ∧ va_Nc E nm s)) (hx : covers x pc = true) (h0 : x.catchType ≠ 0)
    (hlink : (Cond.classLink own x.catchType name).before args s = true) (hcast : (Cond.castable E name).before args s = true) (hcell : H[q]? = some ce) (hv : ce.vm = .none) (hcl : s.vm.findClass E = some ce.cls)
    (kk : W p l e R s m args below meth c H locs cells slots Q (F0 m x.handlerPc ls [.ref q])) : vx_W p l e R s m args below meth c H locs cells slots Q (F0 m pc ls rest) q := by
  intro T hT X
  have hpl : e.platform.magicAccessors = ({} : Platform).magicAccessors := by rw [X.admits.platform]
  obtain ⟨c3, c4, hc3, hc4, hasg⟩ := Cond.castable_spec hcast
  cases Option.some.inj (hc3.symm.trans hcl)
  obtain ⟨c5, hc5, hcl5⟩ := Cond.classLink_spec hown hlink e.platform hpl
  cases Option.some.inj (hc4.symm.trans hc5)
  obtain ⟨vm', X', st⟩ := X.thenCaughtThrough q (g := F0 m pc ls rest) rfl (Steps.refl _) (by rw [hT]; exact hcell) (by rw [hv]; rfl) (by obtain ⟨k9, h9, -⟩ := Vm.findClass_spec hcl; exact ⟨k9, h9⟩) pre x suf hsplit
    (fun z hz => by
      rcases hpass z hz with h | ⟨hz0, nm, hl1, hn1⟩
      · exact Or.inl h
      · obtain ⟨c6, hc6, hcl6⟩ := Cond.classLink_spec hown hl1 e.platform hpl
        obtain ⟨a8, b8, h1, h2, h3⟩ := hn1
        cases Option.some.inj (h1.symm.trans hcl)
        cases Option.some.inj (h2.symm.trans hc6)
        exact Or.inr ⟨hz0, _, hcl6, h3⟩) hx (Or.inr ⟨h0, c4, hcl5, hasg⟩)
  obtain ⟨t, a1, b1⟩ := kk (T.setVm vm') hT X'
  exact ⟨t, st.trans a1, b1⟩
end Rows
section Ends
variable {p : Program} {l : Launch} {e : Env} {R : Room} {s : State} {m : MethodId} {args : Array Value} {below : List Frame} {meth : Method} {c : Code} {H : Heap} {locs : List Loc} {cells slots : Nat} {Q : State → Prop}
variable {mc ms : Nat} {free : Addr → Prop} {A0 A1 : Nat → Prop} {H0 : Heap} {a : Array Value} {ls : Array Slot} {st0 rest : List Value}
variable {Qc : Array Value → State → Outcome → State → Prop} {XC : String → State → State → Prop}
/-- what a body that may throw owes at its end -/
def vx_MQ (below : List Frame) (Qc : Array Value → State → Outcome → State → Prop) (XC : String → State → State → Prop) (a : Array Value) (s : State) (mc ms : Nat) (free : Addr → Prop) : State → Prop := fun t =>
  ∃ o, t.status = .running ∧ Ended t below o ∧ vx_Q Qc XC mc ms free a s o t
theorem vx_ret {g : JFrame} {mc ms : Nat} (k : W p l e R s m args below meth c H locs cells slots (MQ below Qc args s mc ms free) g) : W p l e R s m args below meth c H locs cells slots (vx_MQ below Qc XC args s mc ms free) g := by
  intro T hT X
  obtain ⟨t, a1, o, b1, b2, b3, b4⟩ := k T hT X
  exact ⟨t, a1, o, b1, b2, Or.inl ⟨b3, b4⟩⟩
/-- not caught here: it goes on to the caller -/
theorem vx_widen {g : JFrame} {q : Addr} {k n : Nat} (h1 : cells ≤ k) (h2 : slots ≤ n) (kk : vx_W p l e R s m args below meth c H locs k n Q g q) : vx_W p l e R s m args below meth c H locs cells slots Q g q := fun T hT X => kk T hT (stand_widen X h1 h2)
theorem vx_out {pc : Nat} {E : String} {ce : Cell} {q : Addr} {mc ms : Nat} (hout : ∀ x ∈ c.exceptionTable.toList, covers x pc = false) (hlocks : meth.locks = false) (hcell : H[q]? = some ce) (hv : ce.vm = .none) (hcl : s.vm.findClass E = some ce.cls)
    (hx : ∀ t : State, t.heap = H → s.vm.Alike t.vm → XC E s t) (hf : ∀ z ∈ locs, free z.base) (hc : cells ≤ mc) (hs : slots ≤ ms) :
    vx_W p l e R s m args below meth c H locs cells slots (vx_MQ below Qc XC args s mc ms free) (F0 m pc ls rest) q := by
  intro T hT X
  obtain ⟨st1, hrun, hend, hW, hsm⟩ := X.leaveThrown q (g := F0 m pc ls rest) rfl rfl rfl hout hlocks
  have hcell9 : (T.setFrames (.throwing q :: below)).heap[q]? = some ce := by
    show T.heap[q]? = some ce
    rw [hT]; exact hcell
  exact ⟨_, st1, .threw q, hrun, hend, Or.inr ⟨q, rfl, E, ce, locs, hx _ hT hW.alike, hcell9, hv, hcl, hW, hsm.mono hc hs, hf⟩⟩
theorem vx_frame {U : State} {k n : Nat} (h : s.sameButNew ({ U with vm := s.vm } : State) locs k n) : s.heap.size ≤ U.heap.size ∧ ∀ q : Nat, q < s.heap.size → (∀ z ∈ locs, z.base ≠ q) → U.heap[q]? = s.heap[q]? := by
  obtain ⟨-, h2, -, -, -, h6⟩ := h
  refine ⟨h2, fun q hq hz => ?_⟩
  obtain ⟨c9, e1, e2, e3, e4⟩ := h6 q _ (Array.getElem?_eq_getElem hq)
  have hs : c9.slots = (s.heap[q]).slots := Array.ext_getElem? fun i => e4 i fun hm => hz _ hm rfl
  have h9 : c9 = s.heap[q] := by
    rw [hs] at e2
    exact e2
  have e5 : U.heap[q]? = some c9 := e1
  rw [e5, h9, Array.getElem?_eq_getElem hq]
/-- the words of a throw but the four that speak of the heap -/
def vx_no (w : Cond) : Bool := decide (w ≠ .isRef (.static Bundle.tN "UNASSIGNED_STACK" Bundle.steD)) && decide (w ≠ .isRef (.static Bundle.tN "SUPPRESSED_SENTINEL" Bundle.listD)) && decide (w ≠ .laysStatic Bundle.tN "UNASSIGNED_STACK" Bundle.steD) && decide (w ≠ .laysStatic Bundle.tN "SUPPRESSED_SENTINEL" Bundle.listD)
def vx_at0 (own : String) (ic : Nat) (X : String) (names : List String) : List Cond := (Bundle.ownAtoms0 own ic X names).filter vx_no
def vx_atS (own : String) (ic : Nat) (X : String) (names : List String) : List Cond := (Bundle.ownAtoms own ic X names).filter vx_no
/-- a word that the tables alone decide, or a good one -/
def vx_ot (w : Cond) : Bool := w.onTables || goodWord w
theorem vx_ot_at {args a' : Array Value} {s U : State} {w : Cond} (hW : s.WarmedH U.vm) (hvm : s.vm = U.vm) (hg : vx_ot w = true) (h : w.before args s = true) : w.before a' U = true := by
  simp only [vx_ot, Bool.or_eq_true] at hg
  rcases hg with hg | hg
  · exact va_tabs hg hvm h
  · exact word_at hW (good_of_word hg) h
/-- a list's words: the good ones out of the method's own list, the others by premises of their own -/
theorem vx_hat {args : Array Value} {s : State} {L B : List Cond} (h1 : ∀ w ∈ L.filter goodWord, w.before args s = true) (h2 : ∀ w ∈ L.filter (fun w => !goodWord w), w ∈ B) (h3 : ∀ w ∈ B, w.before args s = true) : ∀ w ∈ L, w.before args s = true := by
  intro w hw
  by_cases g : goodWord w = true
  · exact h1 w (List.mem_filter.mpr ⟨hw, g⟩)
  · refine h3 w (h2 w (List.mem_filter.mpr ⟨hw, ?_⟩))
    show (!goodWord w) = true
    cases hgw : goodWord w
    · rfl
    · exact absurd hgw g
theorem vx_c {args : Array Value} {s : State} {w : Cond} {B : List Cond} (h : w.before args s = true) (t : ∀ w ∈ B, w.before args s = true) : ∀ w' ∈ w :: B, w'.before args s = true := fun w' h' => (List.mem_cons.mp h').elim (fun e => by rw [e]; exact h) (t w')
theorem vx_n {args : Array Value} {s : State} : ∀ w ∈ ([] : List Cond), w.before args s = true := fun _ h => nomatch h
theorem vx_own {args : Array Value} {s : State} {L : List Cond} (h1 : ∀ w ∈ L.filter vx_no, w.before args s = true)
    (hU : (Cond.isRef (.static Bundle.tN "UNASSIGNED_STACK" Bundle.steD)).before args s = true) (hN : (Cond.isRef (.static Bundle.tN "SUPPRESSED_SENTINEL" Bundle.listD)).before args s = true)
    (lU : (Cond.laysStatic Bundle.tN "UNASSIGNED_STACK" Bundle.steD).before args s = true) (lN : (Cond.laysStatic Bundle.tN "SUPPRESSED_SENTINEL" Bundle.listD).before args s = true) : ∀ w ∈ L, w.before args s = true := by
  intro w hw
  by_cases e1 : w = .isRef (.static Bundle.tN "UNASSIGNED_STACK" Bundle.steD)
  · rw [e1]; exact hU
  · by_cases e2 : w = .isRef (.static Bundle.tN "SUPPRESSED_SENTINEL" Bundle.listD)
    · rw [e2]; exact hN
    · by_cases e3 : w = .laysStatic Bundle.tN "UNASSIGNED_STACK" Bundle.steD
      · rw [e3]; exact lU
      · by_cases e4 : w = .laysStatic Bundle.tN "SUPPRESSED_SENTINEL" Bundle.listD
        · rw [e4]; exact lN
        · exact h1 w (List.mem_filter.mpr ⟨hw, by unfold vx_no; rw [decide_eq_true e1, decide_eq_true e2, decide_eq_true e3, decide_eq_true e4]; rfl⟩)
/-- where a static field lies, its class's statics cell in H -/
def vx_L (C n d : String) (A : Nat → Prop) (U : State) (H : Heap) : Prop := ∃ (c : ClassId) (k : Class) (i : Nat) (f : Field) (a : Nat) (cell : Cell), U.vm.findClass C = some c ∧ U.fieldFound? C n d = some (c, k, i, f) ∧ f.isStatic = true ∧ k.statics = some a ∧ H[a]? = some cell ∧ cell.vm.isStatics = true ∧ cell.cls = c ∧ f.slot < cell.slots.size ∧ k.staticTypes[f.slot]? = some f.type ∧ ¬ A a
theorem vx_L.moved {C n d : String} {A : Nat → Prop} {u U : State} {H : Heap} (hvm : u.vm.Alike U.vm) (h : vx_L C n d A u H) : vx_L C n d A U H := by
  obtain ⟨c, k, i, f, a, cell, h1, h2, h3, h4, h5, h6, h7, h8, h9, h10⟩ := h
  obtain ⟨k', hi', he⟩ := State.fieldFound?_setVm hvm h2
  exact ⟨c, k', i, f, a, cell, by rw [hvm.findClass]; exact h1, hi', h3, by rw [he]; exact h4, h5, h6, h7, h8, by rw [he]; exact h9, h10⟩
theorem vx_L.kept {C n d : String} {A : Nat → Prop} {U : State} {H H1 : Heap} (h : vx_L C n d A U H) (hq : ∀ a : Nat, a < H.size → ¬ A a → H1[a]? = H[a]?) : vx_L C n d A U H1 := by
  obtain ⟨c, k, i, f, a, cell, h1, h2, h3, h4, h5, h6, h7, h8, h9, h10⟩ := h
  exact ⟨c, k, i, f, a, cell, h1, h2, h3, h4, by rw [hq a (Array.getElem?_eq_some_iff.mp h5).1 h10]; exact h5, h6, h7, h8, h9, h10⟩
theorem vx_L.narrow {C n d : String} {A B : Nat → Prop} {U : State} {H : Heap} (h : vx_L C n d A U H) (hAB : ∀ q, B q → A q) : vx_L C n d B U H := by
  obtain ⟨c, k, i, f, a, cell, h1, h2, h3, h4, h5, h6, h7, h8, h9, h10⟩ := h
  exact ⟨c, k, i, f, a, cell, h1, h2, h3, h4, h5, h6, h7, h8, h9, fun z => h10 (hAB _ z)⟩
theorem vx_L.word {C n d : String} {A : Nat → Prop} {s : State} {args : Array Value} (h : vx_L C n d A s s.heap) : (Cond.laysStatic C n d).before args s = true := by
  obtain ⟨c, k, i, f, a, cell, h1, h2, h3, h4, h5, h6, h7, h8, h9, -⟩ := h
  show (Cond.laysStatic C n d).holds args s none s [] = true
  exact Cond.laysStatic_of h1 h2 h3 h4 h5 h6 h7 h8 h9
/-- .. and what it holds: null or some reference -/
def vx_Zq (C n d : String) (A : Nat → Prop) (U : State) (H : Heap) : Prop := va_Zq C n d A U H ∧ vx_L C n d A U H
theorem vx_Zq.moved {C n d : String} {A : Nat → Prop} {u U : State} {H : Heap} (hvm : u.vm.Alike U.vm) (h : vx_Zq C n d A u H) : vx_Zq C n d A U H := ⟨va_Zq.moved hvm h.1, vx_L.moved hvm h.2⟩
theorem vx_Zq.kept {C n d : String} {A : Nat → Prop} {U : State} {H H1 : Heap} (h : vx_Zq C n d A U H) (hq : ∀ a : Nat, a < H.size → ¬ A a → H1[a]? = H[a]?) : vx_Zq C n d A U H1 := ⟨va_Zq.kept h.1 hq, vx_L.kept h.2 hq⟩
theorem vx_Zq.narrow {C n d : String} {A B : Nat → Prop} {U : State} {H : Heap} (h : vx_Zq C n d A U H) (hAB : ∀ q, B q → A q) : vx_Zq C n d B U H := ⟨va_Zq.narrow h.1 hAB, vx_L.narrow h.2 hAB⟩
theorem vx_Zqof {args : Array Value} {s : State} {C n d : String} {A : Nat → Prop} (hl : (Cond.laysStatic C n d).before args s = true) (hini : (Cond.initialized C).before args s = true) (h : (Cond.isRef (.static C n d)).before args s = true) (hA : ∀ a : Nat, a < s.heap.size → ¬ A a) : vx_Zq C n d A s s.heap := by
  refine ⟨va_Zqof hl hini h hA, ?_⟩
  obtain ⟨c, k, i, f, a, cell, h1, h2, h3, h4, h5, h6, h7, h8, h9⟩ := Cond.laysStatic_spec hl
  exact ⟨c, k, i, f, a, cell, h1, h2, h3, h4, h5, h6, h7, h8, h9, hA a (Array.getElem?_eq_some_iff.mp h5).1⟩
theorem vx_isRef {C n d : String} {v : Value} {A : Nat → Prop} {s : State} {args : Array Value} (h : va_Z C n d v A s s.heap) (hv : v.isRef = true) : (Cond.isRef (.static C n d)).before args s = true := by
  obtain ⟨cf, kf, fi, f, a, cell, h1, h2, h3, h4, h5, h6, h7, -⟩ := h
  have he : (Term.static C n d).eval args s none [] s = some v := by
    simp [Term.eval, State.fieldNamed?, h1, h2, h4, h5, h6, h7]
  simp only [Cond.before, Cond.holds, Cond.value, he]
  cases v <;> simp_all [Value.isRef]
theorem vx_isRefq {C n d : String} {A : Nat → Prop} {s : State} {args : Array Value} (h : va_Zq C n d A s s.heap) : (Cond.isRef (.static C n d)).before args s = true := by
  rcases h with h | ⟨t, h⟩
  · exact vx_isRef h rfl
  · exact vx_isRef h rfl
/-- the same frame, seen from here: as if the method were called anew in this heap -/
theorem vx_rebase {T : State} (X : Stand p l e R s m args below meth c T locs cells slots) {R' : Room} (hf : R'.frames ≤ R.frames) (hl : R'.locals ≤ R.locals) (hc : cells + R'.cells ≤ R.cells) (hs : slots + R'.slots ≤ R.slots) :
    Stand p l e R' ((T.setVm s.vm).setFrames (.invoking m args :: below)) m args below meth c T [] 0 0 := by
  have htop : (T.setVm s.vm).topJava?.isSome := X.here.top
  have hF : ((T.setVm s.vm).setFrames (.invoking m args :: below)).frames = .invoking m args :: below := State.frames_setFrames _ (State.cur_lt_of_top htop)
  obtain ⟨g₀, hg0⟩ := Option.isSome_iff_exists.mp htop
  obtain ⟨r, hr⟩ := State.topJava?_eq_some.mp hg0
  have hl9 : e.platform.stackLimits (T.setVm s.vm).me = e.platform.stackLimits s.me := X.limits
  have hb9 : (T.setVm s.vm).me.stackBytes = s.me.stackBytes := X.bytes
  refine ⟨X.admits, X.cas, X.clock, hF, ?_, X.hears, X.method, X.code, X.here, X.tail, X.warmed, ?_, ?_, ?_⟩
  · have h := X.room
    have hU : ((T.setVm s.vm).setFrames (.invoking m args :: below)).localsInUse = s.localsInUse := by
      rw [State.localsInUse_invoking hF (meth := meth) (c := c) X.method X.code, State.localsInUse_invoking X.frames X.method X.code]
    simp only [State.hasRoom, Bool.and_eq_true, decide_eq_true_eq] at h ⊢
    obtain ⟨⟨⟨⟨h1, h2, h3, h4, h5, h6⟩, h7⟩, h8⟩, h9⟩ := h
    rw [X.frames, List.length_cons] at h2 h3
    have q1 := X.heapSize
    have q2 := X.used
    simp only [hF, hU, List.length_cons, State.stackLimits_setFrames, State.stackBytes_setFrames, hl9, hb9]
    refine ⟨⟨⟨⟨by omega, by omega, by omega, by omega, by omega, h6⟩, ?_⟩, ?_⟩, X.book⟩
    · show T.heap.size + R'.cells ≤ e.platform.maxCells
      omega
    · show T.slotsUsed + R'.slots ≤ e.platform.maxSlots
      omega
  · rw [State.stackLimits_setFrames]; rfl
  · rw [State.stackBytes_setFrames]; rfl
  · refine ⟨?_, Nat.le_refl _, Nat.le_refl _, ?_, ?_, fun a c9 h9 => ⟨c9, h9, rfl, rfl, fun _ _ => rfl⟩⟩
    · obtain ⟨t, ht, -⟩ := State.frames_cons hr
      show T.setVm s.vm = { ((T.setVm s.vm).setFrames (.invoking m args :: below)).setFrames (T.setVm s.vm).frames with heap := T.heap, slotsUsed := T.slotsUsed }
      rw [State.setFrames_setFrames, State.setFrames_self ht]
      rfl
    · show T.slotsUsed = T.slotsUsed + ((T.heap.toList.drop T.heap.size).map (·.slots.size)).sum
      rw [List.drop_eq_nil_of_le (Nat.le_of_eq Array.length_toList)]
      rfl
    · show ((T.heap.toList.drop T.heap.size).map (·.slots.size)).sum ≤ 0
      rw [List.drop_eq_nil_of_le (Nat.le_of_eq Array.length_toList)]
      exact Nat.le_refl _
/-- 'throw new E()': new; dup; invokespecial; athrow -/
theorem vx_throw0 {cc : ByteArray} {pc : Nat} (hexec : p.tables.exec = Jvm.exec) (hb : c.code = cc) (hl : l.stackTraces = false) {own cls : String} {names : List String} {ik ic mc ms : Nat} {A : Nat → Prop}
    (hown : s.vm.findClass own = some m.cls) (hcls : Bundle.fit cls = true) (hnames : ∀ n ∈ names, Bundle.fit n = true)
    (hk : (Cond.classLink own ik cls).before args s = true) (hini : (Cond.initialized cls).before args s = true) (hat : ∀ w ∈ vx_at0 own ic cls names, w.before args s = true)
    (hgood : ∀ w ∈ Cond.classLink own ik cls :: Cond.initialized cls :: vx_at0 own ic cls names, vx_ot w = true)
    (hU : vx_Zq Bundle.tN "UNASSIGNED_STACK" Bundle.steD A s s.heap) (hN : vx_Zq Bundle.tN "SUPPRESSED_SENTINEL" Bundle.listD A s s.heap) (hS : va_S A s.heap H locs) (hsize : ls.size = c.maxLocals)
    (d0 : decode cc pc = .ok (.new ik, 3)) (d3 : decode cc (pc + 3) = .ok (.dup, 1)) (d4 : decode cc (pc + 4) = .ok (.invokespecial ic, 3)) (d7 : decode cc (pc + 7) = .ok (.athrow, 1))
    (hout : ∀ x ∈ c.exceptionTable.toList, covers x (pc + 7) = false)
    (hRframes : names.length + 3 < R.frames) (hRlocals : (rest.map fun v => v.category).sum + (13 * (names.length + 1) + 42) ≤ R.locals) (hRcells : cells + 1 ≤ R.cells) (hRslots : slots + 6 ≤ R.slots) (hlocks : meth.locks = false)
    (hx : ∀ t : State, s.vm.Alike t.vm → H.size ≤ t.heap.size → (∀ q : Nat, q < H.size → t.heap[q]? = H[q]?) → XC cls s t)
    (hf : ∀ z ∈ locs, free z.base) (hc : cells + 1 ≤ mc) (hs : slots + 6 ≤ ms) :
    W p l e R s m args below meth c H locs cells slots (vx_MQ below Qc XC args s mc ms free) (F0 m pc ls rest) := by
  intro T hT X
  have htr : e.platform.stackTraces = false := (show e.platform.stackTraces = l.stackTraces by rw [X.admits.platform]).trans hl
  have Y := vx_rebase X (R' := { frames := R.frames, locals := R.locals, cells := 1, slots := 6 }) (Nat.le_refl _) (Nat.le_refl _) hRcells hRslots
  obtain ⟨s', hA⟩ : ∃ z, z = (T.setVm s.vm).setFrames (.invoking m args :: below) := ⟨_, rfl⟩
  rw [← hA] at Y
  have hvm : s'.vm = s.vm := by rw [hA]; rfl
  have hhp : s'.heap = H := by rw [hA]; exact hT
  have hW0 : s.WarmedH s'.vm := by rw [hvm]; exact State.WarmedH.refl s
  have hat' : ∀ w ∈ vx_at0 own ic cls names, w.before args s' = true := fun w hw => vx_ot_at hW0 hvm.symm (hgood w (List.mem_cons_of_mem _ (List.mem_cons_of_mem _ hw))) (hat w hw)
  have hk' : (Cond.classLink own ik cls).before args s' = true := vx_ot_at hW0 hvm.symm (hgood _ List.mem_cons_self) hk
  have hini' : (Cond.initialized cls).before args s' = true := vx_ot_at hW0 hvm.symm (hgood _ (List.mem_cons_of_mem _ List.mem_cons_self)) hini
  have hU' : vx_Zq Bundle.tN "UNASSIGNED_STACK" Bundle.steD A s' s'.heap := by rw [hhp]; exact vx_Zq.moved hW0.alike (hU.kept hS.2.1)
  have hN' : vx_Zq Bundle.tN "SUPPRESSED_SENTINEL" Bundle.listD A s' s'.heap := by rw [hhp]; exact vx_Zq.moved hW0.alike (hN.kept hS.2.1)
  have h : ∀ w ∈ Bundle.ownAtoms0 own ic cls names, w.before args s' = true := vx_own hat' (vx_isRefq hU'.1) (vx_isRefq hN'.1) hU'.2.word hN'.2.word
  have hown' : s'.vm.findClass own = some m.cls := by rw [hvm]; exact hown
  have hins : (Cond.instantiable cls 6).before args s' = true := h _ (by simp [Bundle.ownAtoms0])
  obtain ⟨vm₁, cX, kX, hfX, hkX, -, -, X₁, st1⟩ := Y.newCold hexec (own := own) (C := cls) (index := ik) (n := 6) hown' hk' hins hini'
    (g := F0 m pc ls rest) rfl (by rw [hb]; exact d0) (Nat.le_refl _) (Nat.le_refl _)
  generalize hT1 : (T.setVm vm₁).pushCell { cls := cX, slots := kX.instanceTypes.map defaultValue, vm := .none } = T1 at X₁ st1
  have hcat : (Value.ref T.heap.size).category = 1 := rfl
  have hcellA : T1.heap[T.heap.size]? = some (freshCell cX kX) := by rw [← hT1]; exact State.heap_pushCell_size _ _
  have d3' : decode c.code (pc + 3) = .ok (.dup, 1) := by rw [hb]; exact d3
  obtain ⟨U, hsteps, hrun, hend, hW, hsame, ce, hce, hO⟩ := X₁.ctorThrow0 hexec htr (own := own) (cls := cls) (names := names) (ic := ic) hown' hcls hnames h (fun x hx => nomatch hx) hfX hkX hcellA (by rw [hhp, hT]; exact Nat.le_refl _)
    (g := { method := m, pc := pc + 4, locals := ls, stack := .ref T.heap.size :: .ref T.heap.size :: rest, locked := none }) rfl hsize rfl rfl (rest := rest) rfl
    (by rw [hb]; exact d4) (by rw [hb]; exact d7) hout hRframes (by simp only [List.map_cons, List.sum_cons, hcat]; omega) hlocks
  obtain ⟨f1, f2⟩ := vx_frame hsame
  rw [hhp] at f1 f2
  have hWs : s.WarmedH U.vm := State.WarmedH.trans hW0 hW
  have hcl : s.vm.findClass cls = some ce.cls := by
    have h9 := hO.cls
    rw [hvm] at h9
    exact h9
  have hall : s.sameButNew ({ U with vm := s.vm } : State) locs mc ms := by
    subst hA
    obtain ⟨e1, e2⟩ := hsame
    rw [State.setFrames_setFrames] at e1
    have h2 : (T.setVm s.vm).sameButNew ({ U with vm := s.vm } : State) [] (0 + 1) (0 + 6) := ⟨e1, e2⟩
    have h3 := X.same.trans h2
    rw [List.append_nil] at h3
    exact h3.mono hc hs
  refine ⟨U, ?_, .threw T.heap.size, hrun, hend, Or.inr ⟨T.heap.size, rfl, cls, ce, locs, hx U hWs.alike f1 (fun q hq => f2 q hq (fun z hz => nomatch hz)), hce, hO.vm, hcl, hWs, hall, hf⟩⟩
  refine st1 _ ?_
  show Steps p.tables e below (T1.setTop { method := m, pc := pc + 3, locals := ls, stack := .ref T.heap.size :: rest, locked := none }) _
  jvm_step X₁.here [X₁.here.top, hexec, d3', Value.category]
  exact hsteps
/-- 'throw new E("text")': new; dup; ldc; invokespecial; athrow -/
theorem vx_throwS {cc : ByteArray} {pc : Nat} (hexec : p.tables.exec = Jvm.exec) (hb : c.code = cc) (hl : l.stackTraces = false) {own cls text : String} {names : List String} {ik is ic mc ms sa : Nat} {A : Nat → Prop}
    (hown : s.vm.findClass own = some m.cls) (hcls : Bundle.fit cls = true) (hnames : ∀ n ∈ names, Bundle.fit n = true)
    (hk : (Cond.classLink own ik cls).before args s = true) (hini : (Cond.initialized cls).before args s = true) (hstr : vk_R own is text sa s) (hat : ∀ w ∈ vx_atS own ic cls names, w.before args s = true)
    (hgood : ∀ w ∈ Cond.classLink own ik cls :: Cond.initialized cls :: vx_atS own ic cls names, vx_ot w = true)
    (hU : vx_Zq Bundle.tN "UNASSIGNED_STACK" Bundle.steD A s s.heap) (hN : vx_Zq Bundle.tN "SUPPRESSED_SENTINEL" Bundle.listD A s s.heap) (hS : va_S A s.heap H locs) (hsize : ls.size = c.maxLocals)
    (d0 : decode cc pc = .ok (.new ik, 3)) (d3 : decode cc (pc + 3) = .ok (.dup, 1)) (d4 : decode cc (pc + 4) = .ok (.ldc is, 2)) (d6 : decode cc (pc + 6) = .ok (.invokespecial ic, 3)) (d9 : decode cc (pc + 9) = .ok (.athrow, 1))
    (hout : ∀ x ∈ c.exceptionTable.toList, covers x (pc + 9) = false)
    (hRframes : names.length + 3 < R.frames) (hRlocals : (rest.map fun v => v.category).sum + (13 * (names.length + 1) + 43) ≤ R.locals) (hRcells : cells + 1 ≤ R.cells) (hRslots : slots + 6 ≤ R.slots) (hlocks : meth.locks = false)
    (hx : ∀ t : State, s.vm.Alike t.vm → H.size ≤ t.heap.size → (∀ q : Nat, q < H.size → t.heap[q]? = H[q]?) → XC cls s t)
    (hf : ∀ z ∈ locs, free z.base) (hc : cells + 1 ≤ mc) (hs : slots + 6 ≤ ms) :
    W p l e R s m args below meth c H locs cells slots (vx_MQ below Qc XC args s mc ms free) (F0 m pc ls rest) := by
  intro T hT X
  have htr : e.platform.stackTraces = false := (show e.platform.stackTraces = l.stackTraces by rw [X.admits.platform]).trans hl
  have Y := vx_rebase X (R' := { frames := R.frames, locals := R.locals, cells := 1, slots := 6 }) (Nat.le_refl _) (Nat.le_refl _) hRcells hRslots
  obtain ⟨s', hA⟩ : ∃ z, z = (T.setVm s.vm).setFrames (.invoking m args :: below) := ⟨_, rfl⟩
  rw [← hA] at Y
  have hvm : s'.vm = s.vm := by rw [hA]; rfl
  have hhp : s'.heap = H := by rw [hA]; exact hT
  have hW0 : s.WarmedH s'.vm := by rw [hvm]; exact State.WarmedH.refl s
  have hat' : ∀ w ∈ vx_atS own ic cls names, w.before args s' = true := fun w hw => vx_ot_at hW0 hvm.symm (hgood w (List.mem_cons_of_mem _ (List.mem_cons_of_mem _ hw))) (hat w hw)
  have hk' : (Cond.classLink own ik cls).before args s' = true := vx_ot_at hW0 hvm.symm (hgood _ List.mem_cons_self) hk
  have hini' : (Cond.initialized cls).before args s' = true := vx_ot_at hW0 hvm.symm (hgood _ (List.mem_cons_of_mem _ List.mem_cons_self)) hini
  have hU' : vx_Zq Bundle.tN "UNASSIGNED_STACK" Bundle.steD A s' s'.heap := by rw [hhp]; exact vx_Zq.moved hW0.alike (hU.kept hS.2.1)
  have hN' : vx_Zq Bundle.tN "SUPPRESSED_SENTINEL" Bundle.listD A s' s'.heap := by rw [hhp]; exact vx_Zq.moved hW0.alike (hN.kept hS.2.1)
  have h : ∀ w ∈ Bundle.ownAtoms own ic cls names, w.before args s' = true := vx_own hat' (vx_isRefq hU'.1) (vx_isRefq hN'.1) hU'.2.word hN'.2.word
  have hown' : s'.vm.findClass own = some m.cls := by rw [hvm]; exact hown
  have hins : (Cond.instantiable cls 6).before args s' = true := h _ (by simp [Bundle.ownAtoms])
  obtain ⟨vm₁, cX, kX, hfX, hkX, -, -, X₁, st1⟩ := Y.newCold hexec (own := own) (C := cls) (index := ik) (n := 6) hown' hk' hins hini'
    (g := F0 m pc ls rest) rfl (by rw [hb]; exact d0) (Nat.le_refl _) (Nat.le_refl _)
  generalize hT1 : (T.setVm vm₁).pushCell { cls := cX, slots := kX.instanceTypes.map defaultValue, vm := .none } = T1 at X₁ st1
  have hcat : (Value.ref T.heap.size).category = 1 := rfl
  have hcellA : T1.heap[T.heap.size]? = some (freshCell cX kX) := by rw [← hT1]; exact State.heap_pushCell_size _ _
  have d3' : decode c.code (pc + 3) = .ok (.dup, 1) := by rw [hb]; exact d3
  have d4' : decode c.code (pc + 4) = .ok (.ldc is, 2) := by rw [hb]; exact d4
  have hstr' : vk_R own is text sa s' := vk_R.warm hW0 hstr
  obtain ⟨U, hsteps, hrun, hend, hW, hsame, ce, hce, hO⟩ := X₁.ctorThrowS hexec htr (own := own) (cls := cls) (names := names) (ic := ic) hown' hcls hnames h (fun x hx => nomatch hx) hfX hkX hcellA (by rw [hhp, hT]; exact Nat.le_refl _) (msg := .ref sa) rfl
    (g := { method := m, pc := pc + 6, locals := ls, stack := .ref sa :: .ref T.heap.size :: .ref T.heap.size :: rest, locked := none }) rfl hsize rfl rfl (rest := rest) rfl
    (by rw [hb]; exact d6) (by rw [hb]; exact d9) hout hRframes (by simp only [List.map_cons, List.sum_cons, hcat]; omega) hlocks
  obtain ⟨f1, f2⟩ := vx_frame hsame
  rw [hhp] at f1 f2
  have hWs : s.WarmedH U.vm := State.WarmedH.trans hW0 hW
  have hcl : s.vm.findClass cls = some ce.cls := by
    have h9 := hO.cls
    rw [hvm] at h9
    exact h9
  have hall : s.sameButNew ({ U with vm := s.vm } : State) locs mc ms := by
    subst hA
    obtain ⟨e1, e2⟩ := hsame
    rw [State.setFrames_setFrames] at e1
    have h2 : (T.setVm s.vm).sameButNew ({ U with vm := s.vm } : State) [] (0 + 1) (0 + 6) := ⟨e1, e2⟩
    have h3 := X.same.trans h2
    rw [List.append_nil] at h3
    exact h3.mono hc hs
  refine ⟨U, ?_, .threw T.heap.size, hrun, hend, Or.inr ⟨T.heap.size, rfl, cls, ce, locs, hx U hWs.alike f1 (fun q hq => f2 q hq (fun z hz => nomatch hz)), hce, hO.vm, hcl, hWs, hall, hf⟩⟩
  refine st1 _ ?_
  show Steps p.tables e below (T1.setTop { method := m, pc := pc + 3, locals := ls, stack := .ref T.heap.size :: rest, locked := none }) _
  jvm_step X₁.here [X₁.here.top, hexec, d3', Value.category]
  exact X₁.ldcString hexec (own := own) (text := text) (index := is) (a := sa) hown' hstr'.1 hstr'.2
    (g := { method := m, pc := pc + 4, locals := ls, stack := .ref T.heap.size :: .ref T.heap.size :: rest, locked := none }) rfl d4' _ hsteps
/-- 'throw new E("text")', the text by a wide index -/
theorem vx_throwSW {cc : ByteArray} {pc : Nat} (hexec : p.tables.exec = Jvm.exec) (hb : c.code = cc) (hl : l.stackTraces = false) {own cls text : String} {names : List String} {ik is ic mc ms sa : Nat} {A : Nat → Prop}
    (hown : s.vm.findClass own = some m.cls) (hcls : Bundle.fit cls = true) (hnames : ∀ n ∈ names, Bundle.fit n = true)
    (hk : (Cond.classLink own ik cls).before args s = true) (hini : (Cond.initialized cls).before args s = true) (hstr : vk_R own is text sa s) (hat : ∀ w ∈ vx_atS own ic cls names, w.before args s = true)
    (hgood : ∀ w ∈ Cond.classLink own ik cls :: Cond.initialized cls :: vx_atS own ic cls names, vx_ot w = true)
    (hU : vx_Zq Bundle.tN "UNASSIGNED_STACK" Bundle.steD A s s.heap) (hN : vx_Zq Bundle.tN "SUPPRESSED_SENTINEL" Bundle.listD A s s.heap) (hS : va_S A s.heap H locs) (hsize : ls.size = c.maxLocals)
    (d0 : decode cc pc = .ok (.new ik, 3)) (d3 : decode cc (pc + 3) = .ok (.dup, 1)) (d4 : decode cc (pc + 4) = .ok (.ldc_w is, 3)) (d7 : decode cc (pc + 7) = .ok (.invokespecial ic, 3)) (d10 : decode cc (pc + 10) = .ok (.athrow, 1))
    (hout : ∀ x ∈ c.exceptionTable.toList, covers x (pc + 10) = false)
    (hRframes : names.length + 3 < R.frames) (hRlocals : (rest.map fun v => v.category).sum + (13 * (names.length + 1) + 43) ≤ R.locals) (hRcells : cells + 1 ≤ R.cells) (hRslots : slots + 6 ≤ R.slots) (hlocks : meth.locks = false)
    (hx : ∀ t : State, s.vm.Alike t.vm → H.size ≤ t.heap.size → (∀ q : Nat, q < H.size → t.heap[q]? = H[q]?) → XC cls s t)
    (hf : ∀ z ∈ locs, free z.base) (hc : cells + 1 ≤ mc) (hs : slots + 6 ≤ ms) :
    W p l e R s m args below meth c H locs cells slots (vx_MQ below Qc XC args s mc ms free) (F0 m pc ls rest) := by
  intro T hT X
  have htr : e.platform.stackTraces = false := (show e.platform.stackTraces = l.stackTraces by rw [X.admits.platform]).trans hl
  have Y := vx_rebase X (R' := { frames := R.frames, locals := R.locals, cells := 1, slots := 6 }) (Nat.le_refl _) (Nat.le_refl _) hRcells hRslots
  obtain ⟨s', hA⟩ : ∃ z, z = (T.setVm s.vm).setFrames (.invoking m args :: below) := ⟨_, rfl⟩
  rw [← hA] at Y
  have hvm : s'.vm = s.vm := by rw [hA]; rfl
  have hhp : s'.heap = H := by rw [hA]; exact hT
  have hW0 : s.WarmedH s'.vm := by rw [hvm]; exact State.WarmedH.refl s
  have hat' : ∀ w ∈ vx_atS own ic cls names, w.before args s' = true := fun w hw => vx_ot_at hW0 hvm.symm (hgood w (List.mem_cons_of_mem _ (List.mem_cons_of_mem _ hw))) (hat w hw)
  have hk' : (Cond.classLink own ik cls).before args s' = true := vx_ot_at hW0 hvm.symm (hgood _ List.mem_cons_self) hk
  have hini' : (Cond.initialized cls).before args s' = true := vx_ot_at hW0 hvm.symm (hgood _ (List.mem_cons_of_mem _ List.mem_cons_self)) hini
  have hU' : vx_Zq Bundle.tN "UNASSIGNED_STACK" Bundle.steD A s' s'.heap := by rw [hhp]; exact vx_Zq.moved hW0.alike (hU.kept hS.2.1)
  have hN' : vx_Zq Bundle.tN "SUPPRESSED_SENTINEL" Bundle.listD A s' s'.heap := by rw [hhp]; exact vx_Zq.moved hW0.alike (hN.kept hS.2.1)
  have h : ∀ w ∈ Bundle.ownAtoms own ic cls names, w.before args s' = true := vx_own hat' (vx_isRefq hU'.1) (vx_isRefq hN'.1) hU'.2.word hN'.2.word
  have hown' : s'.vm.findClass own = some m.cls := by rw [hvm]; exact hown
  have hins : (Cond.instantiable cls 6).before args s' = true := h _ (by simp [Bundle.ownAtoms])
  obtain ⟨vm₁, cX, kX, hfX, hkX, -, -, X₁, st1⟩ := Y.newCold hexec (own := own) (C := cls) (index := ik) (n := 6) hown' hk' hins hini'
    (g := F0 m pc ls rest) rfl (by rw [hb]; exact d0) (Nat.le_refl _) (Nat.le_refl _)
  generalize hT1 : (T.setVm vm₁).pushCell { cls := cX, slots := kX.instanceTypes.map defaultValue, vm := .none } = T1 at X₁ st1
  have hcat : (Value.ref T.heap.size).category = 1 := rfl
  have hcellA : T1.heap[T.heap.size]? = some (freshCell cX kX) := by rw [← hT1]; exact State.heap_pushCell_size _ _
  have d3' : decode c.code (pc + 3) = .ok (.dup, 1) := by rw [hb]; exact d3
  have d4' : decode c.code (pc + 4) = .ok (.ldc_w is, 3) := by rw [hb]; exact d4
  have hstr' : vk_R own is text sa s' := vk_R.warm hW0 hstr
  obtain ⟨U, hsteps, hrun, hend, hW, hsame, ce, hce, hO⟩ := X₁.ctorThrowS hexec htr (own := own) (cls := cls) (names := names) (ic := ic) hown' hcls hnames h (fun x hx => nomatch hx) hfX hkX hcellA (by rw [hhp, hT]; exact Nat.le_refl _) (msg := .ref sa) rfl
    (g := { method := m, pc := pc + 7, locals := ls, stack := .ref sa :: .ref T.heap.size :: .ref T.heap.size :: rest, locked := none }) rfl hsize rfl rfl (rest := rest) rfl
    (by rw [hb]; exact d7) (by rw [hb]; exact d10) hout hRframes (by simp only [List.map_cons, List.sum_cons, hcat]; omega) hlocks
  obtain ⟨f1, f2⟩ := vx_frame hsame
  rw [hhp] at f1 f2
  have hWs : s.WarmedH U.vm := State.WarmedH.trans hW0 hW
  have hcl : s.vm.findClass cls = some ce.cls := by
    have h9 := hO.cls
    rw [hvm] at h9
    exact h9
  have hall : s.sameButNew ({ U with vm := s.vm } : State) locs mc ms := by
    subst hA
    obtain ⟨e1, e2⟩ := hsame
    rw [State.setFrames_setFrames] at e1
    have h2 : (T.setVm s.vm).sameButNew ({ U with vm := s.vm } : State) [] (0 + 1) (0 + 6) := ⟨e1, e2⟩
    have h3 := X.same.trans h2
    rw [List.append_nil] at h3
    exact h3.mono hc hs
  refine ⟨U, ?_, .threw T.heap.size, hrun, hend, Or.inr ⟨T.heap.size, rfl, cls, ce, locs, hx U hWs.alike f1 (fun q hq => f2 q hq (fun z hz => nomatch hz)), hce, hO.vm, hcl, hWs, hall, hf⟩⟩
  refine st1 _ ?_
  show Steps p.tables e below (T1.setTop { method := m, pc := pc + 3, locals := ls, stack := .ref T.heap.size :: rest, locked := none }) _
  jvm_step X₁.here [X₁.here.top, hexec, d3', Value.category]
  exact X₁.ldcStringW hexec (own := own) (text := text) (index := is) (a := sa) hown' hstr'.1 hstr'.2
    (g := { method := m, pc := pc + 4, locals := ls, stack := .ref T.heap.size :: .ref T.heap.size :: rest, locked := none }) rfl d4' _ hsteps
end Ends
section Bodies
variable {l : Launch}
theorem vx_ofW {y : MethodName} {ws ws' : List Cond} {rm : Room} {Pc : Array Value → State → Prop} {Qc : Array Value → State → Outcome → State → Prop} {XC : String → State → State → Prop} {mc ms : Nat} {free : Addr → Prop} {cc : ByteArray} {maxL : Nat} {ret : Option FieldType}
    (hy : plainName y.cls = true) (hw : ws = Cond.code y cc maxL ret :: ws')
    (body : ∀ p e s m args below meth c s₁, BodyLoose p l y (headSpec ws rm) cc maxL ret e s m args below meth c s₁ → c.maxLocals = maxL → (∀ x ∈ c.exceptionTable.toList, False) → Pc args s →
      W p l e (headSpec ws rm).room s m args below meth c s.heap [] 0 0 (vx_MQ below Qc XC args s mc ms free) (entryFrame m args maxL)) : vx_Met l y ws rm Pc Qc XC mc ms free := by
  refine MetFree.of_bodyS (code := cc) (maxLocals := maxL) (ret := ret) hy ?_ ?_
  · intro args s m h hn
    obtain ⟨meth, c, h1, h2, h3, h4, h5, h6, -, -⟩ := Cond.code_spec hn (atoms_spec (ws := ws) h _ (by rw [hw]; exact List.mem_cons_self))
    exact ⟨meth, c, h1, h2, h3, h4, h5, h6⟩
  · intro p e s m args below meth c s₁ B hml hP _
    have hh0 : s₁.heap = s.heap := by rw [B.state]; rfl
    have ht : ∀ x ∈ c.exceptionTable.toList, False := by
      obtain ⟨meth9, c9, h1, h2, -, -, -, -, h7, -⟩ := Cond.code_spec B.named (atoms_spec (ws := ws) B.pre _ (by rw [hw]; exact List.mem_cons_self))
      cases Option.some.inj (h1.symm.trans B.method)
      cases Option.some.inj (h2.symm.trans (Stand.of_body B).code)
      intro x hx
      rw [Array.isEmpty_iff.mp h7] at hx
      cases hx
    obtain ⟨t, a1, o, b1, b2, b3⟩ := body p e s m args below meth c s₁ B hml ht hP s₁ hh0 (Stand.of_body B)
    exact ⟨t, o, a1, b1, b2, b3⟩
/-- the table of a body with handlers -/
theorem vx_table {p : Program} {x y : MethodName} {S : Spec} {cc bytes : ByteArray} {maxL maxL' : Nat} {ret ret' : Option FieldType} {e : Env} {s s₁ : State} {m : MethodId} {args : Array Value} {below : List Frame} {meth : Method} {c : Code} {hh : List (Nat × Nat × Nat × Nat)}
    (B : BodyLoose p l y S cc maxL ret e s m args below meth c s₁) (h : (Cond.codeWith y bytes maxL' ret' hh).before args s = true) : c.exceptionTable.toList = tableOf hh := by
  obtain ⟨m9, meth9, c9, hn9, h1, h2, -, -, h6, -⟩ := Cond.codeWith_spec h
  cases Option.some.inj (hn9.symm.trans B.named)
  cases Option.some.inj (h1.symm.trans B.method)
  cases Option.some.inj (h2.symm.trans (Stand.of_body B).code)
  rw [← h6, table_eq]
end Bodies
end VXA
/-! ===== END ===== -/
/-! ===== BEGIN a static call of a method with an exception table ===== -/
section VXS
variable {p : Program} {l : Launch} {e : Env} {R : Room} {s : State} {m : MethodId} {args : Array Value} {below : List Frame} {meth : Method} {c : Code} {T : State} {H : Heap} {locs : List Loc} {cells slots : Nat}
abbrev vx_CSW (R : Room) (s : State) (args : Array Value) (own : String) (index : Nat) (y : MethodName) (bytes : ByteArray) (maxL : Nat) (ret : Option FieldType) (hh : List (Nat × Nat × Nat × Nat)) (ws : List Cond) (rm : Room) (mc ms n : Nat) : Prop :=
  (rm.cells = mc ∧ rm.slots = ms ∧ rm.frames + 1 ≤ R.frames ∧ 8 + (maxL + 11) + rm.locals ≤ R.locals ∧ (∀ w ∈ ws, ∀ (a' : Array Value) (U : State), s.WarmedH U.vm → w.before a' U = true) ∧ Cond.codeWith y bytes maxL ret hh ∈ ws) ∧
  (Cond.codeWith y bytes maxL ret hh).before args s = true ∧ (Cond.initialized y.cls).before args s = true ∧ (y.cls ≠ "java/lang/invoke/MethodHandle" ∧ y.cls ≠ "java/lang/invoke/VarHandle") ∧
  (∀ sig, parseMethodDescriptor y.desc = some sig → n = sig.parameters.length) ∧ (Cond.methodLink own index y).before args s = true ∧ (Cond.static y).before args s = true
theorem vx_cwSW {own : String} {index maxL mc ms : Nat} {y : MethodName} {bytes : ByteArray} {ret : Option FieldType} {hh : List (Nat × Nat × Nat × Nat)} {Ts ws ws' : List Cond} {rm : Room} (n : Nat) (ht : ∀ w ∈ Ts, w.before args s = true) (hT : GoodIn Ts (va_wsS own index y ws)) (hw : ws = Cond.codeWith y bytes maxL ret hh :: ws') (hrc : rm.cells = mc) (hrs : rm.slots = ms)
    (hd : y.cls ≠ "java/lang/invoke/MethodHandle" ∧ y.cls ≠ "java/lang/invoke/VarHandle" ∧ (parseMethodDescriptor y.desc).map (fun d => d.parameters.length) = some n) (hR : rm.frames + 1 ≤ R.frames ∧ 8 + (maxL + 11) + rm.locals ≤ R.locals) :
    vx_CSW R s args own index y bytes maxL ret hh ws rm mc ms n := by
  have ok : ∀ w ∈ va_wsS own index y ws, w.before args s = true := fun w h => ht w (hT w h).1
  have hG : GoodIn Ts ws := fun w h => hT w (by unfold va_wsS; exact List.mem_append_right _ h)
  have hc : Cond.codeWith y bytes maxL ret hh ∈ ws := by rw [hw]; exact List.mem_cons_self
  refine ⟨⟨hrc, hrs, hR.1, hR.2, pay_in ht hG, hc⟩, ht _ (hG _ hc).1, ok _ (by simp [va_wsS]), ⟨hd.1, hd.2.1⟩, fun sig h => ?_, ok _ (by simp [va_wsS]), ok _ (by simp [va_wsS])⟩
  have h2 := hd.2.2
  rw [h] at h2
  exact (Option.some.inj h2).symm
theorem vx_callSW (X : Stand p l e R s m args below meth c T locs cells slots) (hexec : p.tables.exec = Jvm.exec) {own : String} {index : Nat} {y : MethodName} {bytes : ByteArray} {maxL : Nat} {ret : Option FieldType} {hh : List (Nat × Nat × Nat × Nat)}
    (hown : s.vm.findClass own = some m.cls) (hlink : (Cond.methodLink own index y).before args s = true) (hstat : (Cond.static y).before args s = true) (hinit : (Cond.initialized y.cls).before args s = true)
    (hcode : (Cond.codeWith y bytes maxL ret hh).before args s = true) (hy : y.cls ≠ "java/lang/invoke/MethodHandle" ∧ y.cls ≠ "java/lang/invoke/VarHandle")
    {W9 : Nat} {Pre : Pt → Array Value → Prop} {Post : Pt → Array Value → Option Value → Pt → Prop} (hK : Back l R p e below s args y 3 W9 Pre Post)
    {g : JFrame} (hg : g.method = m) (hsize : g.locals.size = c.maxLocals) {argsL rest : List Value} (hlen : ∀ sig, parseMethodDescriptor y.desc = some sig → argsL.length = sig.parameters.length)
    (hstack : g.stack = argsL.reverse ++ rest) (hW : 2 * g.monitorRoom + (rest.map fun v => v.category).sum ≤ W9) (hdg : decode c.code g.pc = .ok (.invokestatic index, 3))
    (hpre : ∀ vm₁, s.WarmedH vm₁ → Pre ⟨T.setVm vm₁, locs, cells, slots⟩ argsL.toArray) :
    ∃ (v : Option Value) (vm₁ : Vm) (B : Pt), s.WarmedH vm₁ ∧ Stand p l e R s m args below meth c B.U B.locs B.cells B.slots ∧ Post ⟨T.setVm vm₁, locs, cells, slots⟩ argsL.toArray v B ∧
      ∀ target, Steps p.tables e below (B.U.setTop { g with pc := g.pc + 3, stack := v.toList ++ rest }) target → Steps p.tables e below (T.setTop g) target := by
  obtain ⟨mk, methM, cM, hnamed, hmethM, -, -, -, -, -, -, hsigM⟩ := Cond.codeWith_spec hcode
  have hstatic : methM.isStatic = true := Cond.static_spec hnamed hmethM hstat
  obtain ⟨kP, hkP, -⟩ := className_of_methodNamed hnamed
  have hinitP : kP.init = .initialized := Cond.initialized_spec (findClass_of_methodNamed hnamed) hkP hinit
  obtain ⟨vm₁, X₁, hstep₁⟩ := X.invokestatic hexec hown hlink hnamed hmethM hstatic hkP hinitP hy (g := g) hg (argsL := argsL) (rest := rest) (hlen _ hsigM) hstack hdg
  obtain ⟨v, B, X', hpost, hsteps⟩ := hK m meth c ⟨T.setVm vm₁, locs, cells, slots⟩ { g with stack := rest } (.invokestatic index) mk argsL.toArray X₁ hg hsize hdg hW (X₁.named hnamed) (hpre vm₁ X₁.warmed)
  exact ⟨v, vm₁, B, X₁.warmed, X', hpost, fun target h => hstep₁ _ fun acts => by rw [doInvoke_state]; exact hsteps.trans h⟩
theorem vx_runSW {y : MethodName} {bytes cc : ByteArray} {maxL nL mc ms n index : Nat} {ret : Option FieldType} {hh : List (Nat × Nat × Nat × Nat)} {ws : List Cond} {rm : Room} {Pc : Array Value → State → Prop} {Qc : Array Value → State → Outcome → State → Prop} {free : Addr → Prop} {Ts : List Cond} {own : String} {As rest : List Value} {g : JFrame}
    (S : CallFix p m c cc nL s args Ts own) (hM : Met l y ws rm Pc Qc mc ms free) (cw : vx_CSW R s args own index y bytes maxL ret hh ws rm mc ms n) (hp : PreS s H Pc As)
    (hg : g.method = m) (hn : As.length = n) (hsize : g.locals.size = nL) (hstack : g.stack = As.reverse ++ rest) (hW : 2 * g.monitorRoom + (rest.map fun v => v.category).sum ≤ 8) (hdg : decode cc g.pc = .ok (.invokestatic index, 3)) (hf : cells + mc ≤ R.cells ∧ slots + ms ≤ R.slots) :
    va_Run p l e R s m args below meth c H locs cells slots mc ms g rest (Qc As.toArray) (free) := by
  obtain ⟨⟨hrc, hrs, hfr, hlo, hws, hcw⟩, hcode, hini, hy, hlen, hl, hstt⟩ := cw
  have hK : Back l R p e below s args y 3 8 (PreOf R mc ms Pc) (PostOf Qc mc ms free) := va_backW (hh := hh) (bytes := bytes) (maxL := maxL) (ret := ret) hM hp.1 hrc hrs hfr hlo hws hcw (fun a' U hW => word_at hW (Or.inl (by first | rfl | simp [Cond.onTables, Cond.keeps, Cond.steady])) hini)
  obtain ⟨hx, hb, hml, ho, -⟩ := S
  intro T hT X
  obtain ⟨v, vm₁, ⟨U', l2, c2, s2⟩, hW₁, X', ⟨g', mk, t, L, e1, e2, hq, h1, hL, h2, h3⟩, st⟩ := vx_callSW X hx (hh := hh) (bytes := bytes) (maxL := maxL) (ret := ret) ho hl hstt hini hcode hy hK hg (hsize.trans hml.symm) (argsL := As) (rest := rest) (fun sig h => hn.trans (hlen sig h)) hstack hW (by rw [hb]; exact hdg)
    (fun vm₁ hW₁ => ⟨hf.1, hf.2, hp.2 (T.setVm vm₁) hT hW₁⟩)
  dsimp only [Pt.U, Pt.locs, Pt.cells, Pt.slots] at X' e1 e2 h1 h2 h3 st
  subst h1; subst h2; subst h3
  exact ⟨v, (T.setVm vm₁).calling g' mk As.toArray, t, U', L, hT, X', hL, e1, e2, hq, st⟩
/-- not caught here, past rows that name other classes: it goes on to the caller -/
theorem vx_outP {p : Program} {l : Launch} {e : Env} {R : Room} {s : State} {m : MethodId} {args : Array Value} {below : List Frame} {meth : Method} {c : Code} {H : Heap} {locs : List Loc} {cells slots : Nat} {free : Addr → Prop} {ls : Array Slot} {rest : List Value} {Qc : Array Value → State → Outcome → State → Prop} {XC : String → State → State → Prop}
    {pc : Nat} {own E : String} {ce : Cell} {q : Addr} {mc ms : Nat} (hown : s.vm.findClass own = some m.cls) (hlocks : meth.locks = false)
    (hpass : ∀ z ∈ c.exceptionTable.toList, covers z pc = false ∨ (z.catchType ≠ 0 ∧ ∃ nm : String, (Cond.classLink own z.catchType nm).before args s = true ∧ va_Nc E nm s)) (hcell : H[q]? = some ce) (hv : ce.vm = .none) (hcl : s.vm.findClass E = some ce.cls)
    (hx : ∀ t : State, t.heap = H → s.vm.Alike t.vm → XC E s t) (hf : ∀ z ∈ locs, free z.base) (hc : cells ≤ mc) (hs : slots ≤ ms) :
    vx_W p l e R s m args below meth c H locs cells slots (vx_MQ below Qc XC args s mc ms free) (F0 m pc ls rest) q := by
  intro T hT X
  have hpl : e.platform.magicAccessors = ({} : Platform).magicAccessors := by rw [X.admits.platform]
  obtain ⟨vm', hW', X', st⟩ := X.outThrough hlocks q (g := F0 m pc ls rest) rfl rfl rfl (cell := ce) (by rw [hT]; exact hcell) (by rw [hv]; rfl)
    (by obtain ⟨k9, h9, -⟩ := Vm.findClass_spec hcl; exact ⟨k9, h9⟩) (fun z hz => by
      rcases hpass z hz with h | ⟨hz0, nm, hl1, hn1⟩
      · exact Or.inl h
      · obtain ⟨c6, hc6, hcl6⟩ := Cond.classLink_spec hown hl1 e.platform hpl
        obtain ⟨a8, b8, h1, h2, h3⟩ := hn1
        cases Option.some.inj (h1.symm.trans hcl)
        cases Option.some.inj (h2.symm.trans hc6)
        exact Or.inr ⟨hz0, _, hcl6, h3⟩)
  obtain ⟨g₀, hfr⟩ := X'.frames_eq
  have hcell9 : ((T.setVm vm').setFrames (.throwing q :: below)).heap[q]? = some ce := by
    show T.heap[q]? = some ce
    rw [hT]; exact hcell
  have hend : Ended ((T.setVm vm').setFrames (.throwing q :: below)) below (.threw q) := State.frames_setFrames _ (State.cur_lt_of_frames hfr)
  refine ⟨(T.setVm vm').setFrames (.throwing q :: below), ?_, .threw q, X'.here.running, hend, Or.inr ⟨q, rfl, E, ce, locs, hx _ hT (X'.ends _).1.alike, hcell9, hv, hcl, (X'.ends _).1, (X'.ends _).2.mono hc hs, hf⟩⟩
  rw [X.pushThrowing_eq]
  exact st
/-- a thing of a world lies in the heap -/
theorem vx_lt {D : va_G} {cl : List vw_C} {ws : va_W} {H1 : Heap} (h : va_P D cl ws H1) {k : Nat} {q : Nat × va_E} (hk : ws[k]? = some q) : q.1 < H1.size := (h k q hk).lt
end VXS
/-! ===== END ===== -/
/-! ===== BEGIN methods with a table of their own: called by a name, returning or throwing ===== -/
section VXH
/-! vx_backW, vx_callVX, vx_callSX, vx_callVW, vx_runVW, vx_runVX, vx_runSX, vx_ofWH follow the same proofs as their sisters above (Free/Laws.lean, Shelf42/LK1.lean); vx_outP calls Shelf42/NT130.lean (outThrough). -/
section
variable {l : Launch} {R : Room} {p : Program} {e : Env} {below : List Frame} {s : State} {sargs : Array Value} {y : MethodName} {len W9 : Nat}
theorem vx_backW {ws : List Cond} {rm : Room} {Pc : Array Value → State → Prop} {Qc : Array Value → State → Outcome → State → Prop} {XC : String → State → State → Prop} {mc ms : Nat} {free : Addr → Prop} {bytes : ByteArray} {maxL : Nat} {ret : Option FieldType} {hh : List (Nat × Nat × Nat × Nat)}
    (hM : vx_Met l y ws rm Pc Qc XC mc ms free) (hblind : FrameBlind Pc) (hrc : rm.cells = mc) (hrs : rm.slots = ms)
    (hframes : rm.frames + 1 ≤ R.frames) (hlocals : W9 + (maxL + 11) + rm.locals ≤ R.locals)
    (hws : ∀ w ∈ ws, ∀ a' U, s.WarmedH U.vm → w.before a' U = true) (hcode : Cond.codeWith y bytes maxL ret hh ∈ ws) (hinit : ∀ a' U, s.WarmedH U.vm → (Cond.initialized y.cls).before a' U = true) :
    vx_Back l R p e below s sargs y len W9 (PreOf R mc ms Pc) (PostOf Qc mc ms free) (vx_Post XC mc ms free) := by
  intro m meth c A g ig mk a X hg hsize hdg hW hn hp
  have h1 : (headSpec ws rm).pre.before a A.U = true := atoms_intro fun w hw => hws w hw _ _ X.warmed
  have h2 : (Cond.codeWith y bytes maxL ret hh).before a A.U = true := hws _ hcode _ _ X.warmed
  have h3 : (Cond.initialized y.cls).before a A.U = true := hinit _ _ X.warmed
  have h4 : A.cells + (headSpec ws rm).room.cells ≤ R.cells := by rw [show (headSpec ws rm).room.cells = mc from hrc]; exact hp.1
  have h5 : A.slots + (headSpec ws rm).room.slots ≤ R.slots := by rw [show (headSpec ws rm).room.slots = ms from hrs]; exact hp.2.1
  have hPc : Pc a (A.U.calling g mk a) := hblind _ _ _ _ hp.2.2
  obtain ⟨U, Ls, c0, s0⟩ := A
  dsimp only [Pt.U, Pt.locs, Pt.cells, Pt.slots] at h1 h2 h3 h4 h5 X hn hPc ⊢
  obtain ⟨m9, methY, cY, hn9, hmY, hcY, -, hlY, -⟩ := Cond.codeWith_spec h2
  cases Option.some.inj (hn9.symm.trans hn)
  obtain ⟨kY, hkY, -⟩ := className_of_methodNamed hn
  have hinitY : kY.init = .initialized := Cond.initialized_spec (findClass_of_methodNamed hn) hkY h3
  have h : At U g.method c below := by rw [hg]; exact X.here
  have hlocals9 : W9 + (maxL + 11) + (headSpec ws rm).room.locals ≤ R.locals := hlocals
  have happ : (headSpec ws rm).appliesLoose y e.platform (U.calling g mk a) = true :=
    Spec.appliesLoose_calling (g := g) h hdg hn hkY hinitY
      (X.room_calling (g := g) (R' := (headSpec ws rm).room) hsize hmY hcY hframes (by rw [hlY]; omega) h4 h5) h1
  obtain ⟨mid, hmid⟩ := h.above
  have hfr : (U.setTop g).frames = (.java g :: mid) ++ below := by rw [State.frames_setTop' g h.top, hmid]; rfl
  obtain ⟨o, s₂, hsteps, -, hend, hq⟩ := Steps.callFree hM p X.admits X.cas X.clock (acts := []) hfr happ hPc trivial
  have hq' : vx_Q Qc XC mc ms free a (U.calling g mk a) o s₂ := hq
  rw [State.frames_setTop' g h.top] at hend
  obtain ⟨g₀, hg0⟩ := Option.isSome_iff_exists.mp h.top
  obtain ⟨r, hr⟩ := State.topJava?_eq_some.mp hg0
  have hr' : (({ U with heap := s₂.heap, slotsUsed := s₂.slotsUsed } : State).setVm s₂.vm).frames = .java g₀ :: r := hr
  rcases hq' with ⟨hqc, L, hfe, hL⟩ | ⟨q, rfl, E, ce, L, hx, hce, hcv, hcl, hW₂, hsm, hL⟩
  · obtain ⟨⟨v, rfl⟩, hW₂, e2, q2, q3, q4, q5, q6⟩ := id hfe
    have e3 : s₂ = ({ (U.calling g mk a).setFrames s₂.frames with heap := s₂.heap, slotsUsed := s₂.slotsUsed } : State).setVm s₂.vm := by
      have : s₂ = ({ s₂ with vm := (U.calling g mk a).vm } : State).setVm s₂.vm := rfl
      rw [e2] at this
      exact this
    obtain ⟨c₂, i₂, len₂, hc₂, hd₂, hf₂⟩ := hend
    have hW' : U.WarmedH s₂.vm := hW₂
    have hcc : c₂ = c := by
      have h1 : s₂.code? g.method = U.code? g.method := by
        rw [State.code?_eq, State.code?_eq, hW'.alike.method?]
      exact Option.some.inj (hc₂.symm.trans (h1.trans h.code))
    subst hcc
    have hlen : len₂ = len := by rw [hdg] at hd₂; cases hd₂; rfl
    subst hlen
    have hs₂ : s₂ = (({ U with heap := s₂.heap, slotsUsed := s₂.slotsUsed } : State).setVm s₂.vm).setTop { g with pc := g.pc + len₂, stack := v.toList ++ g.stack } := by
      refine e3.trans ?_
      rw [hf₂, State.calling_eq h.top, State.setFrames_setFrames, State.setTop_of_frames _ hr', hr]
      rfl
    have hsame : U.sameButNew ({ U with heap := s₂.heap, slotsUsed := s₂.slotsUsed } : State) L mc ms := by
      refine ⟨?_, q2, q3, q4, q5, q6⟩
      obtain ⟨t, ht, -⟩ := State.frames_cons hr
      show ({ U with heap := s₂.heap, slotsUsed := s₂.slotsUsed } : State) = { U.setFrames U.frames with heap := s₂.heap, slotsUsed := s₂.slotsUsed }
      rw [State.setFrames_self ht]
    subst hg
    refine Or.inl ⟨v, ⟨(({ U with heap := s₂.heap, slotsUsed := s₂.slotsUsed } : State).setVm s₂.vm), Ls ++ L, c0 + mc, s0 + ms⟩,
      ⟨X.admits, X.cas, X.clock, X.frames, X.room, X.hears, X.method, X.code, (X.here.setHeapUsed s₂.heap s₂.slotsUsed).setVm hW'.alike, X.tail, State.WarmedH.trans X.warmed hW', X.limits, X.bytes, X.same.trans (hsame.setVm s.vm)⟩,
      ⟨g, mk, s₂, L, rfl, rfl, hqc, rfl, hL, rfl, rfl⟩, ?_⟩
    show Steps p.tables e below _ ((({ U with heap := s₂.heap, slotsUsed := s₂.slotsUsed } : State).setVm s₂.vm).setTop { g with pc := g.pc + len₂, stack := v.toList ++ g.stack })
    rw [← hs₂]
    exact hsteps
  · obtain ⟨e2, q2, q3, q4, q5, q6⟩ := id hsm
    have e3 : s₂ = ({ (U.calling g mk a).setFrames s₂.frames with heap := s₂.heap, slotsUsed := s₂.slotsUsed } : State).setVm s₂.vm := by
      have : s₂ = ({ s₂ with vm := (U.calling g mk a).vm } : State).setVm s₂.vm := rfl
      rw [e2] at this
      exact this
    have hf₂ : s₂.frames = .throwing q :: .java g :: U.frames.tail := hend
    have hW' : U.WarmedH s₂.vm := hW₂
    have hs₂ : s₂ = ((({ U with heap := s₂.heap, slotsUsed := s₂.slotsUsed } : State).setVm s₂.vm).setTop g).pushFrame (.throwing q) := by
      refine e3.trans ?_
      rw [hf₂, State.calling_eq h.top, State.setFrames_setFrames, State.pushFrame, State.frames_setTop _ hr', State.setTop_of_frames _ hr', State.setFrames_setFrames, hr]
      rfl
    have hsame : U.sameButNew ({ U with heap := s₂.heap, slotsUsed := s₂.slotsUsed } : State) L mc ms := by
      refine ⟨?_, q2, q3, q4, q5, q6⟩
      obtain ⟨t, ht, -⟩ := State.frames_cons hr
      show ({ U with heap := s₂.heap, slotsUsed := s₂.slotsUsed } : State) = { U.setFrames U.frames with heap := s₂.heap, slotsUsed := s₂.slotsUsed }
      rw [State.setFrames_self ht]
    subst hg
    refine Or.inr ⟨q, ⟨(({ U with heap := s₂.heap, slotsUsed := s₂.slotsUsed } : State).setVm s₂.vm), Ls ++ L, c0 + mc, s0 + ms⟩,
      ⟨X.admits, X.cas, X.clock, X.frames, X.room, X.hears, X.method, X.code, (X.here.setHeapUsed s₂.heap s₂.slotsUsed).setVm hW'.alike, X.tail, State.WarmedH.trans X.warmed hW', X.limits, X.bytes, X.same.trans (hsame.setVm s.vm)⟩,
      ⟨g, mk, s₂, L, E, ce, rfl, rfl, hx, hce, hcv, hcl, rfl, hL, rfl, rfl⟩, ?_⟩
    show Steps p.tables e below _ (((({ U with heap := s₂.heap, slotsUsed := s₂.slotsUsed } : State).setVm s₂.vm).setTop g).pushFrame (.throwing q))
    rw [← hs₂]
    exact hsteps
end
variable {p : Program} {l : Launch} {e : Env} {R : Room} {s : State} {m : MethodId} {args : Array Value} {below : List Frame} {meth : Method} {c : Code} {T : State} {H : Heap} {locs : List Loc} {cells slots : Nat}
theorem vx_callVX (X : Stand p l e R s m args below meth c T locs cells slots) (hexec : p.tables.exec = Jvm.exec) {own C : String} {index : Nat} {y : MethodName} {bytes : ByteArray} {maxL : Nat} {ret : Option FieldType} {hh : List (Nat × Nat × Nat × Nat)}
    (hown : s.vm.findClass own = some m.cls) (hlink : (Cond.methodLink own index y).before args s = true) (hinst : (Cond.instanceMethod y).before args s = true) (hsel : (Cond.selects C y y).before args s = true)
    (hcode : (Cond.codeWith y bytes maxL ret hh).before args s = true) (hy : y.cls ≠ "java/lang/invoke/MethodHandle" ∧ y.cls ≠ "java/lang/invoke/VarHandle")
    {W9 : Nat} {Pre : Pt → Array Value → Prop} {Post : Pt → Array Value → Option Value → Pt → Prop} {PostX : Pt → Array Value → Addr → Pt → Prop} (hK : vx_Back l R p e below s args y 3 W9 Pre Post PostX)
    {b : Addr} {cellB : Cell} (hcell : T.heap[b]? = some cellB) (hobj : cellB.vm.isStatics = false) (hcls : s.vm.findClass C = some cellB.cls)
    {g : JFrame} (hg : g.method = m) (hsize : g.locals.size = c.maxLocals) {argsL rest : List Value} (hlen : ∀ sig, parseMethodDescriptor y.desc = some sig → argsL.length = sig.parameters.length)
    (hstack : g.stack = argsL.reverse ++ .ref b :: rest) (hW : 2 * g.monitorRoom + (rest.map fun v => v.category).sum ≤ W9) (hdg : decode c.code g.pc = .ok (.invokevirtual index, 3))
    (hpre : ∀ vm₁, s.WarmedH vm₁ → Pre ⟨T.setVm vm₁, locs, cells, slots⟩ (Value.ref b :: argsL).toArray) :
    (∃ (v : Option Value) (vm₁ : Vm) (B : Pt), s.WarmedH vm₁ ∧ Stand p l e R s m args below meth c B.U B.locs B.cells B.slots ∧ Post ⟨T.setVm vm₁, locs, cells, slots⟩ (Value.ref b :: argsL).toArray v B ∧
      ∀ target, Steps p.tables e below (B.U.setTop { g with pc := g.pc + 3, stack := v.toList ++ rest }) target → Steps p.tables e below (T.setTop g) target) ∨
    (∃ (q : Addr) (vm₁ : Vm) (B : Pt), s.WarmedH vm₁ ∧ Stand p l e R s m args below meth c B.U B.locs B.cells B.slots ∧ PostX ⟨T.setVm vm₁, locs, cells, slots⟩ (Value.ref b :: argsL).toArray q B ∧
      Steps p.tables e below (T.setTop g) ((B.U.setTop { g with stack := rest }).pushFrame (.throwing q))) := by
  obtain ⟨mk, methM, hnamed, hmethM, hstM, habM⟩ := Cond.instanceMethod_spec hinst
  obtain ⟨m8, methM', cM, hn8, hmethM', -, -, -, -, -, -, hsigM⟩ := Cond.codeWith_spec hcode
  cases Option.some.inj (hn8.symm.trans hnamed)
  cases hmethM.symm.trans hmethM'
  obtain ⟨c2, r2, m2, q1, q2, q3, q4, kP, hkP, hkPi⟩ := Cond.selects_spec hsel
  cases hcls.symm.trans q1
  cases (State.methodFound?_of_named hnamed hy).symm.trans q2
  cases hnamed.symm.trans q3
  have hselP : selectMethod e.platform s.vm cellB.cls mk = .method mk := by rw [Launch.admits_selectMethod X.admits]; exact q4
  obtain ⟨vm₁, X₁, hstep₁⟩ := X.invokevirtual hexec hown hlink hnamed hmethM hstM hkP hkPi hy (a := b) (cell := cellB) hcell
    (fun z h => by rw [h] at hobj; cases hobj) hselP hmethM habM hkP hkPi (g := g) hg (argsL := argsL) (rest := rest) (hlen _ hsigM) hstack hdg
  rcases hK m meth c ⟨T.setVm vm₁, locs, cells, slots⟩ { g with stack := rest } (.invokevirtual index) mk (Value.ref b :: argsL).toArray X₁ hg hsize hdg hW (X₁.named hnamed) (hpre vm₁ X₁.warmed) with ⟨v, B, X', hpost, hsteps⟩ | ⟨q, B, X', hpost, hsteps⟩
  · exact Or.inl ⟨v, vm₁, B, X₁.warmed, X', hpost, fun target h => hstep₁ _ fun acts => by rw [doInvoke_state]; exact hsteps.trans h⟩
  · exact Or.inr ⟨q, vm₁, B, X₁.warmed, X', hpost, hstep₁ _ fun acts => by rw [doInvoke_state]; exact hsteps⟩
theorem vx_callSX (X : Stand p l e R s m args below meth c T locs cells slots) (hexec : p.tables.exec = Jvm.exec) {own : String} {index : Nat} {y : MethodName} {bytes : ByteArray} {maxL : Nat} {ret : Option FieldType} {hh : List (Nat × Nat × Nat × Nat)}
    (hown : s.vm.findClass own = some m.cls) (hlink : (Cond.methodLink own index y).before args s = true) (hstat : (Cond.static y).before args s = true) (hinit : (Cond.initialized y.cls).before args s = true)
    (hcode : (Cond.codeWith y bytes maxL ret hh).before args s = true) (hy : y.cls ≠ "java/lang/invoke/MethodHandle" ∧ y.cls ≠ "java/lang/invoke/VarHandle")
    {W9 : Nat} {Pre : Pt → Array Value → Prop} {Post : Pt → Array Value → Option Value → Pt → Prop} {PostX : Pt → Array Value → Addr → Pt → Prop} (hK : vx_Back l R p e below s args y 3 W9 Pre Post PostX)
    {g : JFrame} (hg : g.method = m) (hsize : g.locals.size = c.maxLocals) {argsL rest : List Value} (hlen : ∀ sig, parseMethodDescriptor y.desc = some sig → argsL.length = sig.parameters.length)
    (hstack : g.stack = argsL.reverse ++ rest) (hW : 2 * g.monitorRoom + (rest.map fun v => v.category).sum ≤ W9) (hdg : decode c.code g.pc = .ok (.invokestatic index, 3))
    (hpre : ∀ vm₁, s.WarmedH vm₁ → Pre ⟨T.setVm vm₁, locs, cells, slots⟩ argsL.toArray) :
    (∃ (v : Option Value) (vm₁ : Vm) (B : Pt), s.WarmedH vm₁ ∧ Stand p l e R s m args below meth c B.U B.locs B.cells B.slots ∧ Post ⟨T.setVm vm₁, locs, cells, slots⟩ argsL.toArray v B ∧
      ∀ target, Steps p.tables e below (B.U.setTop { g with pc := g.pc + 3, stack := v.toList ++ rest }) target → Steps p.tables e below (T.setTop g) target) ∨
    (∃ (q : Addr) (vm₁ : Vm) (B : Pt), s.WarmedH vm₁ ∧ Stand p l e R s m args below meth c B.U B.locs B.cells B.slots ∧ PostX ⟨T.setVm vm₁, locs, cells, slots⟩ argsL.toArray q B ∧
      Steps p.tables e below (T.setTop g) ((B.U.setTop { g with stack := rest }).pushFrame (.throwing q))) := by
  obtain ⟨mk, methM, cM, hnamed, hmethM, -, -, -, -, -, -, hsigM⟩ := Cond.codeWith_spec hcode
  have hstatic : methM.isStatic = true := Cond.static_spec hnamed hmethM hstat
  obtain ⟨kP, hkP, -⟩ := className_of_methodNamed hnamed
  have hinitP : kP.init = .initialized := Cond.initialized_spec (findClass_of_methodNamed hnamed) hkP hinit
  obtain ⟨vm₁, X₁, hstep₁⟩ := X.invokestatic hexec hown hlink hnamed hmethM hstatic hkP hinitP hy (g := g) hg (argsL := argsL) (rest := rest) (hlen _ hsigM) hstack hdg
  rcases hK m meth c ⟨T.setVm vm₁, locs, cells, slots⟩ { g with stack := rest } (.invokestatic index) mk argsL.toArray X₁ hg hsize hdg hW (X₁.named hnamed) (hpre vm₁ X₁.warmed) with ⟨v, B, X', hpost, hsteps⟩ | ⟨q, B, X', hpost, hsteps⟩
  · exact Or.inl ⟨v, vm₁, B, X₁.warmed, X', hpost, fun target h => hstep₁ _ fun acts => by rw [doInvoke_state]; exact hsteps.trans h⟩
  · exact Or.inr ⟨q, vm₁, B, X₁.warmed, X', hpost, hstep₁ _ fun acts => by rw [doInvoke_state]; exact hsteps⟩
theorem vx_callVW (X : Stand p l e R s m args below meth c T locs cells slots) (hexec : p.tables.exec = Jvm.exec) {own C : String} {index : Nat} {y : MethodName} {bytes : ByteArray} {maxL : Nat} {ret : Option FieldType} {hh : List (Nat × Nat × Nat × Nat)}
    (hown : s.vm.findClass own = some m.cls) (hlink : (Cond.methodLink own index y).before args s = true) (hinst : (Cond.instanceMethod y).before args s = true) (hsel : (Cond.selects C y y).before args s = true)
    (hcode : (Cond.codeWith y bytes maxL ret hh).before args s = true) (hy : y.cls ≠ "java/lang/invoke/MethodHandle" ∧ y.cls ≠ "java/lang/invoke/VarHandle")
    {W9 : Nat} {Pre : Pt → Array Value → Prop} {Post : Pt → Array Value → Option Value → Pt → Prop} (hK : Back l R p e below s args y 3 W9 Pre Post)
    {b : Addr} {cellB : Cell} (hcell : T.heap[b]? = some cellB) (hobj : cellB.vm.isStatics = false) (hcls : s.vm.findClass C = some cellB.cls)
    {g : JFrame} (hg : g.method = m) (hsize : g.locals.size = c.maxLocals) {argsL rest : List Value} (hlen : ∀ sig, parseMethodDescriptor y.desc = some sig → argsL.length = sig.parameters.length)
    (hstack : g.stack = argsL.reverse ++ .ref b :: rest) (hW : 2 * g.monitorRoom + (rest.map fun v => v.category).sum ≤ W9) (hdg : decode c.code g.pc = .ok (.invokevirtual index, 3))
    (hpre : ∀ vm₁, s.WarmedH vm₁ → Pre ⟨T.setVm vm₁, locs, cells, slots⟩ (Value.ref b :: argsL).toArray) :
    ∃ (v : Option Value) (vm₁ : Vm) (B : Pt), s.WarmedH vm₁ ∧ Stand p l e R s m args below meth c B.U B.locs B.cells B.slots ∧ Post ⟨T.setVm vm₁, locs, cells, slots⟩ (Value.ref b :: argsL).toArray v B ∧
      ∀ target, Steps p.tables e below (B.U.setTop { g with pc := g.pc + 3, stack := v.toList ++ rest }) target → Steps p.tables e below (T.setTop g) target := by
  obtain ⟨mk, methM, hnamed, hmethM, hstM, habM⟩ := Cond.instanceMethod_spec hinst
  obtain ⟨m8, methM', cM, hn8, hmethM', -, -, -, -, -, -, hsigM⟩ := Cond.codeWith_spec hcode
  cases Option.some.inj (hn8.symm.trans hnamed)
  cases hmethM.symm.trans hmethM'
  obtain ⟨c2, r2, m2, q1, q2, q3, q4, kP, hkP, hkPi⟩ := Cond.selects_spec hsel
  cases hcls.symm.trans q1
  cases (State.methodFound?_of_named hnamed hy).symm.trans q2
  cases hnamed.symm.trans q3
  have hselP : selectMethod e.platform s.vm cellB.cls mk = .method mk := by rw [Launch.admits_selectMethod X.admits]; exact q4
  obtain ⟨vm₁, X₁, hstep₁⟩ := X.invokevirtual hexec hown hlink hnamed hmethM hstM hkP hkPi hy (a := b) (cell := cellB) hcell
    (fun z h => by rw [h] at hobj; cases hobj) hselP hmethM habM hkP hkPi (g := g) hg (argsL := argsL) (rest := rest) (hlen _ hsigM) hstack hdg
  obtain ⟨v, B, X', hpost, hsteps⟩ := hK m meth c ⟨T.setVm vm₁, locs, cells, slots⟩ { g with stack := rest } (.invokevirtual index) mk (Value.ref b :: argsL).toArray X₁ hg hsize hdg hW (X₁.named hnamed) (hpre vm₁ X₁.warmed)
  exact ⟨v, vm₁, B, X₁.warmed, X', hpost, fun target h => hstep₁ _ fun acts => by rw [doInvoke_state]; exact hsteps.trans h⟩
abbrev vx_CVW (R : Room) (s : State) (args : Array Value) (own C : String) (index : Nat) (y : MethodName) (bytes : ByteArray) (maxL : Nat) (ret : Option FieldType) (hh : List (Nat × Nat × Nat × Nat)) (ws : List Cond) (rm : Room) (mc ms n : Nat) : Prop :=
  (rm.cells = mc ∧ rm.slots = ms ∧ rm.frames + 1 ≤ R.frames ∧ 8 + (maxL + 11) + rm.locals ≤ R.locals ∧ (∀ w ∈ ws, ∀ (a' : Array Value) (U : State), s.WarmedH U.vm → w.before a' U = true) ∧ Cond.codeWith y bytes maxL ret hh ∈ ws) ∧
  (Cond.codeWith y bytes maxL ret hh).before args s = true ∧ (Cond.initialized y.cls).before args s = true ∧ (y.cls ≠ "java/lang/invoke/MethodHandle" ∧ y.cls ≠ "java/lang/invoke/VarHandle") ∧
  (∀ sig, parseMethodDescriptor y.desc = some sig → n = sig.parameters.length) ∧ (Cond.methodLink own index y).before args s = true ∧ (Cond.instanceMethod y).before args s = true ∧ (Cond.selects C y y).before args s = true
theorem vx_cwVW {own C : String} {index maxL mc ms : Nat} {y : MethodName} {bytes : ByteArray} {ret : Option FieldType} {hh : List (Nat × Nat × Nat × Nat)} {Ts ws ws' : List Cond} {rm : Room} (n : Nat) (ht : ∀ w ∈ Ts, w.before args s = true) (hT : GoodIn Ts (wsV own index C y ws)) (hw : ws = Cond.codeWith y bytes maxL ret hh :: ws') (hrc : rm.cells = mc) (hrs : rm.slots = ms)
    (hd : y.cls = C ∧ y.cls ≠ "java/lang/invoke/MethodHandle" ∧ y.cls ≠ "java/lang/invoke/VarHandle" ∧ (parseMethodDescriptor y.desc).map (fun d => d.parameters.length) = some n) (hR : rm.frames + 1 ≤ R.frames ∧ 8 + (maxL + 11) + rm.locals ≤ R.locals) :
    vx_CVW R s args own C index y bytes maxL ret hh ws rm mc ms n := by
  obtain ⟨hC, hd⟩ := hd
  subst hC
  have ok : ∀ w ∈ wsV own index y.cls y ws, w.before args s = true := fun w h => ht w (hT w h).1
  have hG : GoodIn Ts ws := fun w h => hT w (by unfold wsV; exact List.mem_append_right _ h)
  have hc : Cond.codeWith y bytes maxL ret hh ∈ ws := by rw [hw]; exact List.mem_cons_self
  refine ⟨⟨hrc, hrs, hR.1, hR.2, pay_in ht hG, hc⟩, ht _ (hG _ hc).1, ok _ (by simp [wsV]), ⟨hd.1, hd.2.1⟩, fun sig h => ?_, ok _ (by simp [wsV]), ok _ (by simp [wsV]), ok _ (by simp [wsV])⟩
  have h2 := hd.2.2
  rw [h] at h2
  exact (Option.some.inj h2).symm
theorem vx_runVW {y : MethodName} {bytes cc : ByteArray} {maxL nL mc ms n index : Nat} {ret : Option FieldType} {hh : List (Nat × Nat × Nat × Nat)} {ws : List Cond} {rm : Room} {Pc : Array Value → State → Prop} {Qc : Array Value → State → Outcome → State → Prop} {free : Addr → Prop} {Ts : List Cond} {own C : String} {b : Addr} {As rest : List Value} {g : JFrame}
    (S : CallFix p m c cc nL s args Ts own) (hM : Met l y ws rm Pc Qc mc ms free) (cw : vx_CVW R s args own C index y bytes maxL ret hh ws rm mc ms n) (hp : PreV s H C b Pc As)
    (hg : g.method = m) (hn : As.length = n) (hsize : g.locals.size = nL) (hstack : g.stack = As.reverse ++ .ref b :: rest) (hW : 2 * g.monitorRoom + (rest.map fun v => v.category).sum ≤ 8) (hdg : decode cc g.pc = .ok (.invokevirtual index, 3)) (hf : cells + mc ≤ R.cells ∧ slots + ms ≤ R.slots) :
    va_Run p l e R s m args below meth c H locs cells slots mc ms g rest (Qc (Value.ref b :: As).toArray) free := by
  obtain ⟨⟨hrc, hrs, hfr, hlo, hws, hcw⟩, hcode, hini, hy, hlen, hl, hin, hse⟩ := cw
  have hK : Back l R p e below s args y 3 8 (PreOf R mc ms Pc) (PostOf Qc mc ms free) := va_backW (hh := hh) (bytes := bytes) (maxL := maxL) (ret := ret) hM hp.1 hrc hrs hfr hlo hws hcw (fun a' U hW => word_at hW (Or.inl (by first | rfl | simp [Cond.onTables, Cond.keeps, Cond.steady])) hini)
  obtain ⟨hx, hb, hml, ho, -⟩ := S
  obtain ⟨-, ⟨cellB, hcB, hoB, hclB⟩, hPc⟩ := hp
  intro T hT X
  obtain ⟨v, vm₁, ⟨U', l2, c2, s2⟩, hW₁, X', ⟨g', mk, t, L, e1, e2, hq, h1, hL, h2, h3⟩, st⟩ := vx_callVW X hx (C := C) (hh := hh) (bytes := bytes) (maxL := maxL) (ret := ret) ho hl hin hse hcode hy hK (by rw [hT]; exact hcB) hoB hclB hg (hsize.trans hml.symm) (argsL := As) (rest := rest) (fun sig h => hn.trans (hlen sig h)) hstack hW (by rw [hb]; exact hdg)
    (fun vm₁ hW₁ => ⟨hf.1, hf.2, hPc (T.setVm vm₁) hT hW₁⟩)
  dsimp only [Pt.U, Pt.locs, Pt.cells, Pt.slots] at X' e1 e2 h1 h2 h3 st
  subst h1; subst h2; subst h3
  exact ⟨v, (T.setVm vm₁).calling g' mk (Value.ref b :: As).toArray, t, U', L, hT, X', hL, e1, e2, hq, st⟩
section
variable {y : MethodName} {bytes cc : ByteArray} {maxL nL mc ms n index : Nat} {ret : Option FieldType} {ws : List Cond} {rm : Room} {Pc : Array Value → State → Prop} {Qc : Array Value → State → Outcome → State → Prop} {XC : String → State → State → Prop} {free : Addr → Prop} {Ts : List Cond} {own C : String} {b : Addr} {As rest : List Value} {g : JFrame}
theorem vx_runVX {hh : List (Nat × Nat × Nat × Nat)} (S : CallFix p m c cc nL s args Ts own) (hM : vx_Met l y ws rm Pc Qc XC mc ms free) (cw : vx_CVW R s args own C index y bytes maxL ret hh ws rm mc ms n) (hp : PreV s H C b Pc As)
    (hg : g.method = m) (hn : As.length = n) (hsize : g.locals.size = nL) (hstack : g.stack = As.reverse ++ .ref b :: rest) (hW : 2 * g.monitorRoom + (rest.map fun v => v.category).sum ≤ 8) (hdg : decode cc g.pc = .ok (.invokevirtual index, 3)) (hf : cells + mc ≤ R.cells ∧ slots + ms ≤ R.slots) :
    vx_Run p l e R s m args below meth c H locs cells slots mc ms g rest (Qc (Value.ref b :: As).toArray) XC free := by
  obtain ⟨⟨hrc, hrs, hfr, hlo, hws, hcw⟩, hcode, hini, hy, hlen, hl, hin, hse⟩ := cw
  have hK : vx_Back l R p e below s args y 3 8 (PreOf R mc ms Pc) (PostOf Qc mc ms free) (vx_Post XC mc ms free) := vx_backW (hh := hh) (bytes := bytes) (maxL := maxL) (ret := ret) hM hp.1 hrc hrs hfr hlo hws hcw (fun a' U hW => word_at hW (Or.inl (by first | rfl | simp [Cond.onTables, Cond.keeps, Cond.steady])) hini)
  obtain ⟨hx, hb, hml, ho, -⟩ := S
  obtain ⟨-, ⟨cellB, hcB, hoB, hclB⟩, hPc⟩ := hp
  intro T hT X
  rcases vx_callVX X hx (C := C) (hh := hh) (bytes := bytes) (maxL := maxL) (ret := ret) ho hl hin hse hcode hy hK (by rw [hT]; exact hcB) hoB hclB hg (hsize.trans hml.symm) (argsL := As) (rest := rest) (fun sig h => hn.trans (hlen sig h)) hstack hW (by rw [hb]; exact hdg)
    (fun vm₁ hW₁ => ⟨hf.1, hf.2, hPc (T.setVm vm₁) hT hW₁⟩) with ⟨v, vm₁, ⟨U', l2, c2, s2⟩, hW₁, X', ⟨g', mk, t, L, e1, e2, hq, h1, hL, h2, h3⟩, st⟩ | ⟨q, vm₁, ⟨U', l2, c2, s2⟩, hW₁, X', ⟨g', mk, t, L, E, ce, e1, e2, hq, hce, hcv, hcl, h1, hL, h2, h3⟩, st⟩
  · dsimp only [Pt.U, Pt.locs, Pt.cells, Pt.slots] at X' e1 e2 h1 h2 h3 st
    subst h1; subst h2; subst h3
    exact Or.inl ⟨v, (T.setVm vm₁).calling g' mk (Value.ref b :: As).toArray, t, U', L, hT, X', hL, e1, e2, hq, st⟩
  · dsimp only [Pt.U, Pt.locs, Pt.cells, Pt.slots] at X' e1 e2 h1 h2 h3 st hcl
    subst h1; subst h2; subst h3
    exact Or.inr ⟨q, (T.setVm vm₁).calling g' mk (Value.ref b :: As).toArray, t, U', L, E, ce, hT, X', hL, e1, e2, hq, hce, hcv, vx_cls hW₁ hcl, st⟩
theorem vx_runSX {hh : List (Nat × Nat × Nat × Nat)} (S : CallFix p m c cc nL s args Ts own) (hM : vx_Met l y ws rm Pc Qc XC mc ms free) (cw : vx_CSW R s args own index y bytes maxL ret hh ws rm mc ms n) (hp : PreS s H Pc As)
    (hg : g.method = m) (hn : As.length = n) (hsize : g.locals.size = nL) (hstack : g.stack = As.reverse ++ rest) (hW : 2 * g.monitorRoom + (rest.map fun v => v.category).sum ≤ 8) (hdg : decode cc g.pc = .ok (.invokestatic index, 3)) (hf : cells + mc ≤ R.cells ∧ slots + ms ≤ R.slots) :
    vx_Run p l e R s m args below meth c H locs cells slots mc ms g rest (Qc As.toArray) XC free := by
  obtain ⟨⟨hrc, hrs, hfr, hlo, hws, hcw⟩, hcode, hini, hy, hlen, hl, hstt⟩ := cw
  have hK : vx_Back l R p e below s args y 3 8 (PreOf R mc ms Pc) (PostOf Qc mc ms free) (vx_Post XC mc ms free) := vx_backW (hh := hh) (bytes := bytes) (maxL := maxL) (ret := ret) hM hp.1 hrc hrs hfr hlo hws hcw (fun a' U hW => word_at hW (Or.inl (by first | rfl | simp [Cond.onTables, Cond.keeps, Cond.steady])) hini)
  obtain ⟨hx, hb, hml, ho, -⟩ := S
  intro T hT X
  rcases vx_callSX X hx (hh := hh) (bytes := bytes) (maxL := maxL) (ret := ret) ho hl hstt hini hcode hy hK hg (hsize.trans hml.symm) (argsL := As) (rest := rest) (fun sig h => hn.trans (hlen sig h)) hstack hW (by rw [hb]; exact hdg)
    (fun vm₁ hW₁ => ⟨hf.1, hf.2, hp.2 (T.setVm vm₁) hT hW₁⟩) with ⟨v, vm₁, ⟨U', l2, c2, s2⟩, hW₁, X', ⟨g', mk, t, L, e1, e2, hq, h1, hL, h2, h3⟩, st⟩ | ⟨q, vm₁, ⟨U', l2, c2, s2⟩, hW₁, X', ⟨g', mk, t, L, E, ce, e1, e2, hq, hce, hcv, hcl, h1, hL, h2, h3⟩, st⟩
  · dsimp only [Pt.U, Pt.locs, Pt.cells, Pt.slots] at X' e1 e2 h1 h2 h3 st
    subst h1; subst h2; subst h3
    exact Or.inl ⟨v, (T.setVm vm₁).calling g' mk As.toArray, t, U', L, hT, X', hL, e1, e2, hq, st⟩
  · dsimp only [Pt.U, Pt.locs, Pt.cells, Pt.slots] at X' e1 e2 h1 h2 h3 st hcl
    subst h1; subst h2; subst h3
    exact Or.inr ⟨q, (T.setVm vm₁).calling g' mk As.toArray, t, U', L, E, ce, hT, X', hL, e1, e2, hq, hce, hcv, vx_cls hW₁ hcl, st⟩
end
end VXH
theorem vx_ofWH {l : Launch} {y : MethodName} {ws ws' : List Cond} {rm : Room} {Pc : Array Value → State → Prop} {Qc : Array Value → State → Outcome → State → Prop} {XC : String → State → State → Prop} {mc ms : Nat} {free : Addr → Prop} {cc : ByteArray} {maxL : Nat} {ret : Option FieldType} {hh : List (Nat × Nat × Nat × Nat)}
    (hy : plainName y.cls = true) (hw : ws = Cond.codeWith y cc maxL ret hh :: ws')
    (body : ∀ p e s m args below meth c s₁, BodyLoose p l y (headSpec ws rm) cc maxL ret e s m args below meth c s₁ → c.maxLocals = maxL → Pc args s →
      W p l e (headSpec ws rm).room s m args below meth c s.heap [] 0 0 (vx_MQ below Qc XC args s mc ms free) (entryFrame m args maxL)) : vx_Met l y ws rm Pc Qc XC mc ms free := by
  refine MetFree.of_bodyS (code := cc) (maxLocals := maxL) (ret := ret) hy ?_ ?_
  · intro args s m h hn
    obtain ⟨m9, meth, c, hn9, h1, h2, h3, h4, -, h5, h6, -⟩ := Cond.codeWith_spec (atoms_spec (ws := ws) h _ (by rw [hw]; exact List.mem_cons_self))
    cases hn.symm.trans hn9
    exact ⟨meth, c, h1, h2, h3, h4, h5, h6⟩
  · intro p e s m args below meth c s₁ B hml hP _
    have hh0 : s₁.heap = s.heap := by rw [B.state]; rfl
    obtain ⟨t, a1, o, b1, b2, b3⟩ := body p e s m args below meth c s₁ B hml hP s₁ hh0 (Stand.of_body B)
    exact ⟨t, o, a1, b1, b2, b3⟩
/-! ===== END ===== -/
end
section
def RX0 : String := "ReaperWages"
def TX0 : u_T := fun k => match k with
  | 0 => ("ReaperWages", "kinds", "[I", true)
  | 1 => ("ReaperWages", "bound", "[I", true)
  | 2 => ("ReaperWages", "worked", "[I", true)
  | 3 => ("ReaperWages", "lateMarks", "[I", true)
  | 4 => ("ReaperWages", "debts", "[I", true)
  | 5 => ("ReaperWages", "carried", "[I", true)
  | 6 => ("ReaperWages", "paidOut", "[I", true)
  | 7 => ("ReaperWages", "rates", "[I", true)
  | 8 => ("ReaperWages", "purse", "[I", true)
  | 9 => ("ReaperWages", "hired", "I", false)
  | 10 => ("ReaperWages", "week", "I", false)
  | 11 => ("ReaperWages", "trialRates", "[I", true)
  | 12 => ("ReaperWages", "trialPurse", "[I", true)
  | _ => ("ReaperWages", "handed", "[I", true)
def tyX0 : Nat → FieldType := fun k => match k with
  | 0 => .array .int
  | 1 => .array .int
  | 2 => .array .int
  | 3 => .array .int
  | 4 => .array .int
  | 5 => .array .int
  | 6 => .array .int
  | 7 => .array .int
  | 8 => .array .int
  | 9 => .int
  | 10 => .int
  | 11 => .array .int
  | 12 => .array .int
  | _ => .array .int
abbrev wsX00 : List Cond := u_ws RX0 TX0 14
theorem nmX0 : ∀ a, a < 14 → ∀ b, b < 14 → a ≠ b → (TX0 a).2.1 ≠ (TX0 b).2.1 := by decide +kernel
theorem tyX0_ok : ∀ k, k < 14 → parseFieldDescriptor (TX0 k).2.2.1 = some (tyX0 k) := by decide +kernel
abbrev cX0_init : ByteArray := prog_1_method_1_code
def yX0_init : MethodName := ⟨RX0, "<init>", "()V"⟩
abbrev cX0_hire : ByteArray := prog_1_method_2_code
def yX0_hire : MethodName := ⟨RX0, "hire", "(I)I"⟩
abbrev cX0_setRate : ByteArray := prog_1_method_3_code
def yX0_setRate : MethodName := ⟨RX0, "setRate", "(II)I"⟩
abbrev cX0_fill : ByteArray := prog_1_method_4_code
def yX0_fill : MethodName := ⟨RX0, "fill", "(II)I"⟩
abbrev cX0_bind : ByteArray := prog_1_method_5_code
def yX0_bind : MethodName := ⟨RX0, "bind", "(II)I"⟩
abbrev cX0_work : ByteArray := prog_1_method_6_code
def yX0_work : MethodName := ⟨RX0, "work", "(IIZ)I"⟩
abbrev cX0_lend : ByteArray := prog_1_method_7_code
def yX0_lend : MethodName := ⟨RX0, "lend", "(II)I"⟩
abbrev cX0_pay : ByteArray := prog_1_method_8_code
def yX0_pay : MethodName := ⟨RX0, "pay", "()I"⟩
abbrev cX0_told : ByteArray := prog_1_method_9_code
def yX0_told : MethodName := ⟨RX0, "told", "(II)I"⟩
abbrev cX0_wage : ByteArray := prog_1_method_10_code
def yX0_wage : MethodName := ⟨RX0, "wage", "(II)I"⟩
abbrev cX0_chest : ByteArray := prog_1_method_11_code
def yX0_chest : MethodName := ⟨RX0, "chest", "(I)I"⟩
abbrev cX0_coins : ByteArray := prog_1_method_12_code
def yX0_coins : MethodName := ⟨RX0, "coins", "(II)I"⟩
abbrev cX0_count : ByteArray := prog_1_method_13_code
def yX0_count : MethodName := ⟨RX0, "count", "(I)I"⟩
abbrev cX0_rate : ByteArray := prog_1_method_14_code
def yX0_rate : MethodName := ⟨RX0, "rate", "(I)I"⟩
abbrev cX0_lacks : ByteArray := prog_1_method_17_code
def yX0_lacks : MethodName := ⟨RX0, "lacks", "()I"⟩
abbrev cX0_mean : ByteArray := prog_1_method_19_code
def yX0_mean : MethodName := ⟨RX0, "mean", "()D"⟩
abbrev cX0_wageByPieces : ByteArray := prog_1_method_21_code
def yX0_wageByPieces : MethodName := ⟨RX0, "wageByPieces", "(I[I)I"⟩
abbrev cX0_wageByHours : ByteArray := prog_1_method_22_code
def yX0_wageByHours : MethodName := ⟨RX0, "wageByHours", "(I[I)I"⟩
abbrev cX0_hoursThatCount : ByteArray := prog_1_method_23_code
def yX0_hoursThatCount : MethodName := ⟨RX0, "hoursThatCount", "(I)I"⟩
abbrev cX0_weekWage : ByteArray := prog_1_method_24_code
def yX0_weekWage : MethodName := ⟨RX0, "weekWage", "(I[I)I"⟩
abbrev cX0_coming : ByteArray := prog_1_method_25_code
def yX0_coming : MethodName := ⟨RX0, "coming", "(I)I"⟩
abbrev cX0_takenBack : ByteArray := prog_1_method_26_code
def yX0_takenBack : MethodName := ⟨RX0, "takenBack", "(II)I"⟩
abbrev cX0_restToPay : ByteArray := prog_1_method_27_code
def yX0_restToPay : MethodName := ⟨RX0, "restToPay", "(I)I"⟩
abbrev cX0_settle : ByteArray := prog_1_method_28_code
def yX0_settle : MethodName := ⟨RX0, "settle", "(I)I"⟩
abbrev cX0_handOut : ByteArray := prog_1_method_29_code
def yX0_handOut : MethodName := ⟨RX0, "handOut", "([II)I"⟩
abbrev cX0_wholeParts : ByteArray := prog_1_method_30_code
def yX0_wholeParts : MethodName := ⟨RX0, "wholeParts", "(II)I"⟩
abbrev cX0_allWages : ByteArray := prog_1_method_31_code
def yX0_allWages : MethodName := ⟨RX0, "allWages", "([I)I"⟩
abbrev cX0_sumOfHired : ByteArray := prog_1_method_32_code
def yX0_sumOfHired : MethodName := ⟨RX0, "sumOfHired", "([I)I"⟩
abbrev cX0_worthOfPurse : ByteArray := prog_1_method_33_code
def yX0_worthOfPurse : MethodName := ⟨RX0, "worthOfPurse", "()I"⟩
abbrev cX0_copyRow : ByteArray := prog_1_method_34_code
def yX0_copyRow : MethodName := ⟨RX0, "copyRow", "([I[II)V"⟩
abbrev cX0_requireIndex : ByteArray := prog_1_method_35_code
def yX0_requireIndex : MethodName := ⟨RX0, "requireIndex", "(II)V"⟩
abbrev cX0_requireArgument : ByteArray := prog_1_method_36_code
def yX0_requireArgument : MethodName := ⟨RX0, "requireArgument", "(III)V"⟩
abbrev cX0_requireState : ByteArray := prog_1_method_37_code
def yX0_requireState : MethodName := ⟨RX0, "requireState", "(Z)V"⟩
abbrev cX0_requireRate : ByteArray := prog_1_method_38_code
def yX0_requireRate : MethodName := ⟨RX0, "requireRate", "(II)V"⟩
def RX1 : String := "ReaperWagesLaw$Reaper"
def TX1 : u_T := fun k => match k with
  | 0 => ("ReaperWagesLaw$Reaper", "kind", "I", false)
  | 1 => ("ReaperWagesLaw$Reaper", "sheaves", "I", false)
  | 2 => ("ReaperWagesLaw$Reaper", "hours", "I", false)
  | 3 => ("ReaperWagesLaw$Reaper", "late", "I", false)
  | 4 => ("ReaperWagesLaw$Reaper", "debt", "I", false)
  | 5 => ("ReaperWagesLaw$Reaper", "carried", "I", false)
  | _ => ("ReaperWagesLaw$Reaper", "paid", "I", false)
def tyX1 : Nat → FieldType := fun k => match k with
  | 0 => .int
  | 1 => .int
  | 2 => .int
  | 3 => .int
  | 4 => .int
  | 5 => .int
  | _ => .int
abbrev wsX10 : List Cond := u_ws RX1 TX1 7
theorem nmX1 : ∀ a, a < 7 → ∀ b, b < 7 → a ≠ b → (TX1 a).2.1 ≠ (TX1 b).2.1 := by decide +kernel
theorem tyX1_ok : ∀ k, k < 7 → parseFieldDescriptor (TX1 k).2.2.1 = some (tyX1 k) := by decide +kernel
abbrev cX1_init : ByteArray := prog_3_method_1_code
def yX1_init : MethodName := ⟨RX1, "<init>", "()V"⟩
abbrev cX1_copy : ByteArray := prog_3_method_2_code
def yX1_copy : MethodName := ⟨RX1, "copy", "()LReaperWagesLaw$Reaper;"⟩
abbrev cX1_counting : ByteArray := prog_3_method_3_code
def yX1_counting : MethodName := ⟨RX1, "counting", "()I"⟩
abbrev cX1_pieces : ByteArray := prog_3_method_4_code
def yX1_pieces : MethodName := ⟨RX1, "pieces", "([I)I"⟩
abbrev cX1_wage : ByteArray := prog_3_method_5_code
def yX1_wage : MethodName := ⟨RX1, "wage", "([I)I"⟩
def RX2 : String := "ReaperWagesLaw$Sim"
def TX2 : u_T := fun k => match k with
  | 0 => ("ReaperWagesLaw$Sim", "week", "I", false)
  | 1 => ("ReaperWagesLaw$Sim", "rates", "[I", false)
  | 2 => ("ReaperWagesLaw$Sim", "chest", "[I", false)
  | 3 => ("ReaperWagesLaw$Sim", "all", "[LReaperWagesLaw$Reaper;", false)
  | _ => ("ReaperWagesLaw$Sim", "handed", "[[I", false)
def tyX2 : Nat → FieldType := fun k => match k with
  | 0 => .int
  | 1 => .array .int
  | 2 => .array .int
  | 3 => .array (.object "ReaperWagesLaw$Reaper")
  | _ => .array (.array .int)
abbrev wsX20 : List Cond := u_ws RX2 TX2 5
theorem nmX2 : ∀ a, a < 5 → ∀ b, b < 5 → a ≠ b → (TX2 a).2.1 ≠ (TX2 b).2.1 := by decide +kernel
theorem tyX2_ok : ∀ k, k < 5 → parseFieldDescriptor (TX2 k).2.2.1 = some (tyX2 k) := by decide +kernel
abbrev cX2_init : ByteArray := prog_4_method_1_code
def yX2_init : MethodName := ⟨RX2, "<init>", "()V"⟩
abbrev cX2_copy : ByteArray := prog_4_method_2_code
def yX2_copy : MethodName := ⟨RX2, "copy", "()LReaperWagesLaw$Sim;"⟩
abbrev cX2_back : ByteArray := prog_4_method_3_code
def yX2_back : MethodName := ⟨RX2, "back", "(LReaperWagesLaw$Reaper;)I"⟩
abbrev cX2_pay : ByteArray := prog_4_method_4_code
def yX2_pay : MethodName := ⟨RX2, "pay", "()I"⟩
abbrev cX2_wages : ByteArray := prog_4_method_5_code
def yX2_wages : MethodName := ⟨RX2, "wages", "()I"⟩
abbrev cX2_isSame : ByteArray := prog_4_method_6_code
def yX2_isSame : MethodName := ⟨RX2, "isSame", "(LReaperWages;)Z"⟩
def RX3 : String := "ReaperWagesModel"
def TX3 : u_T := fun k => match k with
  | _ => ("", "", "", false)
def tyX3 : Nat → FieldType := fun k => match k with
  | _ => .int
abbrev wsX30 : List Cond := u_ws RX3 TX3 0
theorem nmX3 : ∀ a, a < 0 → ∀ b, b < 0 → a ≠ b → (TX3 a).2.1 ≠ (TX3 b).2.1 := by decide +kernel
theorem tyX3_ok : ∀ k, k < 0 → parseFieldDescriptor (TX3 k).2.2.1 = some (tyX3 k) := by decide +kernel
def RJx8e188 : String := "java/lang/Cloneable"
def TJx8e188 : u_T := fun k => match k with
  | _ => ("", "", "", false)
def tyJx8e188 : Nat → FieldType := fun k => match k with
  | _ => .int
theorem nmJx8e188 : ∀ a, a < 0 → ∀ b, b < 0 → a ≠ b → (TJx8e188 a).2.1 ≠ (TJx8e188 b).2.1 := by decide +kernel
theorem tyJx8e188_ok : ∀ k, k < 0 → parseFieldDescriptor (TJx8e188 k).2.2.1 = some (tyJx8e188 k) := by decide +kernel
def RJ9 : String := "java/lang/Math"
def TJ9 : u_T := fun k => match k with
  | _ => ("", "", "", false)
def tyJ9 : Nat → FieldType := fun k => match k with
  | _ => .int
abbrev wsJ90 : List Cond := u_ws RJ9 TJ9 0
theorem nmJ9 : ∀ a, a < 0 → ∀ b, b < 0 → a ≠ b → (TJ9 a).2.1 ≠ (TJ9 b).2.1 := by decide +kernel
theorem tyJ9_ok : ∀ k, k < 0 → parseFieldDescriptor (TJ9 k).2.2.1 = some (tyJ9 k) := by decide +kernel
abbrev cJ9_max_7cf53 : ByteArray := prog_11_method_65_code
def yJ9_max_7cf53 : MethodName := ⟨RJ9, "max", "(II)I"⟩
abbrev cJ9_min_7cf53 : ByteArray := prog_11_method_69_code
def yJ9_min_7cf53 : MethodName := ⟨RJ9, "min", "(II)I"⟩
def RJ0 : String := "java/lang/String"
def TJ0 : u_T := fun k => match k with
  | _ => ("", "", "", false)
def tyJ0 : Nat → FieldType := fun k => match k with
  | _ => .int
abbrev wsJ00 : List Cond := u_ws RJ0 TJ0 0
theorem nmJ0 : ∀ a, a < 0 → ∀ b, b < 0 → a ≠ b → (TJ0 a).2.1 ≠ (TJ0 b).2.1 := by decide +kernel
theorem tyJ0_ok : ∀ k, k < 0 → parseFieldDescriptor (TJ0 k).2.2.1 = some (tyJ0 k) := by decide +kernel
def RL : String := "ReaperWagesLaw"
abbrev cL_below : ByteArray := method_2_code
def yL_below : MethodName := ⟨RL, "below", "(II)I"⟩
abbrev cL_cell : ByteArray := method_3_code
def yL_cell : MethodName := ⟨RL, "cell", "([II)I"⟩
abbrev cL_rate : ByteArray := method_4_code
def yL_rate : MethodName := ⟨RL, "rate", "(II)I"⟩
abbrev cL_act : ByteArray := method_5_code
def yL_act : MethodName := ⟨RL, "act", "(LReaperWages;LReaperWagesLaw$Sim;I)Z"⟩
abbrev cL_build : ByteArray := method_6_code
def yL_build : MethodName := ⟨RL, "build", "(LReaperWages;[I)LReaperWagesLaw$Sim;"⟩
abbrev cL_law : ByteArray := code
def yL_law : MethodName := ⟨RL, "law", "([I)Z"⟩
def wsL_law0_r1 : List Cond := [Cond.classLink RL 29 RX0, Cond.instantiable RX0 14, Cond.initialized RX0, Cond.classLink RL 94 "[[I", Cond.arrayClass .int, Cond.methodLink RL 86 yX0_init, Cond.instanceMethod yX0_init, Cond.code yX0_init cX0_init 1 none, Cond.methodLink RX0 1 objectInit, Cond.instanceMethod objectInit, Cond.code objectInit ⟨#[0xb1]⟩ 1 none, Cond.fieldLink RX0 9 "ReaperWages" "kinds" "[I", Cond.fieldLink RX0 13 "ReaperWages" "bound" "[I", Cond.fieldLink RX0 16 "ReaperWages" "worked" "[I", Cond.fieldLink RX0 19 "ReaperWages" "lateMarks" "[I", Cond.fieldLink RX0 22 "ReaperWages" "debts" "[I", Cond.fieldLink RX0 25 "ReaperWages" "carried" "[I", Cond.fieldLink RX0 28 "ReaperWages" "paidOut" "[I", Cond.fieldLink RX0 31 "ReaperWages" "rates" "[I", Cond.fieldLink RX0 34 "ReaperWages" "purse" "[I", Cond.fieldLink RX0 37 "ReaperWages" "trialRates" "[I", Cond.fieldLink RX0 40 "ReaperWages" "trialPurse" "[I", Cond.fieldLink RX0 43 "ReaperWages" "handed" "[I", Cond.methodLink RL 87 yL_build]
def wsL_law0_r2 : List Cond := [Cond.static yL_build, Cond.initialized RL, Cond.code yL_build cL_build 5 (some (.object "ReaperWagesLaw$Sim")), Cond.classLink RL 16 RX2, Cond.instantiable RX2 5, Cond.initialized RX2, Cond.instanceMethod yX2_init, Cond.code yX2_init cX2_init 1 none, Cond.methodLink RX2 1 objectInit, Cond.fieldLink RX2 7 "ReaperWagesLaw$Sim" "rates" "[I", Cond.fieldLink RX2 13 "ReaperWagesLaw$Sim" "chest" "[I", Cond.classLink RX2 16 RX1, Cond.fieldLink RX2 18 "ReaperWagesLaw$Sim" "all" "[LReaperWagesLaw$Reaper;", Cond.methodLink RL 78 yL_cell, Cond.static yL_cell, Cond.code yL_cell cL_cell 2 (some .int), Cond.constant RL 8 (790386105), Cond.methodLink RL 9 yL_below, Cond.static yL_below, Cond.code yL_below cL_below 2 (some .int), Cond.constant RL 7 (2147483647), Cond.methodLink RL 82 yL_act, Cond.static yL_act, Cond.code yL_act cL_act 15 (some .boolean)]
def wsL_law0_r3 : List Cond := [Cond.fieldLink RL 15 "ReaperWagesLaw$Sim" "all" "[LReaperWagesLaw$Reaper;", Cond.classLink RL 21 RX1, Cond.instantiable RX1 7, Cond.initialized RX1, Cond.fieldLink RL 24 "ReaperWagesLaw$Reaper" "kind" "I", Cond.fieldLink RL 34 "ReaperWagesLaw$Sim" "rates" "[I", Cond.fieldLink RL 44 "ReaperWagesLaw$Sim" "chest" "[I", Cond.fieldLink RL 50 "ReaperWagesLaw$Reaper" "sheaves" "I", Cond.fieldLink RL 56 "ReaperWagesLaw$Reaper" "debt" "I", Cond.fieldLink RL 67 "ReaperWagesLaw$Reaper" "hours" "I", Cond.fieldLink RL 70 "ReaperWagesLaw$Reaper" "late" "I", Cond.instanceMethod yX1_init, Cond.code yX1_init cX1_init 1 none, Cond.methodLink RX1 1 objectInit, Cond.methodLink RL 28 yX0_hire, Cond.instanceMethod yX0_hire, Cond.selects RX0 yX0_hire yX0_hire, Cond.code yX0_hire cX0_hire 2 (some .int), Cond.fieldLink RX0 50 "ReaperWages" "hired" "I", Cond.methodLink RX0 46 yX0_requireArgument, Cond.static yX0_requireArgument, Cond.code yX0_requireArgument cX0_requireArgument 3 none, Cond.classLink RX0 163 "java/lang/IllegalArgumentException", Cond.initialized "java/lang/IllegalArgumentException"]
def wsL_law0_r4 : List Cond := [Cond.methodLink RX0 54 yX0_requireState, Cond.static yX0_requireState, Cond.code yX0_requireState cX0_requireState 1 none, Cond.classLink RX0 168 "java/lang/IllegalStateException", Cond.initialized "java/lang/IllegalStateException", Cond.methodLink RL 38 yL_rate, Cond.static yL_rate, Cond.code yL_rate cL_rate 4 (some .int), Cond.methodLink RL 41 yX0_setRate, Cond.instanceMethod yX0_setRate, Cond.selects RX0 yX0_setRate yX0_setRate, Cond.code yX0_setRate cX0_setRate 4 (some .int), Cond.methodLink RX0 58 yX0_requireRate, Cond.static yX0_requireRate, Cond.code yX0_requireRate cX0_requireRate 2 none, Cond.fieldLink RX0 114 "ReaperWages" "LEAST_RATE" "[I", Cond.fieldLink RX0 117 "ReaperWages" "MOST_RATE" "[I", Cond.methodLink RX0 62 yX0_requireIndex, Cond.static yX0_requireIndex, Cond.code yX0_requireIndex cX0_requireIndex 2 none, Cond.classLink RX0 156 "java/lang/IndexOutOfBoundsException", Cond.initialized "java/lang/IndexOutOfBoundsException", Cond.methodLink RL 47 yX0_fill, Cond.instanceMethod yX0_fill]
def wsL_law0_r5 : List Cond := [Cond.selects RX0 yX0_fill yX0_fill, Cond.code yX0_fill cX0_fill 3 (some .int), Cond.methodLink RL 53 yX0_bind, Cond.instanceMethod yX0_bind, Cond.selects RX0 yX0_bind yX0_bind, Cond.code yX0_bind cX0_bind 3 (some .int), Cond.methodLink RL 59 yX0_lend, Cond.instanceMethod yX0_lend, Cond.selects RX0 yX0_lend yX0_lend, Cond.code yX0_lend cX0_lend 3 (some .int), Cond.methodLink RL 62 yX0_pay, Cond.instanceMethod yX0_pay, Cond.selects RX0 yX0_pay yX0_pay, Cond.code yX0_pay cX0_pay 3 (some .int), Cond.fieldLink RX0 69 "ReaperWages" "week" "I", Cond.methodLink RX0 65 yX0_settle, Cond.instanceMethod yX0_settle, Cond.selects RX0 yX0_settle yX0_settle, Cond.code yX0_settle cX0_settle 5 (some .int), Cond.methodLink RX0 85 yX0_coming, Cond.instanceMethod yX0_coming, Cond.selects RX0 yX0_coming yX0_coming, Cond.code yX0_coming cX0_coming 2 (some .int), Cond.methodLink RX0 82 yX0_weekWage]
def wsL_law0_r6 : List Cond := [Cond.instanceMethod yX0_weekWage, Cond.selects RX0 yX0_weekWage yX0_weekWage, Cond.code yX0_weekWage cX0_weekWage 3 (some .int), Cond.methodLink RX0 147 Lib.Math.max.name, Cond.static Lib.Math.max.name, Cond.initialized "java/lang/Math", Cond.code Lib.Math.max.name Lib.Math.max.code 2 (some .int), Cond.methodLink RX0 75 yX0_wageByPieces, Cond.instanceMethod yX0_wageByPieces, Cond.selects RX0 yX0_wageByPieces yX0_wageByPieces, Cond.code yX0_wageByPieces cX0_wageByPieces 8 (some .int), Cond.methodLink RX0 142 Lib.Math.min.name, Cond.static Lib.Math.min.name, Cond.code Lib.Math.min.name Lib.Math.min.code 2 (some .int), Cond.constantLong RX0 145 (1000), Cond.methodLink RX0 79 yX0_wageByHours, Cond.instanceMethod yX0_wageByHours, Cond.selects RX0 yX0_wageByHours yX0_wageByHours, Cond.code yX0_wageByHours cX0_wageByHours 3 (some .int), Cond.methodLink RX0 72 yX0_hoursThatCount, Cond.instanceMethod yX0_hoursThatCount, Cond.selects RX0 yX0_hoursThatCount yX0_hoursThatCount, Cond.code yX0_hoursThatCount cX0_hoursThatCount 5 (some .int), Cond.methodLink RX0 88 yX0_takenBack]
def wsL_law0_r7 : List Cond := [Cond.instanceMethod yX0_takenBack, Cond.selects RX0 yX0_takenBack yX0_takenBack, Cond.code yX0_takenBack cX0_takenBack 3 (some .int), Cond.methodLink RX0 150 yX0_wholeParts, Cond.static yX0_wholeParts, Cond.code yX0_wholeParts cX0_wholeParts 2 (some .int), Cond.methodLink RX0 99 yX0_handOut, Cond.instanceMethod yX0_handOut, Cond.selects RX0 yX0_handOut yX0_handOut, Cond.code yX0_handOut cX0_handOut 6 (some .int), Cond.fieldLink RX0 153 "ReaperWages" "COIN_WORTH" "[I", Cond.methodLink RL 66 yX2_pay, Cond.instanceMethod yX2_pay, Cond.selects RX2 yX2_pay yX2_pay, Cond.code yX2_pay cX2_pay 8 (some .int), Cond.classLink RX2 46 "[[I", Cond.fieldLink RX2 48 "ReaperWagesLaw$Sim" "handed" "[[I", Cond.fieldLink RX2 40 "ReaperWagesLaw$Reaper" "carried" "I", Cond.fieldLink RX2 43 "ReaperWagesLaw$Reaper" "debt" "I", Cond.fieldLink RX2 55 "ReaperWagesLaw$Reaper" "paid" "I", Cond.fieldLink RX2 58 "ReaperWagesLaw$Reaper" "sheaves" "I", Cond.fieldLink RX2 61 "ReaperWagesLaw$Reaper" "hours" "I", Cond.fieldLink RX2 64 "ReaperWagesLaw$Reaper" "late" "I", Cond.fieldLink RX2 23 "ReaperWagesLaw$Sim" "week" "I"]
def wsL_law0_r8 : List Cond := [Cond.methodLink RX2 51 yX2_back, Cond.instanceMethod yX2_back, Cond.selects RX2 yX2_back yX2_back, Cond.code yX2_back cX2_back 3 (some .int), Cond.methodLink RX2 36 yX1_wage, Cond.instanceMethod yX1_wage, Cond.selects RX1 yX1_wage yX1_wage, Cond.code yX1_wage cX1_wage 4 (some .int), Cond.fieldLink RX1 10 "ReaperWagesLaw$Reaper" "kind" "I", Cond.methodLink RX1 32 yX1_pieces, Cond.instanceMethod yX1_pieces, Cond.selects RX1 yX1_pieces yX1_pieces, Cond.code yX1_pieces cX1_pieces 3 (some .int), Cond.fieldLink RX1 14 "ReaperWagesLaw$Reaper" "sheaves" "I", Cond.methodLink RX1 36 yX1_counting, Cond.instanceMethod yX1_counting, Cond.selects RX1 yX1_counting yX1_counting, Cond.code yX1_counting cX1_counting 2 (some .int), Cond.fieldLink RX1 17 "ReaperWagesLaw$Reaper" "hours" "I", Cond.fieldLink RX1 20 "ReaperWagesLaw$Reaper" "late" "I", Cond.methodLink RL 73 yX0_work, Cond.instanceMethod yX0_work, Cond.selects RX0 yX0_work yX0_work, Cond.code yX0_work cX0_work 4 (some .int)]
def wsL_law0_r9 : List Cond := [Cond.methodLink RL 91 yX0_count, Cond.instanceMethod yX0_count, Cond.selects RX0 yX0_count yX0_count, Cond.code yX0_count cX0_count 2 (some .int), Cond.methodLink RX0 103 yX0_sumOfHired, Cond.instanceMethod yX0_sumOfHired, Cond.selects RX0 yX0_sumOfHired yX0_sumOfHired, Cond.code yX0_sumOfHired cX0_sumOfHired 4 (some .int), Cond.methodLink RX0 107 yX0_worthOfPurse, Cond.instanceMethod yX0_worthOfPurse, Cond.selects RX0 yX0_worthOfPurse yX0_worthOfPurse, Cond.code yX0_worthOfPurse cX0_worthOfPurse 3 (some .int), Cond.methodLink RX0 111 yX0_allWages, Cond.instanceMethod yX0_allWages, Cond.selects RX0 yX0_allWages yX0_allWages, Cond.code yX0_allWages cX0_allWages 4 (some .int), Cond.methodLink RL 96 yX0_coins, Cond.instanceMethod yX0_coins, Cond.selects RX0 yX0_coins yX0_coins, Cond.code yX0_coins cX0_coins 4 (some .int), Cond.methodLink RX0 95 yX0_copyRow, Cond.static yX0_copyRow, Cond.code yX0_copyRow cX0_copyRow 4 none, Cond.methodLink RX0 92 yX0_restToPay]
def wsL_law0_r10 : List Cond := [Cond.instanceMethod yX0_restToPay, Cond.selects RX0 yX0_restToPay yX0_restToPay, Cond.code yX0_restToPay cX0_restToPay 3 (some .int), Cond.methodLink RL 99 yX0_told, Cond.instanceMethod yX0_told, Cond.selects RX0 yX0_told yX0_told, Cond.code yX0_told cX0_told 3 (some .int), Cond.methodLink RL 102 yX0_wage, Cond.instanceMethod yX0_wage, Cond.selects RX0 yX0_wage yX0_wage, Cond.code yX0_wage cX0_wage 3 (some .int), Cond.methodLink RL 105 yX0_mean, Cond.instanceMethod yX0_mean, Cond.selects RX0 yX0_mean yX0_mean, Cond.code yX0_mean cX0_mean 1 (some .double), Cond.methodLink RL 109 yX0_chest, Cond.instanceMethod yX0_chest, Cond.selects RX0 yX0_chest yX0_chest, Cond.code yX0_chest cX0_chest 2 (some .int), Cond.methodLink RL 111 yX0_lacks, Cond.instanceMethod yX0_lacks, Cond.selects RX0 yX0_lacks yX0_lacks, Cond.code yX0_lacks cX0_lacks 4 (some .int), Cond.methodLink RL 114 yX2_isSame]
def wsL_law0_r11 : List Cond := [Cond.instanceMethod yX2_isSame, Cond.selects RX2 yX2_isSame yX2_isSame, Cond.code yX2_isSame cX2_isSame 12 (some .boolean), Cond.fieldLink RX2 74 "ReaperWagesLaw$Reaper" "kind" "I", Cond.methodLink RX2 67 yX2_copy, Cond.instanceMethod yX2_copy, Cond.selects RX2 yX2_copy yX2_copy, Cond.code yX2_copy cX2_copy 3 (some (.object "ReaperWagesLaw$Sim")), Cond.classLink RX2 8 RX2, Cond.methodLink RX2 27 ⟨"[I", "clone", "()Ljava/lang/Object;"⟩, Cond.sameMethod "[I" "java/lang/Object" "clone" "()Ljava/lang/Object;", Cond.native ⟨"java/lang/Object", "clone", "()Ljava/lang/Object;"⟩, Cond.instanceMethod ⟨"java/lang/Object", "clone", "()Ljava/lang/Object;"⟩, Cond.selects "[I" ⟨"[I", "clone", "()Ljava/lang/Object;"⟩ ⟨"java/lang/Object", "clone", "()Ljava/lang/Object;"⟩, Cond.classLink RX2 28 "[I", Cond.methodLink RX2 22 yX2_init, Cond.methodLink RX2 32 yX1_copy, Cond.instanceMethod yX1_copy, Cond.selects RX1 yX1_copy yX1_copy, Cond.code yX1_copy cX1_copy 2 (some (.object "ReaperWagesLaw$Reaper")), Cond.classLink RX1 7 RX1, Cond.fieldLink RX1 23 "ReaperWagesLaw$Reaper" "debt" "I", Cond.fieldLink RX1 26 "ReaperWagesLaw$Reaper" "carried" "I", Cond.fieldLink RX1 29 "ReaperWagesLaw$Reaper" "paid" "I"]
def wsL_law0_r12 : List Cond := [Cond.methodLink RX1 9 yX1_init, Cond.methodLink RX2 70 yX2_pay, Cond.methodLink RX2 77 yX1_counting, Cond.methodLink RX2 80 yX0_told, Cond.methodLink RX2 86 yX1_pieces, Cond.methodLink RX2 89 yX0_wage, Cond.methodLink RX2 91 yX0_coins, Cond.methodLink RX2 94 yX0_rate, Cond.instanceMethod yX0_rate, Cond.selects RX0 yX0_rate yX0_rate, Cond.code yX0_rate cX0_rate 2 (some .int), Cond.methodLink RX2 98 yX0_chest, Cond.methodLink RX2 100 yX2_wages, Cond.instanceMethod yX2_wages, Cond.selects RX2 yX2_wages yX2_wages, Cond.code yX2_wages cX2_wages 6 (some .int), Cond.methodLink RX2 103 yX0_count, Cond.methodLink RX2 106 yX0_mean]
def wsL_law0 : List Cond := (wsL_law0_r1 ++ (wsL_law0_r2 ++ (wsL_law0_r3 ++ (wsL_law0_r4 ++ (wsL_law0_r5 ++ (wsL_law0_r6 ++ (wsL_law0_r7 ++ (wsL_law0_r8 ++ (wsL_law0_r9 ++ (wsL_law0_r10 ++ (wsL_law0_r11 ++ wsL_law0_r12))))))))))) ++ wsX00 ++ wsX20 ++ wsX10 ++ ([] : List Cond)
def wsL_law : List Cond := wsL_law0 ++ (vx_atS RX0 167 "java/lang/IllegalArgumentException" ["java/lang/RuntimeException", "java/lang/Exception"]).filter goodWord ++ (vx_atS RX0 172 "java/lang/IllegalStateException" ["java/lang/RuntimeException", "java/lang/Exception"]).filter goodWord ++ (vx_atS RX0 160 "java/lang/IndexOutOfBoundsException" ["java/lang/RuntimeException", "java/lang/Exception"]).filter goodWord
theorem inlX0 : ∀ w ∈ wsX00, w ∈ wsL_law := fun _ h => List.mem_append_left _ (List.mem_append_left _ (List.mem_append_left _ (List.mem_append_left _ (List.mem_append_left _ (List.mem_append_left _ (List.mem_append_right _ h))))))
theorem inlX1 : ∀ w ∈ wsX10, w ∈ wsL_law := fun _ h => List.mem_append_left _ (List.mem_append_left _ (List.mem_append_left _ (List.mem_append_left _ (List.mem_append_right _ h))))
theorem inlX2 : ∀ w ∈ wsX20, w ∈ wsL_law := fun _ h => List.mem_append_left _ (List.mem_append_left _ (List.mem_append_left _ (List.mem_append_left _ (List.mem_append_left _ (List.mem_append_right _ h)))))
abbrev vwCl : List vw_C := [(RX0, TX0, 14), (RX1, TX1, 7), (RX2, TX2, 5)]

theorem qc0 : ∀ w ∈ wsL_law0_r1, w ∈ wsL_law := fun _ h => List.mem_append_left _ (List.mem_append_left _ (List.mem_append_left _ (List.mem_append_left _ (List.mem_append_left _ (List.mem_append_left _ (List.mem_append_left _ (List.mem_append_left _ h)))))))
theorem qc1 : ∀ w ∈ wsL_law0_r2, w ∈ wsL_law := fun _ h => List.mem_append_left _ (List.mem_append_left _ (List.mem_append_left _ (List.mem_append_left _ (List.mem_append_left _ (List.mem_append_left _ (List.mem_append_left _ (List.mem_append_right _ (List.mem_append_left _ h))))))))
theorem qc2 : ∀ w ∈ wsL_law0_r3, w ∈ wsL_law := fun _ h => List.mem_append_left _ (List.mem_append_left _ (List.mem_append_left _ (List.mem_append_left _ (List.mem_append_left _ (List.mem_append_left _ (List.mem_append_left _ (List.mem_append_right _ (List.mem_append_right _ (List.mem_append_left _ h)))))))))
theorem qc3 : ∀ w ∈ wsL_law0_r4, w ∈ wsL_law := fun _ h => List.mem_append_left _ (List.mem_append_left _ (List.mem_append_left _ (List.mem_append_left _ (List.mem_append_left _ (List.mem_append_left _ (List.mem_append_left _ (List.mem_append_right _ (List.mem_append_right _ (List.mem_append_right _ (List.mem_append_left _ h))))))))))
theorem qc4 : ∀ w ∈ wsL_law0_r5, w ∈ wsL_law := fun _ h => List.mem_append_left _ (List.mem_append_left _ (List.mem_append_left _ (List.mem_append_left _ (List.mem_append_left _ (List.mem_append_left _ (List.mem_append_left _ (List.mem_append_right _ (List.mem_append_right _ (List.mem_append_right _ (List.mem_append_right _ (List.mem_append_left _ h)))))))))))
theorem qc5 : ∀ w ∈ wsL_law0_r6, w ∈ wsL_law := fun _ h => List.mem_append_left _ (List.mem_append_left _ (List.mem_append_left _ (List.mem_append_left _ (List.mem_append_left _ (List.mem_append_left _ (List.mem_append_left _ (List.mem_append_right _ (List.mem_append_right _ (List.mem_append_right _ (List.mem_append_right _ (List.mem_append_right _ (List.mem_append_left _ h))))))))))))
theorem qc6 : ∀ w ∈ wsL_law0_r7, w ∈ wsL_law := fun _ h => List.mem_append_left _ (List.mem_append_left _ (List.mem_append_left _ (List.mem_append_left _ (List.mem_append_left _ (List.mem_append_left _ (List.mem_append_left _ (List.mem_append_right _ (List.mem_append_right _ (List.mem_append_right _ (List.mem_append_right _ (List.mem_append_right _ (List.mem_append_right _ (List.mem_append_left _ h)))))))))))))
theorem qc7 : ∀ w ∈ wsL_law0_r8, w ∈ wsL_law := fun _ h => List.mem_append_left _ (List.mem_append_left _ (List.mem_append_left _ (List.mem_append_left _ (List.mem_append_left _ (List.mem_append_left _ (List.mem_append_left _ (List.mem_append_right _ (List.mem_append_right _ (List.mem_append_right _ (List.mem_append_right _ (List.mem_append_right _ (List.mem_append_right _ (List.mem_append_right _ (List.mem_append_left _ h))))))))))))))
theorem qc8 : ∀ w ∈ wsL_law0_r9, w ∈ wsL_law := fun _ h => List.mem_append_left _ (List.mem_append_left _ (List.mem_append_left _ (List.mem_append_left _ (List.mem_append_left _ (List.mem_append_left _ (List.mem_append_left _ (List.mem_append_right _ (List.mem_append_right _ (List.mem_append_right _ (List.mem_append_right _ (List.mem_append_right _ (List.mem_append_right _ (List.mem_append_right _ (List.mem_append_right _ (List.mem_append_left _ h)))))))))))))))
theorem qc9 : ∀ w ∈ wsL_law0_r10, w ∈ wsL_law := fun _ h => List.mem_append_left _ (List.mem_append_left _ (List.mem_append_left _ (List.mem_append_left _ (List.mem_append_left _ (List.mem_append_left _ (List.mem_append_left _ (List.mem_append_right _ (List.mem_append_right _ (List.mem_append_right _ (List.mem_append_right _ (List.mem_append_right _ (List.mem_append_right _ (List.mem_append_right _ (List.mem_append_right _ (List.mem_append_right _ (List.mem_append_left _ h))))))))))))))))
theorem qc10 : ∀ w ∈ wsL_law0_r11, w ∈ wsL_law := fun _ h => List.mem_append_left _ (List.mem_append_left _ (List.mem_append_left _ (List.mem_append_left _ (List.mem_append_left _ (List.mem_append_left _ (List.mem_append_left _ (List.mem_append_right _ (List.mem_append_right _ (List.mem_append_right _ (List.mem_append_right _ (List.mem_append_right _ (List.mem_append_right _ (List.mem_append_right _ (List.mem_append_right _ (List.mem_append_right _ (List.mem_append_right _ (List.mem_append_left _ h)))))))))))))))))
theorem qc11 : ∀ w ∈ wsL_law0_r12, w ∈ wsL_law := fun _ h => List.mem_append_left _ (List.mem_append_left _ (List.mem_append_left _ (List.mem_append_left _ (List.mem_append_left _ (List.mem_append_left _ (List.mem_append_left _ (List.mem_append_right _ (List.mem_append_right _ (List.mem_append_right _ (List.mem_append_right _ (List.mem_append_right _ (List.mem_append_right _ (List.mem_append_right _ (List.mem_append_right _ (List.mem_append_right _ (List.mem_append_right _ (List.mem_append_right _ (h))))))))))))))))))
theorem q0 : Cond.classLink RL 29 RX0 ∈ wsL_law := qc0 _ (List.mem_of_getElem? (i := 0) rfl)
theorem q1 : Cond.instantiable RX0 14 ∈ wsL_law := qc0 _ (List.mem_of_getElem? (i := 1) rfl)
theorem q2 : Cond.initialized RX0 ∈ wsL_law := qc0 _ (List.mem_of_getElem? (i := 2) rfl)
theorem q3 : Cond.classLink RL 94 "[[I" ∈ wsL_law := qc0 _ (List.mem_of_getElem? (i := 3) rfl)
theorem q4 : Cond.arrayClass .int ∈ wsL_law := qc0 _ (List.mem_of_getElem? (i := 4) rfl)
theorem q5 : Cond.methodLink RL 86 yX0_init ∈ wsL_law := qc0 _ (List.mem_of_getElem? (i := 5) rfl)
theorem q6 : Cond.instanceMethod yX0_init ∈ wsL_law := qc0 _ (List.mem_of_getElem? (i := 6) rfl)
theorem q7 : Cond.code yX0_init cX0_init 1 none ∈ wsL_law := qc0 _ (List.mem_of_getElem? (i := 7) rfl)
theorem q8 : Cond.methodLink RX0 1 objectInit ∈ wsL_law := qc0 _ (List.mem_of_getElem? (i := 8) rfl)
theorem q9 : Cond.instanceMethod objectInit ∈ wsL_law := qc0 _ (List.mem_of_getElem? (i := 9) rfl)
theorem q10 : Cond.code objectInit ⟨#[0xb1]⟩ 1 none ∈ wsL_law := qc0 _ (List.mem_of_getElem? (i := 10) rfl)
theorem q11 : Cond.fieldLink RX0 9 "ReaperWages" "kinds" "[I" ∈ wsL_law := qc0 _ (List.mem_of_getElem? (i := 11) rfl)
theorem q12 : Cond.fieldLink RX0 13 "ReaperWages" "bound" "[I" ∈ wsL_law := qc0 _ (List.mem_of_getElem? (i := 12) rfl)
theorem q13 : Cond.fieldLink RX0 16 "ReaperWages" "worked" "[I" ∈ wsL_law := qc0 _ (List.mem_of_getElem? (i := 13) rfl)
theorem q14 : Cond.fieldLink RX0 19 "ReaperWages" "lateMarks" "[I" ∈ wsL_law := qc0 _ (List.mem_of_getElem? (i := 14) rfl)
theorem q15 : Cond.fieldLink RX0 22 "ReaperWages" "debts" "[I" ∈ wsL_law := qc0 _ (List.mem_of_getElem? (i := 15) rfl)
theorem q16 : Cond.fieldLink RX0 25 "ReaperWages" "carried" "[I" ∈ wsL_law := qc0 _ (List.mem_of_getElem? (i := 16) rfl)
theorem q17 : Cond.fieldLink RX0 28 "ReaperWages" "paidOut" "[I" ∈ wsL_law := qc0 _ (List.mem_of_getElem? (i := 17) rfl)
theorem q18 : Cond.fieldLink RX0 31 "ReaperWages" "rates" "[I" ∈ wsL_law := qc0 _ (List.mem_of_getElem? (i := 18) rfl)
theorem q19 : Cond.fieldLink RX0 34 "ReaperWages" "purse" "[I" ∈ wsL_law := qc0 _ (List.mem_of_getElem? (i := 19) rfl)
theorem q20 : Cond.fieldLink RX0 37 "ReaperWages" "trialRates" "[I" ∈ wsL_law := qc0 _ (List.mem_of_getElem? (i := 20) rfl)
theorem q21 : Cond.fieldLink RX0 40 "ReaperWages" "trialPurse" "[I" ∈ wsL_law := qc0 _ (List.mem_of_getElem? (i := 21) rfl)
theorem q22 : Cond.fieldLink RX0 43 "ReaperWages" "handed" "[I" ∈ wsL_law := qc0 _ (List.mem_of_getElem? (i := 22) rfl)
theorem q23 : Cond.methodLink RL 87 yL_build ∈ wsL_law := qc0 _ (List.mem_of_getElem? (i := 23) rfl)
theorem q24 : Cond.static yL_build ∈ wsL_law := qc1 _ (List.mem_of_getElem? (i := 0) rfl)
theorem q25 : Cond.initialized RL ∈ wsL_law := qc1 _ (List.mem_of_getElem? (i := 1) rfl)
theorem q26 : Cond.code yL_build cL_build 5 (some (.object "ReaperWagesLaw$Sim")) ∈ wsL_law := qc1 _ (List.mem_of_getElem? (i := 2) rfl)
theorem q27 : Cond.classLink RL 16 RX2 ∈ wsL_law := qc1 _ (List.mem_of_getElem? (i := 3) rfl)
theorem q28 : Cond.instantiable RX2 5 ∈ wsL_law := qc1 _ (List.mem_of_getElem? (i := 4) rfl)
theorem q29 : Cond.initialized RX2 ∈ wsL_law := qc1 _ (List.mem_of_getElem? (i := 5) rfl)
theorem q30 : Cond.instanceMethod yX2_init ∈ wsL_law := qc1 _ (List.mem_of_getElem? (i := 6) rfl)
theorem q31 : Cond.code yX2_init cX2_init 1 none ∈ wsL_law := qc1 _ (List.mem_of_getElem? (i := 7) rfl)
theorem q32 : Cond.methodLink RX2 1 objectInit ∈ wsL_law := qc1 _ (List.mem_of_getElem? (i := 8) rfl)
theorem q33 : Cond.fieldLink RX2 7 "ReaperWagesLaw$Sim" "rates" "[I" ∈ wsL_law := qc1 _ (List.mem_of_getElem? (i := 9) rfl)
theorem q34 : Cond.fieldLink RX2 13 "ReaperWagesLaw$Sim" "chest" "[I" ∈ wsL_law := qc1 _ (List.mem_of_getElem? (i := 10) rfl)
theorem q35 : Cond.classLink RX2 16 RX1 ∈ wsL_law := qc1 _ (List.mem_of_getElem? (i := 11) rfl)
theorem q36 : Cond.fieldLink RX2 18 "ReaperWagesLaw$Sim" "all" "[LReaperWagesLaw$Reaper;" ∈ wsL_law := qc1 _ (List.mem_of_getElem? (i := 12) rfl)
theorem q37 : Cond.methodLink RL 78 yL_cell ∈ wsL_law := qc1 _ (List.mem_of_getElem? (i := 13) rfl)
theorem q38 : Cond.static yL_cell ∈ wsL_law := qc1 _ (List.mem_of_getElem? (i := 14) rfl)
theorem q39 : Cond.code yL_cell cL_cell 2 (some .int) ∈ wsL_law := qc1 _ (List.mem_of_getElem? (i := 15) rfl)
theorem q40 : Cond.constant RL 8 (790386105) ∈ wsL_law := qc1 _ (List.mem_of_getElem? (i := 16) rfl)
theorem q41 : Cond.methodLink RL 9 yL_below ∈ wsL_law := qc1 _ (List.mem_of_getElem? (i := 17) rfl)
theorem q42 : Cond.static yL_below ∈ wsL_law := qc1 _ (List.mem_of_getElem? (i := 18) rfl)
theorem q43 : Cond.code yL_below cL_below 2 (some .int) ∈ wsL_law := qc1 _ (List.mem_of_getElem? (i := 19) rfl)
theorem q44 : Cond.constant RL 7 (2147483647) ∈ wsL_law := qc1 _ (List.mem_of_getElem? (i := 20) rfl)
theorem q45 : Cond.methodLink RL 82 yL_act ∈ wsL_law := qc1 _ (List.mem_of_getElem? (i := 21) rfl)
theorem q46 : Cond.static yL_act ∈ wsL_law := qc1 _ (List.mem_of_getElem? (i := 22) rfl)
theorem q47 : Cond.code yL_act cL_act 15 (some .boolean) ∈ wsL_law := qc1 _ (List.mem_of_getElem? (i := 23) rfl)
theorem q48 : Cond.fieldLink RL 15 "ReaperWagesLaw$Sim" "all" "[LReaperWagesLaw$Reaper;" ∈ wsL_law := qc2 _ (List.mem_of_getElem? (i := 0) rfl)
theorem q49 : Cond.classLink RL 21 RX1 ∈ wsL_law := qc2 _ (List.mem_of_getElem? (i := 1) rfl)
theorem q50 : Cond.instantiable RX1 7 ∈ wsL_law := qc2 _ (List.mem_of_getElem? (i := 2) rfl)
theorem q51 : Cond.initialized RX1 ∈ wsL_law := qc2 _ (List.mem_of_getElem? (i := 3) rfl)
theorem q52 : Cond.fieldLink RL 24 "ReaperWagesLaw$Reaper" "kind" "I" ∈ wsL_law := qc2 _ (List.mem_of_getElem? (i := 4) rfl)
theorem q53 : Cond.fieldLink RL 34 "ReaperWagesLaw$Sim" "rates" "[I" ∈ wsL_law := qc2 _ (List.mem_of_getElem? (i := 5) rfl)
theorem q54 : Cond.fieldLink RL 44 "ReaperWagesLaw$Sim" "chest" "[I" ∈ wsL_law := qc2 _ (List.mem_of_getElem? (i := 6) rfl)
theorem q55 : Cond.fieldLink RL 50 "ReaperWagesLaw$Reaper" "sheaves" "I" ∈ wsL_law := qc2 _ (List.mem_of_getElem? (i := 7) rfl)
theorem q56 : Cond.fieldLink RL 56 "ReaperWagesLaw$Reaper" "debt" "I" ∈ wsL_law := qc2 _ (List.mem_of_getElem? (i := 8) rfl)
theorem q57 : Cond.fieldLink RL 67 "ReaperWagesLaw$Reaper" "hours" "I" ∈ wsL_law := qc2 _ (List.mem_of_getElem? (i := 9) rfl)
theorem q58 : Cond.fieldLink RL 70 "ReaperWagesLaw$Reaper" "late" "I" ∈ wsL_law := qc2 _ (List.mem_of_getElem? (i := 10) rfl)
theorem q59 : Cond.instanceMethod yX1_init ∈ wsL_law := qc2 _ (List.mem_of_getElem? (i := 11) rfl)
theorem q60 : Cond.code yX1_init cX1_init 1 none ∈ wsL_law := qc2 _ (List.mem_of_getElem? (i := 12) rfl)
theorem q61 : Cond.methodLink RX1 1 objectInit ∈ wsL_law := qc2 _ (List.mem_of_getElem? (i := 13) rfl)
theorem q62 : Cond.methodLink RL 28 yX0_hire ∈ wsL_law := qc2 _ (List.mem_of_getElem? (i := 14) rfl)
theorem q63 : Cond.instanceMethod yX0_hire ∈ wsL_law := qc2 _ (List.mem_of_getElem? (i := 15) rfl)
theorem q64 : Cond.selects RX0 yX0_hire yX0_hire ∈ wsL_law := qc2 _ (List.mem_of_getElem? (i := 16) rfl)
theorem q65 : Cond.code yX0_hire cX0_hire 2 (some .int) ∈ wsL_law := qc2 _ (List.mem_of_getElem? (i := 17) rfl)
theorem q66 : Cond.fieldLink RX0 50 "ReaperWages" "hired" "I" ∈ wsL_law := qc2 _ (List.mem_of_getElem? (i := 18) rfl)
theorem q67 : Cond.methodLink RX0 46 yX0_requireArgument ∈ wsL_law := qc2 _ (List.mem_of_getElem? (i := 19) rfl)
theorem q68 : Cond.static yX0_requireArgument ∈ wsL_law := qc2 _ (List.mem_of_getElem? (i := 20) rfl)
theorem q69 : Cond.code yX0_requireArgument cX0_requireArgument 3 none ∈ wsL_law := qc2 _ (List.mem_of_getElem? (i := 21) rfl)
theorem q70 : Cond.classLink RX0 163 "java/lang/IllegalArgumentException" ∈ wsL_law := qc2 _ (List.mem_of_getElem? (i := 22) rfl)
theorem q71 : Cond.initialized "java/lang/IllegalArgumentException" ∈ wsL_law := qc2 _ (List.mem_of_getElem? (i := 23) rfl)
theorem q72 : Cond.methodLink RX0 54 yX0_requireState ∈ wsL_law := qc3 _ (List.mem_of_getElem? (i := 0) rfl)
theorem q73 : Cond.static yX0_requireState ∈ wsL_law := qc3 _ (List.mem_of_getElem? (i := 1) rfl)
theorem q74 : Cond.code yX0_requireState cX0_requireState 1 none ∈ wsL_law := qc3 _ (List.mem_of_getElem? (i := 2) rfl)
theorem q75 : Cond.classLink RX0 168 "java/lang/IllegalStateException" ∈ wsL_law := qc3 _ (List.mem_of_getElem? (i := 3) rfl)
theorem q76 : Cond.initialized "java/lang/IllegalStateException" ∈ wsL_law := qc3 _ (List.mem_of_getElem? (i := 4) rfl)
theorem q77 : Cond.methodLink RL 38 yL_rate ∈ wsL_law := qc3 _ (List.mem_of_getElem? (i := 5) rfl)
theorem q78 : Cond.static yL_rate ∈ wsL_law := qc3 _ (List.mem_of_getElem? (i := 6) rfl)
theorem q79 : Cond.code yL_rate cL_rate 4 (some .int) ∈ wsL_law := qc3 _ (List.mem_of_getElem? (i := 7) rfl)
theorem q80 : Cond.methodLink RL 41 yX0_setRate ∈ wsL_law := qc3 _ (List.mem_of_getElem? (i := 8) rfl)
theorem q81 : Cond.instanceMethod yX0_setRate ∈ wsL_law := qc3 _ (List.mem_of_getElem? (i := 9) rfl)
theorem q82 : Cond.selects RX0 yX0_setRate yX0_setRate ∈ wsL_law := qc3 _ (List.mem_of_getElem? (i := 10) rfl)
theorem q83 : Cond.code yX0_setRate cX0_setRate 4 (some .int) ∈ wsL_law := qc3 _ (List.mem_of_getElem? (i := 11) rfl)
theorem q84 : Cond.methodLink RX0 58 yX0_requireRate ∈ wsL_law := qc3 _ (List.mem_of_getElem? (i := 12) rfl)
theorem q85 : Cond.static yX0_requireRate ∈ wsL_law := qc3 _ (List.mem_of_getElem? (i := 13) rfl)
theorem q86 : Cond.code yX0_requireRate cX0_requireRate 2 none ∈ wsL_law := qc3 _ (List.mem_of_getElem? (i := 14) rfl)
theorem q87 : Cond.fieldLink RX0 114 "ReaperWages" "LEAST_RATE" "[I" ∈ wsL_law := qc3 _ (List.mem_of_getElem? (i := 15) rfl)
theorem q88 : Cond.fieldLink RX0 117 "ReaperWages" "MOST_RATE" "[I" ∈ wsL_law := qc3 _ (List.mem_of_getElem? (i := 16) rfl)
theorem q89 : Cond.methodLink RX0 62 yX0_requireIndex ∈ wsL_law := qc3 _ (List.mem_of_getElem? (i := 17) rfl)
theorem q90 : Cond.static yX0_requireIndex ∈ wsL_law := qc3 _ (List.mem_of_getElem? (i := 18) rfl)
theorem q91 : Cond.code yX0_requireIndex cX0_requireIndex 2 none ∈ wsL_law := qc3 _ (List.mem_of_getElem? (i := 19) rfl)
theorem q92 : Cond.classLink RX0 156 "java/lang/IndexOutOfBoundsException" ∈ wsL_law := qc3 _ (List.mem_of_getElem? (i := 20) rfl)
theorem q93 : Cond.initialized "java/lang/IndexOutOfBoundsException" ∈ wsL_law := qc3 _ (List.mem_of_getElem? (i := 21) rfl)
theorem q94 : Cond.methodLink RL 47 yX0_fill ∈ wsL_law := qc3 _ (List.mem_of_getElem? (i := 22) rfl)
theorem q95 : Cond.instanceMethod yX0_fill ∈ wsL_law := qc3 _ (List.mem_of_getElem? (i := 23) rfl)
theorem q96 : Cond.selects RX0 yX0_fill yX0_fill ∈ wsL_law := qc4 _ (List.mem_of_getElem? (i := 0) rfl)
theorem q97 : Cond.code yX0_fill cX0_fill 3 (some .int) ∈ wsL_law := qc4 _ (List.mem_of_getElem? (i := 1) rfl)
theorem q98 : Cond.methodLink RL 53 yX0_bind ∈ wsL_law := qc4 _ (List.mem_of_getElem? (i := 2) rfl)
theorem q99 : Cond.instanceMethod yX0_bind ∈ wsL_law := qc4 _ (List.mem_of_getElem? (i := 3) rfl)
theorem q100 : Cond.selects RX0 yX0_bind yX0_bind ∈ wsL_law := qc4 _ (List.mem_of_getElem? (i := 4) rfl)
theorem q101 : Cond.code yX0_bind cX0_bind 3 (some .int) ∈ wsL_law := qc4 _ (List.mem_of_getElem? (i := 5) rfl)
theorem q102 : Cond.methodLink RL 59 yX0_lend ∈ wsL_law := qc4 _ (List.mem_of_getElem? (i := 6) rfl)
theorem q103 : Cond.instanceMethod yX0_lend ∈ wsL_law := qc4 _ (List.mem_of_getElem? (i := 7) rfl)
theorem q104 : Cond.selects RX0 yX0_lend yX0_lend ∈ wsL_law := qc4 _ (List.mem_of_getElem? (i := 8) rfl)
theorem q105 : Cond.code yX0_lend cX0_lend 3 (some .int) ∈ wsL_law := qc4 _ (List.mem_of_getElem? (i := 9) rfl)
theorem q106 : Cond.methodLink RL 62 yX0_pay ∈ wsL_law := qc4 _ (List.mem_of_getElem? (i := 10) rfl)
theorem q107 : Cond.instanceMethod yX0_pay ∈ wsL_law := qc4 _ (List.mem_of_getElem? (i := 11) rfl)
theorem q108 : Cond.selects RX0 yX0_pay yX0_pay ∈ wsL_law := qc4 _ (List.mem_of_getElem? (i := 12) rfl)
theorem q109 : Cond.code yX0_pay cX0_pay 3 (some .int) ∈ wsL_law := qc4 _ (List.mem_of_getElem? (i := 13) rfl)
theorem q110 : Cond.fieldLink RX0 69 "ReaperWages" "week" "I" ∈ wsL_law := qc4 _ (List.mem_of_getElem? (i := 14) rfl)
theorem q111 : Cond.methodLink RX0 65 yX0_settle ∈ wsL_law := qc4 _ (List.mem_of_getElem? (i := 15) rfl)
theorem q112 : Cond.instanceMethod yX0_settle ∈ wsL_law := qc4 _ (List.mem_of_getElem? (i := 16) rfl)
theorem q113 : Cond.selects RX0 yX0_settle yX0_settle ∈ wsL_law := qc4 _ (List.mem_of_getElem? (i := 17) rfl)
theorem q114 : Cond.code yX0_settle cX0_settle 5 (some .int) ∈ wsL_law := qc4 _ (List.mem_of_getElem? (i := 18) rfl)
theorem q115 : Cond.methodLink RX0 85 yX0_coming ∈ wsL_law := qc4 _ (List.mem_of_getElem? (i := 19) rfl)
theorem q116 : Cond.instanceMethod yX0_coming ∈ wsL_law := qc4 _ (List.mem_of_getElem? (i := 20) rfl)
theorem q117 : Cond.selects RX0 yX0_coming yX0_coming ∈ wsL_law := qc4 _ (List.mem_of_getElem? (i := 21) rfl)
theorem q118 : Cond.code yX0_coming cX0_coming 2 (some .int) ∈ wsL_law := qc4 _ (List.mem_of_getElem? (i := 22) rfl)
theorem q119 : Cond.methodLink RX0 82 yX0_weekWage ∈ wsL_law := qc4 _ (List.mem_of_getElem? (i := 23) rfl)
theorem q120 : Cond.instanceMethod yX0_weekWage ∈ wsL_law := qc5 _ (List.mem_of_getElem? (i := 0) rfl)
theorem q121 : Cond.selects RX0 yX0_weekWage yX0_weekWage ∈ wsL_law := qc5 _ (List.mem_of_getElem? (i := 1) rfl)
theorem q122 : Cond.code yX0_weekWage cX0_weekWage 3 (some .int) ∈ wsL_law := qc5 _ (List.mem_of_getElem? (i := 2) rfl)
theorem q123 : Cond.methodLink RX0 147 Lib.Math.max.name ∈ wsL_law := qc5 _ (List.mem_of_getElem? (i := 3) rfl)
theorem q124 : Cond.static Lib.Math.max.name ∈ wsL_law := qc5 _ (List.mem_of_getElem? (i := 4) rfl)
theorem q125 : Cond.initialized "java/lang/Math" ∈ wsL_law := qc5 _ (List.mem_of_getElem? (i := 5) rfl)
theorem q126 : Cond.code Lib.Math.max.name Lib.Math.max.code 2 (some .int) ∈ wsL_law := qc5 _ (List.mem_of_getElem? (i := 6) rfl)
theorem q127 : Cond.methodLink RX0 75 yX0_wageByPieces ∈ wsL_law := qc5 _ (List.mem_of_getElem? (i := 7) rfl)
theorem q128 : Cond.instanceMethod yX0_wageByPieces ∈ wsL_law := qc5 _ (List.mem_of_getElem? (i := 8) rfl)
theorem q129 : Cond.selects RX0 yX0_wageByPieces yX0_wageByPieces ∈ wsL_law := qc5 _ (List.mem_of_getElem? (i := 9) rfl)
theorem q130 : Cond.code yX0_wageByPieces cX0_wageByPieces 8 (some .int) ∈ wsL_law := qc5 _ (List.mem_of_getElem? (i := 10) rfl)
theorem q131 : Cond.methodLink RX0 142 Lib.Math.min.name ∈ wsL_law := qc5 _ (List.mem_of_getElem? (i := 11) rfl)
theorem q132 : Cond.static Lib.Math.min.name ∈ wsL_law := qc5 _ (List.mem_of_getElem? (i := 12) rfl)
theorem q133 : Cond.code Lib.Math.min.name Lib.Math.min.code 2 (some .int) ∈ wsL_law := qc5 _ (List.mem_of_getElem? (i := 13) rfl)
theorem q134 : Cond.constantLong RX0 145 (1000) ∈ wsL_law := qc5 _ (List.mem_of_getElem? (i := 14) rfl)
theorem q135 : Cond.methodLink RX0 79 yX0_wageByHours ∈ wsL_law := qc5 _ (List.mem_of_getElem? (i := 15) rfl)
theorem q136 : Cond.instanceMethod yX0_wageByHours ∈ wsL_law := qc5 _ (List.mem_of_getElem? (i := 16) rfl)
theorem q137 : Cond.selects RX0 yX0_wageByHours yX0_wageByHours ∈ wsL_law := qc5 _ (List.mem_of_getElem? (i := 17) rfl)
theorem q138 : Cond.code yX0_wageByHours cX0_wageByHours 3 (some .int) ∈ wsL_law := qc5 _ (List.mem_of_getElem? (i := 18) rfl)
theorem q139 : Cond.methodLink RX0 72 yX0_hoursThatCount ∈ wsL_law := qc5 _ (List.mem_of_getElem? (i := 19) rfl)
theorem q140 : Cond.instanceMethod yX0_hoursThatCount ∈ wsL_law := qc5 _ (List.mem_of_getElem? (i := 20) rfl)
theorem q141 : Cond.selects RX0 yX0_hoursThatCount yX0_hoursThatCount ∈ wsL_law := qc5 _ (List.mem_of_getElem? (i := 21) rfl)
theorem q142 : Cond.code yX0_hoursThatCount cX0_hoursThatCount 5 (some .int) ∈ wsL_law := qc5 _ (List.mem_of_getElem? (i := 22) rfl)
theorem q143 : Cond.methodLink RX0 88 yX0_takenBack ∈ wsL_law := qc5 _ (List.mem_of_getElem? (i := 23) rfl)
theorem q144 : Cond.instanceMethod yX0_takenBack ∈ wsL_law := qc6 _ (List.mem_of_getElem? (i := 0) rfl)
theorem q145 : Cond.selects RX0 yX0_takenBack yX0_takenBack ∈ wsL_law := qc6 _ (List.mem_of_getElem? (i := 1) rfl)
theorem q146 : Cond.code yX0_takenBack cX0_takenBack 3 (some .int) ∈ wsL_law := qc6 _ (List.mem_of_getElem? (i := 2) rfl)
theorem q147 : Cond.methodLink RX0 150 yX0_wholeParts ∈ wsL_law := qc6 _ (List.mem_of_getElem? (i := 3) rfl)
theorem q148 : Cond.static yX0_wholeParts ∈ wsL_law := qc6 _ (List.mem_of_getElem? (i := 4) rfl)
theorem q149 : Cond.code yX0_wholeParts cX0_wholeParts 2 (some .int) ∈ wsL_law := qc6 _ (List.mem_of_getElem? (i := 5) rfl)
theorem q150 : Cond.methodLink RX0 99 yX0_handOut ∈ wsL_law := qc6 _ (List.mem_of_getElem? (i := 6) rfl)
theorem q151 : Cond.instanceMethod yX0_handOut ∈ wsL_law := qc6 _ (List.mem_of_getElem? (i := 7) rfl)
theorem q152 : Cond.selects RX0 yX0_handOut yX0_handOut ∈ wsL_law := qc6 _ (List.mem_of_getElem? (i := 8) rfl)
theorem q153 : Cond.code yX0_handOut cX0_handOut 6 (some .int) ∈ wsL_law := qc6 _ (List.mem_of_getElem? (i := 9) rfl)
theorem q154 : Cond.fieldLink RX0 153 "ReaperWages" "COIN_WORTH" "[I" ∈ wsL_law := qc6 _ (List.mem_of_getElem? (i := 10) rfl)
theorem q155 : Cond.methodLink RL 66 yX2_pay ∈ wsL_law := qc6 _ (List.mem_of_getElem? (i := 11) rfl)
theorem q156 : Cond.instanceMethod yX2_pay ∈ wsL_law := qc6 _ (List.mem_of_getElem? (i := 12) rfl)
theorem q157 : Cond.selects RX2 yX2_pay yX2_pay ∈ wsL_law := qc6 _ (List.mem_of_getElem? (i := 13) rfl)
theorem q158 : Cond.code yX2_pay cX2_pay 8 (some .int) ∈ wsL_law := qc6 _ (List.mem_of_getElem? (i := 14) rfl)
theorem q159 : Cond.classLink RX2 46 "[[I" ∈ wsL_law := qc6 _ (List.mem_of_getElem? (i := 15) rfl)
theorem q160 : Cond.fieldLink RX2 48 "ReaperWagesLaw$Sim" "handed" "[[I" ∈ wsL_law := qc6 _ (List.mem_of_getElem? (i := 16) rfl)
theorem q161 : Cond.fieldLink RX2 40 "ReaperWagesLaw$Reaper" "carried" "I" ∈ wsL_law := qc6 _ (List.mem_of_getElem? (i := 17) rfl)
theorem q162 : Cond.fieldLink RX2 43 "ReaperWagesLaw$Reaper" "debt" "I" ∈ wsL_law := qc6 _ (List.mem_of_getElem? (i := 18) rfl)
theorem q163 : Cond.fieldLink RX2 55 "ReaperWagesLaw$Reaper" "paid" "I" ∈ wsL_law := qc6 _ (List.mem_of_getElem? (i := 19) rfl)
theorem q164 : Cond.fieldLink RX2 58 "ReaperWagesLaw$Reaper" "sheaves" "I" ∈ wsL_law := qc6 _ (List.mem_of_getElem? (i := 20) rfl)
theorem q165 : Cond.fieldLink RX2 61 "ReaperWagesLaw$Reaper" "hours" "I" ∈ wsL_law := qc6 _ (List.mem_of_getElem? (i := 21) rfl)
theorem q166 : Cond.fieldLink RX2 64 "ReaperWagesLaw$Reaper" "late" "I" ∈ wsL_law := qc6 _ (List.mem_of_getElem? (i := 22) rfl)
theorem q167 : Cond.fieldLink RX2 23 "ReaperWagesLaw$Sim" "week" "I" ∈ wsL_law := qc6 _ (List.mem_of_getElem? (i := 23) rfl)
theorem q168 : Cond.methodLink RX2 51 yX2_back ∈ wsL_law := qc7 _ (List.mem_of_getElem? (i := 0) rfl)
theorem q169 : Cond.instanceMethod yX2_back ∈ wsL_law := qc7 _ (List.mem_of_getElem? (i := 1) rfl)
theorem q170 : Cond.selects RX2 yX2_back yX2_back ∈ wsL_law := qc7 _ (List.mem_of_getElem? (i := 2) rfl)
theorem q171 : Cond.code yX2_back cX2_back 3 (some .int) ∈ wsL_law := qc7 _ (List.mem_of_getElem? (i := 3) rfl)
theorem q172 : Cond.methodLink RX2 36 yX1_wage ∈ wsL_law := qc7 _ (List.mem_of_getElem? (i := 4) rfl)
theorem q173 : Cond.instanceMethod yX1_wage ∈ wsL_law := qc7 _ (List.mem_of_getElem? (i := 5) rfl)
theorem q174 : Cond.selects RX1 yX1_wage yX1_wage ∈ wsL_law := qc7 _ (List.mem_of_getElem? (i := 6) rfl)
theorem q175 : Cond.code yX1_wage cX1_wage 4 (some .int) ∈ wsL_law := qc7 _ (List.mem_of_getElem? (i := 7) rfl)
theorem q176 : Cond.fieldLink RX1 10 "ReaperWagesLaw$Reaper" "kind" "I" ∈ wsL_law := qc7 _ (List.mem_of_getElem? (i := 8) rfl)
theorem q177 : Cond.methodLink RX1 32 yX1_pieces ∈ wsL_law := qc7 _ (List.mem_of_getElem? (i := 9) rfl)
theorem q178 : Cond.instanceMethod yX1_pieces ∈ wsL_law := qc7 _ (List.mem_of_getElem? (i := 10) rfl)
theorem q179 : Cond.selects RX1 yX1_pieces yX1_pieces ∈ wsL_law := qc7 _ (List.mem_of_getElem? (i := 11) rfl)
theorem q180 : Cond.code yX1_pieces cX1_pieces 3 (some .int) ∈ wsL_law := qc7 _ (List.mem_of_getElem? (i := 12) rfl)
theorem q181 : Cond.fieldLink RX1 14 "ReaperWagesLaw$Reaper" "sheaves" "I" ∈ wsL_law := qc7 _ (List.mem_of_getElem? (i := 13) rfl)
theorem q182 : Cond.methodLink RX1 36 yX1_counting ∈ wsL_law := qc7 _ (List.mem_of_getElem? (i := 14) rfl)
theorem q183 : Cond.instanceMethod yX1_counting ∈ wsL_law := qc7 _ (List.mem_of_getElem? (i := 15) rfl)
theorem q184 : Cond.selects RX1 yX1_counting yX1_counting ∈ wsL_law := qc7 _ (List.mem_of_getElem? (i := 16) rfl)
theorem q185 : Cond.code yX1_counting cX1_counting 2 (some .int) ∈ wsL_law := qc7 _ (List.mem_of_getElem? (i := 17) rfl)
theorem q186 : Cond.fieldLink RX1 17 "ReaperWagesLaw$Reaper" "hours" "I" ∈ wsL_law := qc7 _ (List.mem_of_getElem? (i := 18) rfl)
theorem q187 : Cond.fieldLink RX1 20 "ReaperWagesLaw$Reaper" "late" "I" ∈ wsL_law := qc7 _ (List.mem_of_getElem? (i := 19) rfl)
theorem q188 : Cond.methodLink RL 73 yX0_work ∈ wsL_law := qc7 _ (List.mem_of_getElem? (i := 20) rfl)
theorem q189 : Cond.instanceMethod yX0_work ∈ wsL_law := qc7 _ (List.mem_of_getElem? (i := 21) rfl)
theorem q190 : Cond.selects RX0 yX0_work yX0_work ∈ wsL_law := qc7 _ (List.mem_of_getElem? (i := 22) rfl)
theorem q191 : Cond.code yX0_work cX0_work 4 (some .int) ∈ wsL_law := qc7 _ (List.mem_of_getElem? (i := 23) rfl)
theorem q192 : Cond.methodLink RL 91 yX0_count ∈ wsL_law := qc8 _ (List.mem_of_getElem? (i := 0) rfl)
theorem q193 : Cond.instanceMethod yX0_count ∈ wsL_law := qc8 _ (List.mem_of_getElem? (i := 1) rfl)
theorem q194 : Cond.selects RX0 yX0_count yX0_count ∈ wsL_law := qc8 _ (List.mem_of_getElem? (i := 2) rfl)
theorem q195 : Cond.code yX0_count cX0_count 2 (some .int) ∈ wsL_law := qc8 _ (List.mem_of_getElem? (i := 3) rfl)
theorem q196 : Cond.methodLink RX0 103 yX0_sumOfHired ∈ wsL_law := qc8 _ (List.mem_of_getElem? (i := 4) rfl)
theorem q197 : Cond.instanceMethod yX0_sumOfHired ∈ wsL_law := qc8 _ (List.mem_of_getElem? (i := 5) rfl)
theorem q198 : Cond.selects RX0 yX0_sumOfHired yX0_sumOfHired ∈ wsL_law := qc8 _ (List.mem_of_getElem? (i := 6) rfl)
theorem q199 : Cond.code yX0_sumOfHired cX0_sumOfHired 4 (some .int) ∈ wsL_law := qc8 _ (List.mem_of_getElem? (i := 7) rfl)
theorem q200 : Cond.methodLink RX0 107 yX0_worthOfPurse ∈ wsL_law := qc8 _ (List.mem_of_getElem? (i := 8) rfl)
theorem q201 : Cond.instanceMethod yX0_worthOfPurse ∈ wsL_law := qc8 _ (List.mem_of_getElem? (i := 9) rfl)
theorem q202 : Cond.selects RX0 yX0_worthOfPurse yX0_worthOfPurse ∈ wsL_law := qc8 _ (List.mem_of_getElem? (i := 10) rfl)
theorem q203 : Cond.code yX0_worthOfPurse cX0_worthOfPurse 3 (some .int) ∈ wsL_law := qc8 _ (List.mem_of_getElem? (i := 11) rfl)
theorem q204 : Cond.methodLink RX0 111 yX0_allWages ∈ wsL_law := qc8 _ (List.mem_of_getElem? (i := 12) rfl)
theorem q205 : Cond.instanceMethod yX0_allWages ∈ wsL_law := qc8 _ (List.mem_of_getElem? (i := 13) rfl)
theorem q206 : Cond.selects RX0 yX0_allWages yX0_allWages ∈ wsL_law := qc8 _ (List.mem_of_getElem? (i := 14) rfl)
theorem q207 : Cond.code yX0_allWages cX0_allWages 4 (some .int) ∈ wsL_law := qc8 _ (List.mem_of_getElem? (i := 15) rfl)
theorem q208 : Cond.methodLink RL 96 yX0_coins ∈ wsL_law := qc8 _ (List.mem_of_getElem? (i := 16) rfl)
theorem q209 : Cond.instanceMethod yX0_coins ∈ wsL_law := qc8 _ (List.mem_of_getElem? (i := 17) rfl)
theorem q210 : Cond.selects RX0 yX0_coins yX0_coins ∈ wsL_law := qc8 _ (List.mem_of_getElem? (i := 18) rfl)
theorem q211 : Cond.code yX0_coins cX0_coins 4 (some .int) ∈ wsL_law := qc8 _ (List.mem_of_getElem? (i := 19) rfl)
theorem q212 : Cond.methodLink RX0 95 yX0_copyRow ∈ wsL_law := qc8 _ (List.mem_of_getElem? (i := 20) rfl)
theorem q213 : Cond.static yX0_copyRow ∈ wsL_law := qc8 _ (List.mem_of_getElem? (i := 21) rfl)
theorem q214 : Cond.code yX0_copyRow cX0_copyRow 4 none ∈ wsL_law := qc8 _ (List.mem_of_getElem? (i := 22) rfl)
theorem q215 : Cond.methodLink RX0 92 yX0_restToPay ∈ wsL_law := qc8 _ (List.mem_of_getElem? (i := 23) rfl)
theorem q216 : Cond.instanceMethod yX0_restToPay ∈ wsL_law := qc9 _ (List.mem_of_getElem? (i := 0) rfl)
theorem q217 : Cond.selects RX0 yX0_restToPay yX0_restToPay ∈ wsL_law := qc9 _ (List.mem_of_getElem? (i := 1) rfl)
theorem q218 : Cond.code yX0_restToPay cX0_restToPay 3 (some .int) ∈ wsL_law := qc9 _ (List.mem_of_getElem? (i := 2) rfl)
theorem q219 : Cond.methodLink RL 99 yX0_told ∈ wsL_law := qc9 _ (List.mem_of_getElem? (i := 3) rfl)
theorem q220 : Cond.instanceMethod yX0_told ∈ wsL_law := qc9 _ (List.mem_of_getElem? (i := 4) rfl)
theorem q221 : Cond.selects RX0 yX0_told yX0_told ∈ wsL_law := qc9 _ (List.mem_of_getElem? (i := 5) rfl)
theorem q222 : Cond.code yX0_told cX0_told 3 (some .int) ∈ wsL_law := qc9 _ (List.mem_of_getElem? (i := 6) rfl)
theorem q223 : Cond.methodLink RL 102 yX0_wage ∈ wsL_law := qc9 _ (List.mem_of_getElem? (i := 7) rfl)
theorem q224 : Cond.instanceMethod yX0_wage ∈ wsL_law := qc9 _ (List.mem_of_getElem? (i := 8) rfl)
theorem q225 : Cond.selects RX0 yX0_wage yX0_wage ∈ wsL_law := qc9 _ (List.mem_of_getElem? (i := 9) rfl)
theorem q226 : Cond.code yX0_wage cX0_wage 3 (some .int) ∈ wsL_law := qc9 _ (List.mem_of_getElem? (i := 10) rfl)
theorem q227 : Cond.methodLink RL 105 yX0_mean ∈ wsL_law := qc9 _ (List.mem_of_getElem? (i := 11) rfl)
theorem q228 : Cond.instanceMethod yX0_mean ∈ wsL_law := qc9 _ (List.mem_of_getElem? (i := 12) rfl)
theorem q229 : Cond.selects RX0 yX0_mean yX0_mean ∈ wsL_law := qc9 _ (List.mem_of_getElem? (i := 13) rfl)
theorem q230 : Cond.code yX0_mean cX0_mean 1 (some .double) ∈ wsL_law := qc9 _ (List.mem_of_getElem? (i := 14) rfl)
theorem q231 : Cond.methodLink RL 109 yX0_chest ∈ wsL_law := qc9 _ (List.mem_of_getElem? (i := 15) rfl)
theorem q232 : Cond.instanceMethod yX0_chest ∈ wsL_law := qc9 _ (List.mem_of_getElem? (i := 16) rfl)
theorem q233 : Cond.selects RX0 yX0_chest yX0_chest ∈ wsL_law := qc9 _ (List.mem_of_getElem? (i := 17) rfl)
theorem q234 : Cond.code yX0_chest cX0_chest 2 (some .int) ∈ wsL_law := qc9 _ (List.mem_of_getElem? (i := 18) rfl)
theorem q235 : Cond.methodLink RL 111 yX0_lacks ∈ wsL_law := qc9 _ (List.mem_of_getElem? (i := 19) rfl)
theorem q236 : Cond.instanceMethod yX0_lacks ∈ wsL_law := qc9 _ (List.mem_of_getElem? (i := 20) rfl)
theorem q237 : Cond.selects RX0 yX0_lacks yX0_lacks ∈ wsL_law := qc9 _ (List.mem_of_getElem? (i := 21) rfl)
theorem q238 : Cond.code yX0_lacks cX0_lacks 4 (some .int) ∈ wsL_law := qc9 _ (List.mem_of_getElem? (i := 22) rfl)
theorem q239 : Cond.methodLink RL 114 yX2_isSame ∈ wsL_law := qc9 _ (List.mem_of_getElem? (i := 23) rfl)
theorem q240 : Cond.instanceMethod yX2_isSame ∈ wsL_law := qc10 _ (List.mem_of_getElem? (i := 0) rfl)
theorem q241 : Cond.selects RX2 yX2_isSame yX2_isSame ∈ wsL_law := qc10 _ (List.mem_of_getElem? (i := 1) rfl)
theorem q242 : Cond.code yX2_isSame cX2_isSame 12 (some .boolean) ∈ wsL_law := qc10 _ (List.mem_of_getElem? (i := 2) rfl)
theorem q243 : Cond.fieldLink RX2 74 "ReaperWagesLaw$Reaper" "kind" "I" ∈ wsL_law := qc10 _ (List.mem_of_getElem? (i := 3) rfl)
theorem q244 : Cond.methodLink RX2 67 yX2_copy ∈ wsL_law := qc10 _ (List.mem_of_getElem? (i := 4) rfl)
theorem q245 : Cond.instanceMethod yX2_copy ∈ wsL_law := qc10 _ (List.mem_of_getElem? (i := 5) rfl)
theorem q246 : Cond.selects RX2 yX2_copy yX2_copy ∈ wsL_law := qc10 _ (List.mem_of_getElem? (i := 6) rfl)
theorem q247 : Cond.code yX2_copy cX2_copy 3 (some (.object "ReaperWagesLaw$Sim")) ∈ wsL_law := qc10 _ (List.mem_of_getElem? (i := 7) rfl)
theorem q248 : Cond.classLink RX2 8 RX2 ∈ wsL_law := qc10 _ (List.mem_of_getElem? (i := 8) rfl)
theorem q249 : Cond.methodLink RX2 27 ⟨"[I", "clone", "()Ljava/lang/Object;"⟩ ∈ wsL_law := qc10 _ (List.mem_of_getElem? (i := 9) rfl)
theorem q250 : Cond.sameMethod "[I" "java/lang/Object" "clone" "()Ljava/lang/Object;" ∈ wsL_law := qc10 _ (List.mem_of_getElem? (i := 10) rfl)
theorem q251 : Cond.native ⟨"java/lang/Object", "clone", "()Ljava/lang/Object;"⟩ ∈ wsL_law := qc10 _ (List.mem_of_getElem? (i := 11) rfl)
theorem q252 : Cond.instanceMethod ⟨"java/lang/Object", "clone", "()Ljava/lang/Object;"⟩ ∈ wsL_law := qc10 _ (List.mem_of_getElem? (i := 12) rfl)
theorem q253 : Cond.selects "[I" ⟨"[I", "clone", "()Ljava/lang/Object;"⟩ ⟨"java/lang/Object", "clone", "()Ljava/lang/Object;"⟩ ∈ wsL_law := qc10 _ (List.mem_of_getElem? (i := 13) rfl)
theorem q254 : Cond.classLink RX2 28 "[I" ∈ wsL_law := qc10 _ (List.mem_of_getElem? (i := 14) rfl)
theorem q255 : Cond.methodLink RX2 22 yX2_init ∈ wsL_law := qc10 _ (List.mem_of_getElem? (i := 15) rfl)
theorem q256 : Cond.methodLink RX2 32 yX1_copy ∈ wsL_law := qc10 _ (List.mem_of_getElem? (i := 16) rfl)
theorem q257 : Cond.instanceMethod yX1_copy ∈ wsL_law := qc10 _ (List.mem_of_getElem? (i := 17) rfl)
theorem q258 : Cond.selects RX1 yX1_copy yX1_copy ∈ wsL_law := qc10 _ (List.mem_of_getElem? (i := 18) rfl)
theorem q259 : Cond.code yX1_copy cX1_copy 2 (some (.object "ReaperWagesLaw$Reaper")) ∈ wsL_law := qc10 _ (List.mem_of_getElem? (i := 19) rfl)
theorem q260 : Cond.classLink RX1 7 RX1 ∈ wsL_law := qc10 _ (List.mem_of_getElem? (i := 20) rfl)
theorem q261 : Cond.fieldLink RX1 23 "ReaperWagesLaw$Reaper" "debt" "I" ∈ wsL_law := qc10 _ (List.mem_of_getElem? (i := 21) rfl)
theorem q262 : Cond.fieldLink RX1 26 "ReaperWagesLaw$Reaper" "carried" "I" ∈ wsL_law := qc10 _ (List.mem_of_getElem? (i := 22) rfl)
theorem q263 : Cond.fieldLink RX1 29 "ReaperWagesLaw$Reaper" "paid" "I" ∈ wsL_law := qc10 _ (List.mem_of_getElem? (i := 23) rfl)
theorem q264 : Cond.methodLink RX1 9 yX1_init ∈ wsL_law := qc11 _ (List.mem_of_getElem? (i := 0) rfl)
theorem q265 : Cond.methodLink RX2 70 yX2_pay ∈ wsL_law := qc11 _ (List.mem_of_getElem? (i := 1) rfl)
theorem q266 : Cond.methodLink RX2 77 yX1_counting ∈ wsL_law := qc11 _ (List.mem_of_getElem? (i := 2) rfl)
theorem q267 : Cond.methodLink RX2 80 yX0_told ∈ wsL_law := qc11 _ (List.mem_of_getElem? (i := 3) rfl)
theorem q268 : Cond.methodLink RX2 86 yX1_pieces ∈ wsL_law := qc11 _ (List.mem_of_getElem? (i := 4) rfl)
theorem q269 : Cond.methodLink RX2 89 yX0_wage ∈ wsL_law := qc11 _ (List.mem_of_getElem? (i := 5) rfl)
theorem q270 : Cond.methodLink RX2 91 yX0_coins ∈ wsL_law := qc11 _ (List.mem_of_getElem? (i := 6) rfl)
theorem q271 : Cond.methodLink RX2 94 yX0_rate ∈ wsL_law := qc11 _ (List.mem_of_getElem? (i := 7) rfl)
theorem q272 : Cond.instanceMethod yX0_rate ∈ wsL_law := qc11 _ (List.mem_of_getElem? (i := 8) rfl)
theorem q273 : Cond.selects RX0 yX0_rate yX0_rate ∈ wsL_law := qc11 _ (List.mem_of_getElem? (i := 9) rfl)
theorem q274 : Cond.code yX0_rate cX0_rate 2 (some .int) ∈ wsL_law := qc11 _ (List.mem_of_getElem? (i := 10) rfl)
theorem q275 : Cond.methodLink RX2 98 yX0_chest ∈ wsL_law := qc11 _ (List.mem_of_getElem? (i := 11) rfl)
theorem q276 : Cond.methodLink RX2 100 yX2_wages ∈ wsL_law := qc11 _ (List.mem_of_getElem? (i := 12) rfl)
theorem q277 : Cond.instanceMethod yX2_wages ∈ wsL_law := qc11 _ (List.mem_of_getElem? (i := 13) rfl)
theorem q278 : Cond.selects RX2 yX2_wages yX2_wages ∈ wsL_law := qc11 _ (List.mem_of_getElem? (i := 14) rfl)
theorem q279 : Cond.code yX2_wages cX2_wages 6 (some .int) ∈ wsL_law := qc11 _ (List.mem_of_getElem? (i := 15) rfl)
theorem q280 : Cond.methodLink RX2 103 yX0_count ∈ wsL_law := qc11 _ (List.mem_of_getElem? (i := 16) rfl)
theorem q281 : Cond.methodLink RX2 106 yX0_mean ∈ wsL_law := qc11 _ (List.mem_of_getElem? (i := 17) rfl)
end
section
theorem dX0_init_0 : decode cX0_init 0 = .ok (.aload_n 0, 1) := by decide +kernel
theorem dX0_init_1 : decode cX0_init 1 = .ok (.invokespecial 1, 3) := by decide +kernel
theorem dX0_init_4 : decode cX0_init 4 = .ok (.aload_n 0, 1) := by decide +kernel
theorem dX0_init_5 : decode cX0_init 5 = .ok (.bipush 8, 2) := by decide +kernel
theorem dX0_init_7 : decode cX0_init 7 = .ok (.newarray .int, 2) := by decide +kernel
theorem dX0_init_9 : decode cX0_init 9 = .ok (.putfield 9, 3) := by decide +kernel
theorem dX0_init_12 : decode cX0_init 12 = .ok (.aload_n 0, 1) := by decide +kernel
theorem dX0_init_13 : decode cX0_init 13 = .ok (.bipush 8, 2) := by decide +kernel
theorem dX0_init_15 : decode cX0_init 15 = .ok (.newarray .int, 2) := by decide +kernel
theorem dX0_init_17 : decode cX0_init 17 = .ok (.putfield 13, 3) := by decide +kernel
theorem dX0_init_20 : decode cX0_init 20 = .ok (.aload_n 0, 1) := by decide +kernel
theorem dX0_init_21 : decode cX0_init 21 = .ok (.bipush 8, 2) := by decide +kernel
theorem dX0_init_23 : decode cX0_init 23 = .ok (.newarray .int, 2) := by decide +kernel
theorem dX0_init_25 : decode cX0_init 25 = .ok (.putfield 16, 3) := by decide +kernel
theorem dX0_init_28 : decode cX0_init 28 = .ok (.aload_n 0, 1) := by decide +kernel
theorem dX0_init_29 : decode cX0_init 29 = .ok (.bipush 8, 2) := by decide +kernel
theorem dX0_init_31 : decode cX0_init 31 = .ok (.newarray .int, 2) := by decide +kernel
theorem dX0_init_33 : decode cX0_init 33 = .ok (.putfield 19, 3) := by decide +kernel
theorem dX0_init_36 : decode cX0_init 36 = .ok (.aload_n 0, 1) := by decide +kernel
theorem dX0_init_37 : decode cX0_init 37 = .ok (.bipush 8, 2) := by decide +kernel
theorem dX0_init_39 : decode cX0_init 39 = .ok (.newarray .int, 2) := by decide +kernel
theorem dX0_init_41 : decode cX0_init 41 = .ok (.putfield 22, 3) := by decide +kernel
theorem dX0_init_44 : decode cX0_init 44 = .ok (.aload_n 0, 1) := by decide +kernel
theorem dX0_init_45 : decode cX0_init 45 = .ok (.bipush 8, 2) := by decide +kernel
theorem dX0_init_47 : decode cX0_init 47 = .ok (.newarray .int, 2) := by decide +kernel
theorem dX0_init_49 : decode cX0_init 49 = .ok (.putfield 25, 3) := by decide +kernel
theorem dX0_init_52 : decode cX0_init 52 = .ok (.aload_n 0, 1) := by decide +kernel
theorem dX0_init_53 : decode cX0_init 53 = .ok (.bipush 8, 2) := by decide +kernel
theorem dX0_init_55 : decode cX0_init 55 = .ok (.newarray .int, 2) := by decide +kernel
theorem dX0_init_57 : decode cX0_init 57 = .ok (.putfield 28, 3) := by decide +kernel
theorem dX0_init_60 : decode cX0_init 60 = .ok (.aload_n 0, 1) := by decide +kernel
theorem dX0_init_61 : decode cX0_init 61 = .ok (.iconst 5, 1) := by decide +kernel
theorem dX0_init_62 : decode cX0_init 62 = .ok (.newarray .int, 2) := by decide +kernel
theorem dX0_init_64 : decode cX0_init 64 = .ok (.dup, 1) := by decide +kernel
theorem dX0_init_65 : decode cX0_init 65 = .ok (.iconst 0, 1) := by decide +kernel
theorem dX0_init_66 : decode cX0_init 66 = .ok (.bipush 12, 2) := by decide +kernel
theorem dX0_init_68 : decode cX0_init 68 = .ok (.iastore, 1) := by decide +kernel
theorem dX0_init_69 : decode cX0_init 69 = .ok (.dup, 1) := by decide +kernel
theorem dX0_init_70 : decode cX0_init 70 = .ok (.iconst 1, 1) := by decide +kernel
theorem dX0_init_71 : decode cX0_init 71 = .ok (.bipush 20, 2) := by decide +kernel
theorem dX0_init_73 : decode cX0_init 73 = .ok (.iastore, 1) := by decide +kernel
theorem dX0_init_74 : decode cX0_init 74 = .ok (.dup, 1) := by decide +kernel
theorem dX0_init_75 : decode cX0_init 75 = .ok (.iconst 2, 1) := by decide +kernel
theorem dX0_init_76 : decode cX0_init 76 = .ok (.sipush 400, 3) := by decide +kernel
theorem dX0_init_79 : decode cX0_init 79 = .ok (.iastore, 1) := by decide +kernel
theorem dX0_init_80 : decode cX0_init 80 = .ok (.dup, 1) := by decide +kernel
theorem dX0_init_81 : decode cX0_init 81 = .ok (.iconst 3, 1) := by decide +kernel
theorem dX0_init_82 : decode cX0_init 82 = .ok (.bipush 25, 2) := by decide +kernel
theorem dX0_init_84 : decode cX0_init 84 = .ok (.iastore, 1) := by decide +kernel
theorem dX0_init_85 : decode cX0_init 85 = .ok (.dup, 1) := by decide +kernel
theorem dX0_init_86 : decode cX0_init 86 = .ok (.iconst 4, 1) := by decide +kernel
theorem dX0_init_87 : decode cX0_init 87 = .ok (.iconst 4, 1) := by decide +kernel
theorem dX0_init_88 : decode cX0_init 88 = .ok (.iastore, 1) := by decide +kernel
theorem dX0_init_89 : decode cX0_init 89 = .ok (.putfield 31, 3) := by decide +kernel
theorem dX0_init_92 : decode cX0_init 92 = .ok (.aload_n 0, 1) := by decide +kernel
theorem dX0_init_93 : decode cX0_init 93 = .ok (.iconst 3, 1) := by decide +kernel
theorem dX0_init_94 : decode cX0_init 94 = .ok (.newarray .int, 2) := by decide +kernel
theorem dX0_init_96 : decode cX0_init 96 = .ok (.putfield 34, 3) := by decide +kernel
theorem dX0_init_99 : decode cX0_init 99 = .ok (.aload_n 0, 1) := by decide +kernel
theorem dX0_init_100 : decode cX0_init 100 = .ok (.iconst 5, 1) := by decide +kernel
theorem dX0_init_101 : decode cX0_init 101 = .ok (.newarray .int, 2) := by decide +kernel
theorem dX0_init_103 : decode cX0_init 103 = .ok (.putfield 37, 3) := by decide +kernel
theorem dX0_init_106 : decode cX0_init 106 = .ok (.aload_n 0, 1) := by decide +kernel
theorem dX0_init_107 : decode cX0_init 107 = .ok (.iconst 3, 1) := by decide +kernel
theorem dX0_init_108 : decode cX0_init 108 = .ok (.newarray .int, 2) := by decide +kernel
theorem dX0_init_110 : decode cX0_init 110 = .ok (.putfield 40, 3) := by decide +kernel
theorem dX0_init_113 : decode cX0_init 113 = .ok (.aload_n 0, 1) := by decide +kernel
theorem dX0_init_114 : decode cX0_init 114 = .ok (.iconst 3, 1) := by decide +kernel
theorem dX0_init_115 : decode cX0_init 115 = .ok (.newarray .int, 2) := by decide +kernel
theorem dX0_init_117 : decode cX0_init 117 = .ok (.putfield 43, 3) := by decide +kernel
theorem dX0_init_120 : decode cX0_init 120 = .ok (.return_, 1) := by decide +kernel
theorem dX0_hire_0 : decode cX0_hire 0 = .ok (.iload_n 1, 1) := by decide +kernel
theorem dX0_hire_1 : decode cX0_hire 1 = .ok (.iconst 0, 1) := by decide +kernel
theorem dX0_hire_2 : decode cX0_hire 2 = .ok (.iconst 2, 1) := by decide +kernel
theorem dX0_hire_3 : decode cX0_hire 3 = .ok (.invokestatic 46, 3) := by decide +kernel
theorem dX0_hire_6 : decode cX0_hire 6 = .ok (.aload_n 0, 1) := by decide +kernel
theorem dX0_hire_7 : decode cX0_hire 7 = .ok (.getfield 50, 3) := by decide +kernel
theorem dX0_hire_10 : decode cX0_hire 10 = .ok (.bipush 8, 2) := by decide +kernel
theorem dX0_hire_12 : decode cX0_hire 12 = .ok (.if_icmp .ge 7, 3) := by decide +kernel
theorem dX0_hire_15 : decode cX0_hire 15 = .ok (.iconst 1, 1) := by decide +kernel
theorem dX0_hire_16 : decode cX0_hire 16 = .ok (.goto 4, 3) := by decide +kernel
theorem dX0_hire_19 : decode cX0_hire 19 = .ok (.iconst 0, 1) := by decide +kernel
theorem dX0_hire_20 : decode cX0_hire 20 = .ok (.invokestatic 54, 3) := by decide +kernel
theorem dX0_hire_23 : decode cX0_hire 23 = .ok (.aload_n 0, 1) := by decide +kernel
theorem dX0_hire_24 : decode cX0_hire 24 = .ok (.getfield 9, 3) := by decide +kernel
theorem dX0_hire_27 : decode cX0_hire 27 = .ok (.aload_n 0, 1) := by decide +kernel
theorem dX0_hire_28 : decode cX0_hire 28 = .ok (.getfield 50, 3) := by decide +kernel
theorem dX0_hire_31 : decode cX0_hire 31 = .ok (.iload_n 1, 1) := by decide +kernel
theorem dX0_hire_32 : decode cX0_hire 32 = .ok (.iastore, 1) := by decide +kernel
theorem dX0_hire_33 : decode cX0_hire 33 = .ok (.aload_n 0, 1) := by decide +kernel
theorem dX0_hire_34 : decode cX0_hire 34 = .ok (.dup, 1) := by decide +kernel
theorem dX0_hire_35 : decode cX0_hire 35 = .ok (.getfield 50, 3) := by decide +kernel
theorem dX0_hire_38 : decode cX0_hire 38 = .ok (.iconst 1, 1) := by decide +kernel
theorem dX0_hire_39 : decode cX0_hire 39 = .ok (.iadd, 1) := by decide +kernel
theorem dX0_hire_40 : decode cX0_hire 40 = .ok (.putfield 50, 3) := by decide +kernel
theorem dX0_hire_43 : decode cX0_hire 43 = .ok (.aload_n 0, 1) := by decide +kernel
theorem dX0_hire_44 : decode cX0_hire 44 = .ok (.getfield 50, 3) := by decide +kernel
theorem dX0_hire_47 : decode cX0_hire 47 = .ok (.iconst 1, 1) := by decide +kernel
theorem dX0_hire_48 : decode cX0_hire 48 = .ok (.isub, 1) := by decide +kernel
theorem dX0_hire_49 : decode cX0_hire 49 = .ok (.ireturn, 1) := by decide +kernel
theorem dX0_setRate_0 : decode cX0_setRate 0 = .ok (.iload_n 1, 1) := by decide +kernel
theorem dX0_setRate_1 : decode cX0_setRate 1 = .ok (.iload_n 2, 1) := by decide +kernel
theorem dX0_setRate_2 : decode cX0_setRate 2 = .ok (.invokestatic 58, 3) := by decide +kernel
theorem dX0_setRate_5 : decode cX0_setRate 5 = .ok (.aload_n 0, 1) := by decide +kernel
theorem dX0_setRate_6 : decode cX0_setRate 6 = .ok (.getfield 31, 3) := by decide +kernel
theorem dX0_setRate_9 : decode cX0_setRate 9 = .ok (.iload_n 1, 1) := by decide +kernel
theorem dX0_setRate_10 : decode cX0_setRate 10 = .ok (.iaload, 1) := by decide +kernel
theorem dX0_setRate_11 : decode cX0_setRate 11 = .ok (.istore_n 3, 1) := by decide +kernel
theorem dX0_setRate_12 : decode cX0_setRate 12 = .ok (.aload_n 0, 1) := by decide +kernel
theorem dX0_setRate_13 : decode cX0_setRate 13 = .ok (.getfield 31, 3) := by decide +kernel
theorem dX0_setRate_16 : decode cX0_setRate 16 = .ok (.iload_n 1, 1) := by decide +kernel
theorem dX0_setRate_17 : decode cX0_setRate 17 = .ok (.iload_n 2, 1) := by decide +kernel
theorem dX0_setRate_18 : decode cX0_setRate 18 = .ok (.iastore, 1) := by decide +kernel
theorem dX0_setRate_19 : decode cX0_setRate 19 = .ok (.iload_n 3, 1) := by decide +kernel
theorem dX0_setRate_20 : decode cX0_setRate 20 = .ok (.ireturn, 1) := by decide +kernel
theorem dX0_fill_0 : decode cX0_fill 0 = .ok (.iload_n 1, 1) := by decide +kernel
theorem dX0_fill_1 : decode cX0_fill 1 = .ok (.iconst 3, 1) := by decide +kernel
theorem dX0_fill_2 : decode cX0_fill 2 = .ok (.invokestatic 62, 3) := by decide +kernel
theorem dX0_fill_5 : decode cX0_fill 5 = .ok (.iload_n 2, 1) := by decide +kernel
theorem dX0_fill_6 : decode cX0_fill 6 = .ok (.iconst 1, 1) := by decide +kernel
theorem dX0_fill_7 : decode cX0_fill 7 = .ok (.sipush 500, 3) := by decide +kernel
theorem dX0_fill_10 : decode cX0_fill 10 = .ok (.invokestatic 46, 3) := by decide +kernel
theorem dX0_fill_13 : decode cX0_fill 13 = .ok (.aload_n 0, 1) := by decide +kernel
theorem dX0_fill_14 : decode cX0_fill 14 = .ok (.getfield 34, 3) := by decide +kernel
theorem dX0_fill_17 : decode cX0_fill 17 = .ok (.iload_n 1, 1) := by decide +kernel
theorem dX0_fill_18 : decode cX0_fill 18 = .ok (.dup2, 1) := by decide +kernel
theorem dX0_fill_19 : decode cX0_fill 19 = .ok (.iaload, 1) := by decide +kernel
theorem dX0_fill_20 : decode cX0_fill 20 = .ok (.iload_n 2, 1) := by decide +kernel
theorem dX0_fill_21 : decode cX0_fill 21 = .ok (.iadd, 1) := by decide +kernel
theorem dX0_fill_22 : decode cX0_fill 22 = .ok (.iastore, 1) := by decide +kernel
theorem dX0_fill_23 : decode cX0_fill 23 = .ok (.aload_n 0, 1) := by decide +kernel
theorem dX0_fill_24 : decode cX0_fill 24 = .ok (.getfield 34, 3) := by decide +kernel
theorem dX0_fill_27 : decode cX0_fill 27 = .ok (.iload_n 1, 1) := by decide +kernel
theorem dX0_fill_28 : decode cX0_fill 28 = .ok (.iaload, 1) := by decide +kernel
theorem dX0_fill_29 : decode cX0_fill 29 = .ok (.ireturn, 1) := by decide +kernel
theorem dX0_bind_0 : decode cX0_bind 0 = .ok (.iload_n 1, 1) := by decide +kernel
theorem dX0_bind_1 : decode cX0_bind 1 = .ok (.aload_n 0, 1) := by decide +kernel
theorem dX0_bind_2 : decode cX0_bind 2 = .ok (.getfield 50, 3) := by decide +kernel
theorem dX0_bind_5 : decode cX0_bind 5 = .ok (.invokestatic 62, 3) := by decide +kernel
theorem dX0_bind_8 : decode cX0_bind 8 = .ok (.iload_n 2, 1) := by decide +kernel
theorem dX0_bind_9 : decode cX0_bind 9 = .ok (.iconst 1, 1) := by decide +kernel
theorem dX0_bind_10 : decode cX0_bind 10 = .ok (.sipush 999, 3) := by decide +kernel
theorem dX0_bind_13 : decode cX0_bind 13 = .ok (.invokestatic 46, 3) := by decide +kernel
theorem dX0_bind_16 : decode cX0_bind 16 = .ok (.aload_n 0, 1) := by decide +kernel
theorem dX0_bind_17 : decode cX0_bind 17 = .ok (.getfield 13, 3) := by decide +kernel
theorem dX0_bind_20 : decode cX0_bind 20 = .ok (.iload_n 1, 1) := by decide +kernel
theorem dX0_bind_21 : decode cX0_bind 21 = .ok (.dup2, 1) := by decide +kernel
theorem dX0_bind_22 : decode cX0_bind 22 = .ok (.iaload, 1) := by decide +kernel
theorem dX0_bind_23 : decode cX0_bind 23 = .ok (.iload_n 2, 1) := by decide +kernel
theorem dX0_bind_24 : decode cX0_bind 24 = .ok (.iadd, 1) := by decide +kernel
theorem dX0_bind_25 : decode cX0_bind 25 = .ok (.iastore, 1) := by decide +kernel
theorem dX0_bind_26 : decode cX0_bind 26 = .ok (.aload_n 0, 1) := by decide +kernel
theorem dX0_bind_27 : decode cX0_bind 27 = .ok (.getfield 13, 3) := by decide +kernel
theorem dX0_bind_30 : decode cX0_bind 30 = .ok (.iload_n 1, 1) := by decide +kernel
theorem dX0_bind_31 : decode cX0_bind 31 = .ok (.iaload, 1) := by decide +kernel
theorem dX0_bind_32 : decode cX0_bind 32 = .ok (.ireturn, 1) := by decide +kernel
theorem dX0_work_0 : decode cX0_work 0 = .ok (.iload_n 1, 1) := by decide +kernel
theorem dX0_work_1 : decode cX0_work 1 = .ok (.aload_n 0, 1) := by decide +kernel
theorem dX0_work_2 : decode cX0_work 2 = .ok (.getfield 50, 3) := by decide +kernel
theorem dX0_work_5 : decode cX0_work 5 = .ok (.invokestatic 62, 3) := by decide +kernel
theorem dX0_work_8 : decode cX0_work 8 = .ok (.iload_n 2, 1) := by decide +kernel
theorem dX0_work_9 : decode cX0_work 9 = .ok (.iconst 0, 1) := by decide +kernel
theorem dX0_work_10 : decode cX0_work 10 = .ok (.bipush 16, 2) := by decide +kernel
theorem dX0_work_12 : decode cX0_work 12 = .ok (.invokestatic 46, 3) := by decide +kernel
theorem dX0_work_15 : decode cX0_work 15 = .ok (.aload_n 0, 1) := by decide +kernel
theorem dX0_work_16 : decode cX0_work 16 = .ok (.getfield 16, 3) := by decide +kernel
theorem dX0_work_19 : decode cX0_work 19 = .ok (.iload_n 1, 1) := by decide +kernel
theorem dX0_work_20 : decode cX0_work 20 = .ok (.iaload, 1) := by decide +kernel
theorem dX0_work_21 : decode cX0_work 21 = .ok (.iload_n 2, 1) := by decide +kernel
theorem dX0_work_22 : decode cX0_work 22 = .ok (.iadd, 1) := by decide +kernel
theorem dX0_work_23 : decode cX0_work 23 = .ok (.bipush 99, 2) := by decide +kernel
theorem dX0_work_25 : decode cX0_work 25 = .ok (.if_icmp .gt 7, 3) := by decide +kernel
theorem dX0_work_28 : decode cX0_work 28 = .ok (.iconst 1, 1) := by decide +kernel
theorem dX0_work_29 : decode cX0_work 29 = .ok (.goto 4, 3) := by decide +kernel
theorem dX0_work_32 : decode cX0_work 32 = .ok (.iconst 0, 1) := by decide +kernel
theorem dX0_work_33 : decode cX0_work 33 = .ok (.invokestatic 54, 3) := by decide +kernel
theorem dX0_work_36 : decode cX0_work 36 = .ok (.aload_n 0, 1) := by decide +kernel
theorem dX0_work_37 : decode cX0_work 37 = .ok (.getfield 16, 3) := by decide +kernel
theorem dX0_work_40 : decode cX0_work 40 = .ok (.iload_n 1, 1) := by decide +kernel
theorem dX0_work_41 : decode cX0_work 41 = .ok (.dup2, 1) := by decide +kernel
theorem dX0_work_42 : decode cX0_work 42 = .ok (.iaload, 1) := by decide +kernel
theorem dX0_work_43 : decode cX0_work 43 = .ok (.iload_n 2, 1) := by decide +kernel
theorem dX0_work_44 : decode cX0_work 44 = .ok (.iadd, 1) := by decide +kernel
theorem dX0_work_45 : decode cX0_work 45 = .ok (.iastore, 1) := by decide +kernel
theorem dX0_work_46 : decode cX0_work 46 = .ok (.iload_n 3, 1) := by decide +kernel
theorem dX0_work_47 : decode cX0_work 47 = .ok (.ifCond .eq 13, 3) := by decide +kernel
theorem dX0_work_50 : decode cX0_work 50 = .ok (.aload_n 0, 1) := by decide +kernel
theorem dX0_work_51 : decode cX0_work 51 = .ok (.getfield 19, 3) := by decide +kernel
theorem dX0_work_54 : decode cX0_work 54 = .ok (.iload_n 1, 1) := by decide +kernel
theorem dX0_work_55 : decode cX0_work 55 = .ok (.dup2, 1) := by decide +kernel
theorem dX0_work_56 : decode cX0_work 56 = .ok (.iaload, 1) := by decide +kernel
theorem dX0_work_57 : decode cX0_work 57 = .ok (.iconst 1, 1) := by decide +kernel
theorem dX0_work_58 : decode cX0_work 58 = .ok (.iadd, 1) := by decide +kernel
theorem dX0_work_59 : decode cX0_work 59 = .ok (.iastore, 1) := by decide +kernel
theorem dX0_work_60 : decode cX0_work 60 = .ok (.aload_n 0, 1) := by decide +kernel
theorem dX0_work_61 : decode cX0_work 61 = .ok (.getfield 16, 3) := by decide +kernel
theorem dX0_work_64 : decode cX0_work 64 = .ok (.iload_n 1, 1) := by decide +kernel
theorem dX0_work_65 : decode cX0_work 65 = .ok (.iaload, 1) := by decide +kernel
theorem dX0_work_66 : decode cX0_work 66 = .ok (.ireturn, 1) := by decide +kernel
theorem dX0_lend_0 : decode cX0_lend 0 = .ok (.iload_n 1, 1) := by decide +kernel
theorem dX0_lend_1 : decode cX0_lend 1 = .ok (.aload_n 0, 1) := by decide +kernel
theorem dX0_lend_2 : decode cX0_lend 2 = .ok (.getfield 50, 3) := by decide +kernel
theorem dX0_lend_5 : decode cX0_lend 5 = .ok (.invokestatic 62, 3) := by decide +kernel
theorem dX0_lend_8 : decode cX0_lend 8 = .ok (.iload_n 2, 1) := by decide +kernel
theorem dX0_lend_9 : decode cX0_lend 9 = .ok (.iconst 1, 1) := by decide +kernel
theorem dX0_lend_10 : decode cX0_lend 10 = .ok (.sipush 2000, 3) := by decide +kernel
theorem dX0_lend_13 : decode cX0_lend 13 = .ok (.invokestatic 46, 3) := by decide +kernel
theorem dX0_lend_16 : decode cX0_lend 16 = .ok (.aload_n 0, 1) := by decide +kernel
theorem dX0_lend_17 : decode cX0_lend 17 = .ok (.getfield 22, 3) := by decide +kernel
theorem dX0_lend_20 : decode cX0_lend 20 = .ok (.iload_n 1, 1) := by decide +kernel
theorem dX0_lend_21 : decode cX0_lend 21 = .ok (.iaload, 1) := by decide +kernel
theorem dX0_lend_22 : decode cX0_lend 22 = .ok (.iload_n 2, 1) := by decide +kernel
theorem dX0_lend_23 : decode cX0_lend 23 = .ok (.iadd, 1) := by decide +kernel
theorem dX0_lend_24 : decode cX0_lend 24 = .ok (.sipush 5000, 3) := by decide +kernel
theorem dX0_lend_27 : decode cX0_lend 27 = .ok (.if_icmp .gt 7, 3) := by decide +kernel
theorem dX0_lend_30 : decode cX0_lend 30 = .ok (.iconst 1, 1) := by decide +kernel
theorem dX0_lend_31 : decode cX0_lend 31 = .ok (.goto 4, 3) := by decide +kernel
theorem dX0_lend_34 : decode cX0_lend 34 = .ok (.iconst 0, 1) := by decide +kernel
theorem dX0_lend_35 : decode cX0_lend 35 = .ok (.invokestatic 54, 3) := by decide +kernel
theorem dX0_lend_38 : decode cX0_lend 38 = .ok (.aload_n 0, 1) := by decide +kernel
theorem dX0_lend_39 : decode cX0_lend 39 = .ok (.getfield 22, 3) := by decide +kernel
theorem dX0_lend_42 : decode cX0_lend 42 = .ok (.iload_n 1, 1) := by decide +kernel
theorem dX0_lend_43 : decode cX0_lend 43 = .ok (.dup2, 1) := by decide +kernel
theorem dX0_lend_44 : decode cX0_lend 44 = .ok (.iaload, 1) := by decide +kernel
theorem dX0_lend_45 : decode cX0_lend 45 = .ok (.iload_n 2, 1) := by decide +kernel
theorem dX0_lend_46 : decode cX0_lend 46 = .ok (.iadd, 1) := by decide +kernel
theorem dX0_lend_47 : decode cX0_lend 47 = .ok (.iastore, 1) := by decide +kernel
theorem dX0_lend_48 : decode cX0_lend 48 = .ok (.aload_n 0, 1) := by decide +kernel
theorem dX0_lend_49 : decode cX0_lend 49 = .ok (.getfield 22, 3) := by decide +kernel
theorem dX0_lend_52 : decode cX0_lend 52 = .ok (.iload_n 1, 1) := by decide +kernel
theorem dX0_lend_53 : decode cX0_lend 53 = .ok (.iaload, 1) := by decide +kernel
theorem dX0_lend_54 : decode cX0_lend 54 = .ok (.ireturn, 1) := by decide +kernel
theorem dX0_pay_0 : decode cX0_pay 0 = .ok (.iconst 0, 1) := by decide +kernel
theorem dX0_pay_1 : decode cX0_pay 1 = .ok (.istore_n 1, 1) := by decide +kernel
theorem dX0_pay_2 : decode cX0_pay 2 = .ok (.iconst 0, 1) := by decide +kernel
theorem dX0_pay_3 : decode cX0_pay 3 = .ok (.istore_n 2, 1) := by decide +kernel
theorem dX0_pay_4 : decode cX0_pay 4 = .ok (.iload_n 2, 1) := by decide +kernel
theorem dX0_pay_5 : decode cX0_pay 5 = .ok (.aload_n 0, 1) := by decide +kernel
theorem dX0_pay_6 : decode cX0_pay 6 = .ok (.getfield 50, 3) := by decide +kernel
theorem dX0_pay_9 : decode cX0_pay 9 = .ok (.if_icmp .ge 17, 3) := by decide +kernel
theorem dX0_pay_12 : decode cX0_pay 12 = .ok (.iload_n 1, 1) := by decide +kernel
theorem dX0_pay_13 : decode cX0_pay 13 = .ok (.aload_n 0, 1) := by decide +kernel
theorem dX0_pay_14 : decode cX0_pay 14 = .ok (.iload_n 2, 1) := by decide +kernel
theorem dX0_pay_15 : decode cX0_pay 15 = .ok (.invokevirtual 65, 3) := by decide +kernel
theorem dX0_pay_18 : decode cX0_pay 18 = .ok (.iadd, 1) := by decide +kernel
theorem dX0_pay_19 : decode cX0_pay 19 = .ok (.istore_n 1, 1) := by decide +kernel
theorem dX0_pay_20 : decode cX0_pay 20 = .ok (.iinc 2 1, 3) := by decide +kernel
theorem dX0_pay_23 : decode cX0_pay 23 = .ok (.goto (-19), 3) := by decide +kernel
theorem dX0_pay_26 : decode cX0_pay 26 = .ok (.aload_n 0, 1) := by decide +kernel
theorem dX0_pay_27 : decode cX0_pay 27 = .ok (.dup, 1) := by decide +kernel
theorem dX0_pay_28 : decode cX0_pay 28 = .ok (.getfield 69, 3) := by decide +kernel
theorem dX0_pay_31 : decode cX0_pay 31 = .ok (.iconst 1, 1) := by decide +kernel
theorem dX0_pay_32 : decode cX0_pay 32 = .ok (.iadd, 1) := by decide +kernel
theorem dX0_pay_33 : decode cX0_pay 33 = .ok (.putfield 69, 3) := by decide +kernel
theorem dX0_pay_36 : decode cX0_pay 36 = .ok (.iload_n 1, 1) := by decide +kernel
theorem dX0_pay_37 : decode cX0_pay 37 = .ok (.ireturn, 1) := by decide +kernel
theorem dX0_told_0 : decode cX0_told 0 = .ok (.iload_n 1, 1) := by decide +kernel
theorem dX0_told_1 : decode cX0_told 1 = .ok (.aload_n 0, 1) := by decide +kernel
theorem dX0_told_2 : decode cX0_told 2 = .ok (.getfield 50, 3) := by decide +kernel
theorem dX0_told_5 : decode cX0_told 5 = .ok (.invokestatic 62, 3) := by decide +kernel
theorem dX0_told_8 : decode cX0_told 8 = .ok (.iload_n 2, 1) := by decide +kernel
theorem dX0_told_9 : decode cX0_told 9 = .ok (.bipush 8, 2) := by decide +kernel
theorem dX0_told_11 : decode cX0_told 11 = .ok (.invokestatic 62, 3) := by decide +kernel
theorem dX0_told_14 : decode cX0_told 14 = .ok (.iload_n 2, 1) := by decide +kernel
theorem dX0_told_15 : decode cX0_told 15 = .ok (.tableswitch 90 0 6 #[41, 48, 55, 62, 69, 76, 83], 41) := by decide +kernel
theorem dX0_told_56 : decode cX0_told 56 = .ok (.aload_n 0, 1) := by decide +kernel
theorem dX0_told_57 : decode cX0_told 57 = .ok (.getfield 9, 3) := by decide +kernel
theorem dX0_told_60 : decode cX0_told 60 = .ok (.iload_n 1, 1) := by decide +kernel
theorem dX0_told_61 : decode cX0_told 61 = .ok (.iaload, 1) := by decide +kernel
theorem dX0_told_62 : decode cX0_told 62 = .ok (.ireturn, 1) := by decide +kernel
theorem dX0_told_63 : decode cX0_told 63 = .ok (.aload_n 0, 1) := by decide +kernel
theorem dX0_told_64 : decode cX0_told 64 = .ok (.getfield 13, 3) := by decide +kernel
theorem dX0_told_67 : decode cX0_told 67 = .ok (.iload_n 1, 1) := by decide +kernel
theorem dX0_told_68 : decode cX0_told 68 = .ok (.iaload, 1) := by decide +kernel
theorem dX0_told_69 : decode cX0_told 69 = .ok (.ireturn, 1) := by decide +kernel
theorem dX0_told_70 : decode cX0_told 70 = .ok (.aload_n 0, 1) := by decide +kernel
theorem dX0_told_71 : decode cX0_told 71 = .ok (.getfield 16, 3) := by decide +kernel
theorem dX0_told_74 : decode cX0_told 74 = .ok (.iload_n 1, 1) := by decide +kernel
theorem dX0_told_75 : decode cX0_told 75 = .ok (.iaload, 1) := by decide +kernel
theorem dX0_told_76 : decode cX0_told 76 = .ok (.ireturn, 1) := by decide +kernel
theorem dX0_told_77 : decode cX0_told 77 = .ok (.aload_n 0, 1) := by decide +kernel
theorem dX0_told_78 : decode cX0_told 78 = .ok (.getfield 19, 3) := by decide +kernel
theorem dX0_told_81 : decode cX0_told 81 = .ok (.iload_n 1, 1) := by decide +kernel
theorem dX0_told_82 : decode cX0_told 82 = .ok (.iaload, 1) := by decide +kernel
theorem dX0_told_83 : decode cX0_told 83 = .ok (.ireturn, 1) := by decide +kernel
theorem dX0_told_84 : decode cX0_told 84 = .ok (.aload_n 0, 1) := by decide +kernel
theorem dX0_told_85 : decode cX0_told 85 = .ok (.getfield 22, 3) := by decide +kernel
theorem dX0_told_88 : decode cX0_told 88 = .ok (.iload_n 1, 1) := by decide +kernel
theorem dX0_told_89 : decode cX0_told 89 = .ok (.iaload, 1) := by decide +kernel
theorem dX0_told_90 : decode cX0_told 90 = .ok (.ireturn, 1) := by decide +kernel
theorem dX0_told_91 : decode cX0_told 91 = .ok (.aload_n 0, 1) := by decide +kernel
theorem dX0_told_92 : decode cX0_told 92 = .ok (.getfield 25, 3) := by decide +kernel
theorem dX0_told_95 : decode cX0_told 95 = .ok (.iload_n 1, 1) := by decide +kernel
theorem dX0_told_96 : decode cX0_told 96 = .ok (.iaload, 1) := by decide +kernel
theorem dX0_told_97 : decode cX0_told 97 = .ok (.ireturn, 1) := by decide +kernel
theorem dX0_told_98 : decode cX0_told 98 = .ok (.aload_n 0, 1) := by decide +kernel
theorem dX0_told_99 : decode cX0_told 99 = .ok (.getfield 28, 3) := by decide +kernel
theorem dX0_told_102 : decode cX0_told 102 = .ok (.iload_n 1, 1) := by decide +kernel
theorem dX0_told_103 : decode cX0_told 103 = .ok (.iaload, 1) := by decide +kernel
theorem dX0_told_104 : decode cX0_told 104 = .ok (.ireturn, 1) := by decide +kernel
theorem dX0_told_105 : decode cX0_told 105 = .ok (.aload_n 0, 1) := by decide +kernel
theorem dX0_told_106 : decode cX0_told 106 = .ok (.iload_n 1, 1) := by decide +kernel
theorem dX0_told_107 : decode cX0_told 107 = .ok (.invokevirtual 72, 3) := by decide +kernel
theorem dX0_told_110 : decode cX0_told 110 = .ok (.ireturn, 1) := by decide +kernel
theorem dX0_wage_0 : decode cX0_wage 0 = .ok (.iload_n 1, 1) := by decide +kernel
theorem dX0_wage_1 : decode cX0_wage 1 = .ok (.aload_n 0, 1) := by decide +kernel
theorem dX0_wage_2 : decode cX0_wage 2 = .ok (.getfield 50, 3) := by decide +kernel
theorem dX0_wage_5 : decode cX0_wage 5 = .ok (.invokestatic 62, 3) := by decide +kernel
theorem dX0_wage_8 : decode cX0_wage 8 = .ok (.iload_n 2, 1) := by decide +kernel
theorem dX0_wage_9 : decode cX0_wage 9 = .ok (.bipush 6, 2) := by decide +kernel
theorem dX0_wage_11 : decode cX0_wage 11 = .ok (.invokestatic 62, 3) := by decide +kernel
theorem dX0_wage_14 : decode cX0_wage 14 = .ok (.iload_n 2, 1) := by decide +kernel
theorem dX0_wage_15 : decode cX0_wage 15 = .ok (.tableswitch 85 0 4 #[33, 43, 53, 63, 69], 33) := by decide +kernel
theorem dX0_wage_48 : decode cX0_wage 48 = .ok (.aload_n 0, 1) := by decide +kernel
theorem dX0_wage_49 : decode cX0_wage 49 = .ok (.iload_n 1, 1) := by decide +kernel
theorem dX0_wage_50 : decode cX0_wage 50 = .ok (.aload_n 0, 1) := by decide +kernel
theorem dX0_wage_51 : decode cX0_wage 51 = .ok (.getfield 31, 3) := by decide +kernel
theorem dX0_wage_54 : decode cX0_wage 54 = .ok (.invokevirtual 75, 3) := by decide +kernel
theorem dX0_wage_57 : decode cX0_wage 57 = .ok (.ireturn, 1) := by decide +kernel
theorem dX0_wage_58 : decode cX0_wage 58 = .ok (.aload_n 0, 1) := by decide +kernel
theorem dX0_wage_59 : decode cX0_wage 59 = .ok (.iload_n 1, 1) := by decide +kernel
theorem dX0_wage_60 : decode cX0_wage 60 = .ok (.aload_n 0, 1) := by decide +kernel
theorem dX0_wage_61 : decode cX0_wage 61 = .ok (.getfield 31, 3) := by decide +kernel
theorem dX0_wage_64 : decode cX0_wage 64 = .ok (.invokevirtual 79, 3) := by decide +kernel
theorem dX0_wage_67 : decode cX0_wage 67 = .ok (.ireturn, 1) := by decide +kernel
theorem dX0_wage_68 : decode cX0_wage 68 = .ok (.aload_n 0, 1) := by decide +kernel
theorem dX0_wage_69 : decode cX0_wage 69 = .ok (.iload_n 1, 1) := by decide +kernel
theorem dX0_wage_70 : decode cX0_wage 70 = .ok (.aload_n 0, 1) := by decide +kernel
theorem dX0_wage_71 : decode cX0_wage 71 = .ok (.getfield 31, 3) := by decide +kernel
theorem dX0_wage_74 : decode cX0_wage 74 = .ok (.invokevirtual 82, 3) := by decide +kernel
theorem dX0_wage_77 : decode cX0_wage 77 = .ok (.ireturn, 1) := by decide +kernel
theorem dX0_wage_78 : decode cX0_wage 78 = .ok (.aload_n 0, 1) := by decide +kernel
theorem dX0_wage_79 : decode cX0_wage 79 = .ok (.iload_n 1, 1) := by decide +kernel
theorem dX0_wage_80 : decode cX0_wage 80 = .ok (.invokevirtual 85, 3) := by decide +kernel
theorem dX0_wage_83 : decode cX0_wage 83 = .ok (.ireturn, 1) := by decide +kernel
theorem dX0_wage_84 : decode cX0_wage 84 = .ok (.aload_n 0, 1) := by decide +kernel
theorem dX0_wage_85 : decode cX0_wage 85 = .ok (.aload_n 0, 1) := by decide +kernel
theorem dX0_wage_86 : decode cX0_wage 86 = .ok (.getfield 22, 3) := by decide +kernel
theorem dX0_wage_89 : decode cX0_wage 89 = .ok (.iload_n 1, 1) := by decide +kernel
theorem dX0_wage_90 : decode cX0_wage 90 = .ok (.iaload, 1) := by decide +kernel
theorem dX0_wage_91 : decode cX0_wage 91 = .ok (.aload_n 0, 1) := by decide +kernel
theorem dX0_wage_92 : decode cX0_wage 92 = .ok (.iload_n 1, 1) := by decide +kernel
theorem dX0_wage_93 : decode cX0_wage 93 = .ok (.invokevirtual 85, 3) := by decide +kernel
theorem dX0_wage_96 : decode cX0_wage 96 = .ok (.invokevirtual 88, 3) := by decide +kernel
theorem dX0_wage_99 : decode cX0_wage 99 = .ok (.ireturn, 1) := by decide +kernel
theorem dX0_wage_100 : decode cX0_wage 100 = .ok (.aload_n 0, 1) := by decide +kernel
theorem dX0_wage_101 : decode cX0_wage 101 = .ok (.iload_n 1, 1) := by decide +kernel
theorem dX0_wage_102 : decode cX0_wage 102 = .ok (.invokevirtual 92, 3) := by decide +kernel
theorem dX0_wage_105 : decode cX0_wage 105 = .ok (.ireturn, 1) := by decide +kernel
theorem dX0_chest_0 : decode cX0_chest 0 = .ok (.iload_n 1, 1) := by decide +kernel
theorem dX0_chest_1 : decode cX0_chest 1 = .ok (.iconst 3, 1) := by decide +kernel
theorem dX0_chest_2 : decode cX0_chest 2 = .ok (.invokestatic 62, 3) := by decide +kernel
theorem dX0_chest_5 : decode cX0_chest 5 = .ok (.aload_n 0, 1) := by decide +kernel
theorem dX0_chest_6 : decode cX0_chest 6 = .ok (.getfield 34, 3) := by decide +kernel
theorem dX0_chest_9 : decode cX0_chest 9 = .ok (.iload_n 1, 1) := by decide +kernel
theorem dX0_chest_10 : decode cX0_chest 10 = .ok (.iaload, 1) := by decide +kernel
theorem dX0_chest_11 : decode cX0_chest 11 = .ok (.ireturn, 1) := by decide +kernel
theorem dX0_coins_0 : decode cX0_coins 0 = .ok (.iload_n 1, 1) := by decide +kernel
theorem dX0_coins_1 : decode cX0_coins 1 = .ok (.aload_n 0, 1) := by decide +kernel
theorem dX0_coins_2 : decode cX0_coins 2 = .ok (.getfield 50, 3) := by decide +kernel
theorem dX0_coins_5 : decode cX0_coins 5 = .ok (.invokestatic 62, 3) := by decide +kernel
theorem dX0_coins_8 : decode cX0_coins 8 = .ok (.iload_n 2, 1) := by decide +kernel
theorem dX0_coins_9 : decode cX0_coins 9 = .ok (.iconst 3, 1) := by decide +kernel
theorem dX0_coins_10 : decode cX0_coins 10 = .ok (.invokestatic 62, 3) := by decide +kernel
theorem dX0_coins_13 : decode cX0_coins 13 = .ok (.aload_n 0, 1) := by decide +kernel
theorem dX0_coins_14 : decode cX0_coins 14 = .ok (.getfield 34, 3) := by decide +kernel
theorem dX0_coins_17 : decode cX0_coins 17 = .ok (.aload_n 0, 1) := by decide +kernel
theorem dX0_coins_18 : decode cX0_coins 18 = .ok (.getfield 40, 3) := by decide +kernel
theorem dX0_coins_21 : decode cX0_coins 21 = .ok (.iconst 3, 1) := by decide +kernel
theorem dX0_coins_22 : decode cX0_coins 22 = .ok (.invokestatic 95, 3) := by decide +kernel
theorem dX0_coins_25 : decode cX0_coins 25 = .ok (.iconst 0, 1) := by decide +kernel
theorem dX0_coins_26 : decode cX0_coins 26 = .ok (.istore_n 3, 1) := by decide +kernel
theorem dX0_coins_27 : decode cX0_coins 27 = .ok (.iload_n 3, 1) := by decide +kernel
theorem dX0_coins_28 : decode cX0_coins 28 = .ok (.iload_n 1, 1) := by decide +kernel
theorem dX0_coins_29 : decode cX0_coins 29 = .ok (.if_icmp .gt 23, 3) := by decide +kernel
theorem dX0_coins_32 : decode cX0_coins 32 = .ok (.aload_n 0, 1) := by decide +kernel
theorem dX0_coins_33 : decode cX0_coins 33 = .ok (.aload_n 0, 1) := by decide +kernel
theorem dX0_coins_34 : decode cX0_coins 34 = .ok (.getfield 40, 3) := by decide +kernel
theorem dX0_coins_37 : decode cX0_coins 37 = .ok (.aload_n 0, 1) := by decide +kernel
theorem dX0_coins_38 : decode cX0_coins 38 = .ok (.iload_n 3, 1) := by decide +kernel
theorem dX0_coins_39 : decode cX0_coins 39 = .ok (.invokevirtual 92, 3) := by decide +kernel
theorem dX0_coins_42 : decode cX0_coins 42 = .ok (.invokevirtual 99, 3) := by decide +kernel
theorem dX0_coins_45 : decode cX0_coins 45 = .ok (.pop, 1) := by decide +kernel
theorem dX0_coins_46 : decode cX0_coins 46 = .ok (.iinc 3 1, 3) := by decide +kernel
theorem dX0_coins_49 : decode cX0_coins 49 = .ok (.goto (-22), 3) := by decide +kernel
theorem dX0_coins_52 : decode cX0_coins 52 = .ok (.aload_n 0, 1) := by decide +kernel
theorem dX0_coins_53 : decode cX0_coins 53 = .ok (.getfield 43, 3) := by decide +kernel
theorem dX0_coins_56 : decode cX0_coins 56 = .ok (.iload_n 2, 1) := by decide +kernel
theorem dX0_coins_57 : decode cX0_coins 57 = .ok (.iaload, 1) := by decide +kernel
theorem dX0_coins_58 : decode cX0_coins 58 = .ok (.ireturn, 1) := by decide +kernel
theorem dX0_count_0 : decode cX0_count 0 = .ok (.iload_n 1, 1) := by decide +kernel
theorem dX0_count_1 : decode cX0_count 1 = .ok (.bipush 7, 2) := by decide +kernel
theorem dX0_count_3 : decode cX0_count 3 = .ok (.invokestatic 62, 3) := by decide +kernel
theorem dX0_count_6 : decode cX0_count 6 = .ok (.iload_n 1, 1) := by decide +kernel
theorem dX0_count_7 : decode cX0_count 7 = .ok (.tableswitch 79 0 5 #[37, 42, 47, 56, 65, 70], 37) := by decide +kernel
theorem dX0_count_44 : decode cX0_count 44 = .ok (.aload_n 0, 1) := by decide +kernel
theorem dX0_count_45 : decode cX0_count 45 = .ok (.getfield 69, 3) := by decide +kernel
theorem dX0_count_48 : decode cX0_count 48 = .ok (.ireturn, 1) := by decide +kernel
theorem dX0_count_49 : decode cX0_count 49 = .ok (.aload_n 0, 1) := by decide +kernel
theorem dX0_count_50 : decode cX0_count 50 = .ok (.getfield 50, 3) := by decide +kernel
theorem dX0_count_53 : decode cX0_count 53 = .ok (.ireturn, 1) := by decide +kernel
theorem dX0_count_54 : decode cX0_count 54 = .ok (.aload_n 0, 1) := by decide +kernel
theorem dX0_count_55 : decode cX0_count 55 = .ok (.aload_n 0, 1) := by decide +kernel
theorem dX0_count_56 : decode cX0_count 56 = .ok (.getfield 22, 3) := by decide +kernel
theorem dX0_count_59 : decode cX0_count 59 = .ok (.invokevirtual 103, 3) := by decide +kernel
theorem dX0_count_62 : decode cX0_count 62 = .ok (.ireturn, 1) := by decide +kernel
theorem dX0_count_63 : decode cX0_count 63 = .ok (.aload_n 0, 1) := by decide +kernel
theorem dX0_count_64 : decode cX0_count 64 = .ok (.aload_n 0, 1) := by decide +kernel
theorem dX0_count_65 : decode cX0_count 65 = .ok (.getfield 25, 3) := by decide +kernel
theorem dX0_count_68 : decode cX0_count 68 = .ok (.invokevirtual 103, 3) := by decide +kernel
theorem dX0_count_71 : decode cX0_count 71 = .ok (.ireturn, 1) := by decide +kernel
theorem dX0_count_72 : decode cX0_count 72 = .ok (.aload_n 0, 1) := by decide +kernel
theorem dX0_count_73 : decode cX0_count 73 = .ok (.invokevirtual 107, 3) := by decide +kernel
theorem dX0_count_76 : decode cX0_count 76 = .ok (.ireturn, 1) := by decide +kernel
theorem dX0_count_77 : decode cX0_count 77 = .ok (.aload_n 0, 1) := by decide +kernel
theorem dX0_count_78 : decode cX0_count 78 = .ok (.aload_n 0, 1) := by decide +kernel
theorem dX0_count_79 : decode cX0_count 79 = .ok (.getfield 31, 3) := by decide +kernel
theorem dX0_count_82 : decode cX0_count 82 = .ok (.invokevirtual 111, 3) := by decide +kernel
theorem dX0_count_85 : decode cX0_count 85 = .ok (.ireturn, 1) := by decide +kernel
theorem dX0_count_86 : decode cX0_count 86 = .ok (.aload_n 0, 1) := by decide +kernel
theorem dX0_count_87 : decode cX0_count 87 = .ok (.aload_n 0, 1) := by decide +kernel
theorem dX0_count_88 : decode cX0_count 88 = .ok (.getfield 28, 3) := by decide +kernel
theorem dX0_count_91 : decode cX0_count 91 = .ok (.invokevirtual 103, 3) := by decide +kernel
theorem dX0_count_94 : decode cX0_count 94 = .ok (.ireturn, 1) := by decide +kernel
theorem dX0_rate_0 : decode cX0_rate 0 = .ok (.iload_n 1, 1) := by decide +kernel
theorem dX0_rate_1 : decode cX0_rate 1 = .ok (.iconst 5, 1) := by decide +kernel
theorem dX0_rate_2 : decode cX0_rate 2 = .ok (.invokestatic 62, 3) := by decide +kernel
theorem dX0_rate_5 : decode cX0_rate 5 = .ok (.aload_n 0, 1) := by decide +kernel
theorem dX0_rate_6 : decode cX0_rate 6 = .ok (.getfield 31, 3) := by decide +kernel
theorem dX0_rate_9 : decode cX0_rate 9 = .ok (.iload_n 1, 1) := by decide +kernel
theorem dX0_rate_10 : decode cX0_rate 10 = .ok (.iaload, 1) := by decide +kernel
theorem dX0_rate_11 : decode cX0_rate 11 = .ok (.ireturn, 1) := by decide +kernel
theorem dX0_lacks_0 : decode cX0_lacks 0 = .ok (.aload_n 0, 1) := by decide +kernel
theorem dX0_lacks_1 : decode cX0_lacks 1 = .ok (.getfield 34, 3) := by decide +kernel
theorem dX0_lacks_4 : decode cX0_lacks 4 = .ok (.aload_n 0, 1) := by decide +kernel
theorem dX0_lacks_5 : decode cX0_lacks 5 = .ok (.getfield 40, 3) := by decide +kernel
theorem dX0_lacks_8 : decode cX0_lacks 8 = .ok (.iconst 3, 1) := by decide +kernel
theorem dX0_lacks_9 : decode cX0_lacks 9 = .ok (.invokestatic 95, 3) := by decide +kernel
theorem dX0_lacks_12 : decode cX0_lacks 12 = .ok (.iconst 0, 1) := by decide +kernel
theorem dX0_lacks_13 : decode cX0_lacks 13 = .ok (.istore_n 1, 1) := by decide +kernel
theorem dX0_lacks_14 : decode cX0_lacks 14 = .ok (.iconst 0, 1) := by decide +kernel
theorem dX0_lacks_15 : decode cX0_lacks 15 = .ok (.istore_n 2, 1) := by decide +kernel
theorem dX0_lacks_16 : decode cX0_lacks 16 = .ok (.iload_n 2, 1) := by decide +kernel
theorem dX0_lacks_17 : decode cX0_lacks 17 = .ok (.aload_n 0, 1) := by decide +kernel
theorem dX0_lacks_18 : decode cX0_lacks 18 = .ok (.getfield 50, 3) := by decide +kernel
theorem dX0_lacks_21 : decode cX0_lacks 21 = .ok (.if_icmp .ge 31, 3) := by decide +kernel
theorem dX0_lacks_24 : decode cX0_lacks 24 = .ok (.aload_n 0, 1) := by decide +kernel
theorem dX0_lacks_25 : decode cX0_lacks 25 = .ok (.iload_n 2, 1) := by decide +kernel
theorem dX0_lacks_26 : decode cX0_lacks 26 = .ok (.invokevirtual 92, 3) := by decide +kernel
theorem dX0_lacks_29 : decode cX0_lacks 29 = .ok (.istore_n 3, 1) := by decide +kernel
theorem dX0_lacks_30 : decode cX0_lacks 30 = .ok (.iload_n 1, 1) := by decide +kernel
theorem dX0_lacks_31 : decode cX0_lacks 31 = .ok (.iload_n 3, 1) := by decide +kernel
theorem dX0_lacks_32 : decode cX0_lacks 32 = .ok (.aload_n 0, 1) := by decide +kernel
theorem dX0_lacks_33 : decode cX0_lacks 33 = .ok (.aload_n 0, 1) := by decide +kernel
theorem dX0_lacks_34 : decode cX0_lacks 34 = .ok (.getfield 40, 3) := by decide +kernel
theorem dX0_lacks_37 : decode cX0_lacks 37 = .ok (.iload_n 3, 1) := by decide +kernel
theorem dX0_lacks_38 : decode cX0_lacks 38 = .ok (.invokevirtual 99, 3) := by decide +kernel
theorem dX0_lacks_41 : decode cX0_lacks 41 = .ok (.isub, 1) := by decide +kernel
theorem dX0_lacks_42 : decode cX0_lacks 42 = .ok (.iconst 4, 1) := by decide +kernel
theorem dX0_lacks_43 : decode cX0_lacks 43 = .ok (.idiv, 1) := by decide +kernel
theorem dX0_lacks_44 : decode cX0_lacks 44 = .ok (.iadd, 1) := by decide +kernel
theorem dX0_lacks_45 : decode cX0_lacks 45 = .ok (.istore_n 1, 1) := by decide +kernel
theorem dX0_lacks_46 : decode cX0_lacks 46 = .ok (.iinc 2 1, 3) := by decide +kernel
theorem dX0_lacks_49 : decode cX0_lacks 49 = .ok (.goto (-33), 3) := by decide +kernel
theorem dX0_lacks_52 : decode cX0_lacks 52 = .ok (.iload_n 1, 1) := by decide +kernel
theorem dX0_lacks_53 : decode cX0_lacks 53 = .ok (.ireturn, 1) := by decide +kernel
theorem dX0_mean_0 : decode cX0_mean 0 = .ok (.aload_n 0, 1) := by decide +kernel
theorem dX0_mean_1 : decode cX0_mean 1 = .ok (.getfield 50, 3) := by decide +kernel
theorem dX0_mean_4 : decode cX0_mean 4 = .ok (.ifCond .ne 7, 3) := by decide +kernel
theorem dX0_mean_7 : decode cX0_mean 7 = .ok (.dconst 0, 1) := by decide +kernel
theorem dX0_mean_8 : decode cX0_mean 8 = .ok (.goto 18, 3) := by decide +kernel
theorem dX0_mean_11 : decode cX0_mean 11 = .ok (.aload_n 0, 1) := by decide +kernel
theorem dX0_mean_12 : decode cX0_mean 12 = .ok (.aload_n 0, 1) := by decide +kernel
theorem dX0_mean_13 : decode cX0_mean 13 = .ok (.getfield 31, 3) := by decide +kernel
theorem dX0_mean_16 : decode cX0_mean 16 = .ok (.invokevirtual 111, 3) := by decide +kernel
theorem dX0_mean_19 : decode cX0_mean 19 = .ok (.i2d, 1) := by decide +kernel
theorem dX0_mean_20 : decode cX0_mean 20 = .ok (.aload_n 0, 1) := by decide +kernel
theorem dX0_mean_21 : decode cX0_mean 21 = .ok (.getfield 50, 3) := by decide +kernel
theorem dX0_mean_24 : decode cX0_mean 24 = .ok (.i2d, 1) := by decide +kernel
theorem dX0_mean_25 : decode cX0_mean 25 = .ok (.ddiv, 1) := by decide +kernel
theorem dX0_mean_26 : decode cX0_mean 26 = .ok (.dreturn, 1) := by decide +kernel
theorem dX0_wageByPieces_0 : decode cX0_wageByPieces 0 = .ok (.aload_n 0, 1) := by decide +kernel
theorem dX0_wageByPieces_1 : decode cX0_wageByPieces 1 = .ok (.getfield 13, 3) := by decide +kernel
theorem dX0_wageByPieces_4 : decode cX0_wageByPieces 4 = .ok (.iload_n 1, 1) := by decide +kernel
theorem dX0_wageByPieces_5 : decode cX0_wageByPieces 5 = .ok (.iaload, 1) := by decide +kernel
theorem dX0_wageByPieces_6 : decode cX0_wageByPieces 6 = .ok (.aload_n 2, 1) := by decide +kernel
theorem dX0_wageByPieces_7 : decode cX0_wageByPieces 7 = .ok (.iconst 2, 1) := by decide +kernel
theorem dX0_wageByPieces_8 : decode cX0_wageByPieces 8 = .ok (.iaload, 1) := by decide +kernel
theorem dX0_wageByPieces_9 : decode cX0_wageByPieces 9 = .ok (.invokestatic 142, 3) := by decide +kernel
theorem dX0_wageByPieces_12 : decode cX0_wageByPieces 12 = .ok (.istore_n 3, 1) := by decide +kernel
theorem dX0_wageByPieces_13 : decode cX0_wageByPieces 13 = .ok (.aload_n 0, 1) := by decide +kernel
theorem dX0_wageByPieces_14 : decode cX0_wageByPieces 14 = .ok (.getfield 13, 3) := by decide +kernel
theorem dX0_wageByPieces_17 : decode cX0_wageByPieces 17 = .ok (.iload_n 1, 1) := by decide +kernel
theorem dX0_wageByPieces_18 : decode cX0_wageByPieces 18 = .ok (.iaload, 1) := by decide +kernel
theorem dX0_wageByPieces_19 : decode cX0_wageByPieces 19 = .ok (.iload_n 3, 1) := by decide +kernel
theorem dX0_wageByPieces_20 : decode cX0_wageByPieces 20 = .ok (.isub, 1) := by decide +kernel
theorem dX0_wageByPieces_21 : decode cX0_wageByPieces 21 = .ok (.i2l, 1) := by decide +kernel
theorem dX0_wageByPieces_22 : decode cX0_wageByPieces 22 = .ok (.lstore 4, 2) := by decide +kernel
theorem dX0_wageByPieces_24 : decode cX0_wageByPieces 24 = .ok (.aload_n 2, 1) := by decide +kernel
theorem dX0_wageByPieces_25 : decode cX0_wageByPieces 25 = .ok (.iconst 0, 1) := by decide +kernel
theorem dX0_wageByPieces_26 : decode cX0_wageByPieces 26 = .ok (.iaload, 1) := by decide +kernel
theorem dX0_wageByPieces_27 : decode cX0_wageByPieces 27 = .ok (.i2l, 1) := by decide +kernel
theorem dX0_wageByPieces_28 : decode cX0_wageByPieces 28 = .ok (.lload 4, 2) := by decide +kernel
theorem dX0_wageByPieces_30 : decode cX0_wageByPieces 30 = .ok (.lmul, 1) := by decide +kernel
theorem dX0_wageByPieces_31 : decode cX0_wageByPieces 31 = .ok (.bipush 100, 2) := by decide +kernel
theorem dX0_wageByPieces_33 : decode cX0_wageByPieces 33 = .ok (.aload_n 2, 1) := by decide +kernel
theorem dX0_wageByPieces_34 : decode cX0_wageByPieces 34 = .ok (.iconst 3, 1) := by decide +kernel
theorem dX0_wageByPieces_35 : decode cX0_wageByPieces 35 = .ok (.iaload, 1) := by decide +kernel
theorem dX0_wageByPieces_36 : decode cX0_wageByPieces 36 = .ok (.iadd, 1) := by decide +kernel
theorem dX0_wageByPieces_37 : decode cX0_wageByPieces 37 = .ok (.i2l, 1) := by decide +kernel
theorem dX0_wageByPieces_38 : decode cX0_wageByPieces 38 = .ok (.lmul, 1) := by decide +kernel
theorem dX0_wageByPieces_39 : decode cX0_wageByPieces 39 = .ok (.ldc2_w 145, 3) := by decide +kernel
theorem dX0_wageByPieces_42 : decode cX0_wageByPieces 42 = .ok (.ldiv, 1) := by decide +kernel
theorem dX0_wageByPieces_43 : decode cX0_wageByPieces 43 = .ok (.lstore 6, 2) := by decide +kernel
theorem dX0_wageByPieces_45 : decode cX0_wageByPieces 45 = .ok (.aload_n 2, 1) := by decide +kernel
theorem dX0_wageByPieces_46 : decode cX0_wageByPieces 46 = .ok (.iconst 0, 1) := by decide +kernel
theorem dX0_wageByPieces_47 : decode cX0_wageByPieces 47 = .ok (.iaload, 1) := by decide +kernel
theorem dX0_wageByPieces_48 : decode cX0_wageByPieces 48 = .ok (.iload_n 3, 1) := by decide +kernel
theorem dX0_wageByPieces_49 : decode cX0_wageByPieces 49 = .ok (.imul, 1) := by decide +kernel
theorem dX0_wageByPieces_50 : decode cX0_wageByPieces 50 = .ok (.bipush 10, 2) := by decide +kernel
theorem dX0_wageByPieces_52 : decode cX0_wageByPieces 52 = .ok (.idiv, 1) := by decide +kernel
theorem dX0_wageByPieces_53 : decode cX0_wageByPieces 53 = .ok (.lload 6, 2) := by decide +kernel
theorem dX0_wageByPieces_55 : decode cX0_wageByPieces 55 = .ok (.l2i, 1) := by decide +kernel
theorem dX0_wageByPieces_56 : decode cX0_wageByPieces 56 = .ok (.iadd, 1) := by decide +kernel
theorem dX0_wageByPieces_57 : decode cX0_wageByPieces 57 = .ok (.ireturn, 1) := by decide +kernel
theorem dX0_wageByHours_0 : decode cX0_wageByHours 0 = .ok (.aload_n 2, 1) := by decide +kernel
theorem dX0_wageByHours_1 : decode cX0_wageByHours 1 = .ok (.iconst 1, 1) := by decide +kernel
theorem dX0_wageByHours_2 : decode cX0_wageByHours 2 = .ok (.iaload, 1) := by decide +kernel
theorem dX0_wageByHours_3 : decode cX0_wageByHours 3 = .ok (.aload_n 0, 1) := by decide +kernel
theorem dX0_wageByHours_4 : decode cX0_wageByHours 4 = .ok (.iload_n 1, 1) := by decide +kernel
theorem dX0_wageByHours_5 : decode cX0_wageByHours 5 = .ok (.invokevirtual 72, 3) := by decide +kernel
theorem dX0_wageByHours_8 : decode cX0_wageByHours 8 = .ok (.imul, 1) := by decide +kernel
theorem dX0_wageByHours_9 : decode cX0_wageByHours 9 = .ok (.ireturn, 1) := by decide +kernel
theorem dX0_hoursThatCount_0 : decode cX0_hoursThatCount 0 = .ok (.aload_n 0, 1) := by decide +kernel
theorem dX0_hoursThatCount_1 : decode cX0_hoursThatCount 1 = .ok (.getfield 19, 3) := by decide +kernel
theorem dX0_hoursThatCount_4 : decode cX0_hoursThatCount 4 = .ok (.iload_n 1, 1) := by decide +kernel
theorem dX0_hoursThatCount_5 : decode cX0_hoursThatCount 5 = .ok (.iaload, 1) := by decide +kernel
theorem dX0_hoursThatCount_6 : decode cX0_hoursThatCount 6 = .ok (.iconst 1, 1) := by decide +kernel
theorem dX0_hoursThatCount_7 : decode cX0_hoursThatCount 7 = .ok (.iadd, 1) := by decide +kernel
theorem dX0_hoursThatCount_8 : decode cX0_hoursThatCount 8 = .ok (.iconst 2, 1) := by decide +kernel
theorem dX0_hoursThatCount_9 : decode cX0_hoursThatCount 9 = .ok (.idiv, 1) := by decide +kernel
theorem dX0_hoursThatCount_10 : decode cX0_hoursThatCount 10 = .ok (.istore_n 2, 1) := by decide +kernel
theorem dX0_hoursThatCount_11 : decode cX0_hoursThatCount 11 = .ok (.iconst 0, 1) := by decide +kernel
theorem dX0_hoursThatCount_12 : decode cX0_hoursThatCount 12 = .ok (.aload_n 0, 1) := by decide +kernel
theorem dX0_hoursThatCount_13 : decode cX0_hoursThatCount 13 = .ok (.getfield 16, 3) := by decide +kernel
theorem dX0_hoursThatCount_16 : decode cX0_hoursThatCount 16 = .ok (.iload_n 1, 1) := by decide +kernel
theorem dX0_hoursThatCount_17 : decode cX0_hoursThatCount 17 = .ok (.iaload, 1) := by decide +kernel
theorem dX0_hoursThatCount_18 : decode cX0_hoursThatCount 18 = .ok (.iload_n 2, 1) := by decide +kernel
theorem dX0_hoursThatCount_19 : decode cX0_hoursThatCount 19 = .ok (.isub, 1) := by decide +kernel
theorem dX0_hoursThatCount_20 : decode cX0_hoursThatCount 20 = .ok (.invokestatic 147, 3) := by decide +kernel
theorem dX0_hoursThatCount_23 : decode cX0_hoursThatCount 23 = .ok (.istore_n 3, 1) := by decide +kernel
theorem dX0_hoursThatCount_24 : decode cX0_hoursThatCount 24 = .ok (.iconst 0, 1) := by decide +kernel
theorem dX0_hoursThatCount_25 : decode cX0_hoursThatCount 25 = .ok (.iload_n 3, 1) := by decide +kernel
theorem dX0_hoursThatCount_26 : decode cX0_hoursThatCount 26 = .ok (.bipush 60, 2) := by decide +kernel
theorem dX0_hoursThatCount_28 : decode cX0_hoursThatCount 28 = .ok (.isub, 1) := by decide +kernel
theorem dX0_hoursThatCount_29 : decode cX0_hoursThatCount 29 = .ok (.invokestatic 147, 3) := by decide +kernel
theorem dX0_hoursThatCount_32 : decode cX0_hoursThatCount 32 = .ok (.istore 4, 2) := by decide +kernel
theorem dX0_hoursThatCount_34 : decode cX0_hoursThatCount 34 = .ok (.iload_n 3, 1) := by decide +kernel
theorem dX0_hoursThatCount_35 : decode cX0_hoursThatCount 35 = .ok (.iload 4, 2) := by decide +kernel
theorem dX0_hoursThatCount_37 : decode cX0_hoursThatCount 37 = .ok (.iconst 2, 1) := by decide +kernel
theorem dX0_hoursThatCount_38 : decode cX0_hoursThatCount 38 = .ok (.idiv, 1) := by decide +kernel
theorem dX0_hoursThatCount_39 : decode cX0_hoursThatCount 39 = .ok (.iadd, 1) := by decide +kernel
theorem dX0_hoursThatCount_40 : decode cX0_hoursThatCount 40 = .ok (.ireturn, 1) := by decide +kernel
theorem dX0_weekWage_0 : decode cX0_weekWage 0 = .ok (.aload_n 0, 1) := by decide +kernel
theorem dX0_weekWage_1 : decode cX0_weekWage 1 = .ok (.getfield 9, 3) := by decide +kernel
theorem dX0_weekWage_4 : decode cX0_weekWage 4 = .ok (.iload_n 1, 1) := by decide +kernel
theorem dX0_weekWage_5 : decode cX0_weekWage 5 = .ok (.iaload, 1) := by decide +kernel
theorem dX0_weekWage_6 : decode cX0_weekWage 6 = .ok (.lookupswitch 40 #[(0, 26), (1, 33)], 26) := by decide +kernel
theorem dX0_weekWage_32 : decode cX0_weekWage 32 = .ok (.aload_n 0, 1) := by decide +kernel
theorem dX0_weekWage_33 : decode cX0_weekWage 33 = .ok (.iload_n 1, 1) := by decide +kernel
theorem dX0_weekWage_34 : decode cX0_weekWage 34 = .ok (.aload_n 2, 1) := by decide +kernel
theorem dX0_weekWage_35 : decode cX0_weekWage 35 = .ok (.invokevirtual 75, 3) := by decide +kernel
theorem dX0_weekWage_38 : decode cX0_weekWage 38 = .ok (.ireturn, 1) := by decide +kernel
theorem dX0_weekWage_39 : decode cX0_weekWage 39 = .ok (.aload_n 0, 1) := by decide +kernel
theorem dX0_weekWage_40 : decode cX0_weekWage 40 = .ok (.iload_n 1, 1) := by decide +kernel
theorem dX0_weekWage_41 : decode cX0_weekWage 41 = .ok (.aload_n 2, 1) := by decide +kernel
theorem dX0_weekWage_42 : decode cX0_weekWage 42 = .ok (.invokevirtual 79, 3) := by decide +kernel
theorem dX0_weekWage_45 : decode cX0_weekWage 45 = .ok (.ireturn, 1) := by decide +kernel
theorem dX0_weekWage_46 : decode cX0_weekWage 46 = .ok (.aload_n 0, 1) := by decide +kernel
theorem dX0_weekWage_47 : decode cX0_weekWage 47 = .ok (.iload_n 1, 1) := by decide +kernel
theorem dX0_weekWage_48 : decode cX0_weekWage 48 = .ok (.aload_n 2, 1) := by decide +kernel
theorem dX0_weekWage_49 : decode cX0_weekWage 49 = .ok (.invokevirtual 75, 3) := by decide +kernel
theorem dX0_weekWage_52 : decode cX0_weekWage 52 = .ok (.aload_n 0, 1) := by decide +kernel
theorem dX0_weekWage_53 : decode cX0_weekWage 53 = .ok (.iload_n 1, 1) := by decide +kernel
theorem dX0_weekWage_54 : decode cX0_weekWage 54 = .ok (.aload_n 2, 1) := by decide +kernel
theorem dX0_weekWage_55 : decode cX0_weekWage 55 = .ok (.invokevirtual 79, 3) := by decide +kernel
theorem dX0_weekWage_58 : decode cX0_weekWage 58 = .ok (.invokestatic 147, 3) := by decide +kernel
theorem dX0_weekWage_61 : decode cX0_weekWage 61 = .ok (.ireturn, 1) := by decide +kernel
theorem dX0_coming_0 : decode cX0_coming 0 = .ok (.aload_n 0, 1) := by decide +kernel
theorem dX0_coming_1 : decode cX0_coming 1 = .ok (.iload_n 1, 1) := by decide +kernel
theorem dX0_coming_2 : decode cX0_coming 2 = .ok (.aload_n 0, 1) := by decide +kernel
theorem dX0_coming_3 : decode cX0_coming 3 = .ok (.getfield 31, 3) := by decide +kernel
theorem dX0_coming_6 : decode cX0_coming 6 = .ok (.invokevirtual 82, 3) := by decide +kernel
theorem dX0_coming_9 : decode cX0_coming 9 = .ok (.aload_n 0, 1) := by decide +kernel
theorem dX0_coming_10 : decode cX0_coming 10 = .ok (.getfield 25, 3) := by decide +kernel
theorem dX0_coming_13 : decode cX0_coming 13 = .ok (.iload_n 1, 1) := by decide +kernel
theorem dX0_coming_14 : decode cX0_coming 14 = .ok (.iaload, 1) := by decide +kernel
theorem dX0_coming_15 : decode cX0_coming 15 = .ok (.iadd, 1) := by decide +kernel
theorem dX0_coming_16 : decode cX0_coming 16 = .ok (.ireturn, 1) := by decide +kernel
theorem dX0_takenBack_0 : decode cX0_takenBack 0 = .ok (.iload_n 1, 1) := by decide +kernel
theorem dX0_takenBack_1 : decode cX0_takenBack 1 = .ok (.iload_n 2, 1) := by decide +kernel
theorem dX0_takenBack_2 : decode cX0_takenBack 2 = .ok (.aload_n 0, 1) := by decide +kernel
theorem dX0_takenBack_3 : decode cX0_takenBack 3 = .ok (.getfield 31, 3) := by decide +kernel
theorem dX0_takenBack_6 : decode cX0_takenBack 6 = .ok (.iconst 4, 1) := by decide +kernel
theorem dX0_takenBack_7 : decode cX0_takenBack 7 = .ok (.iaload, 1) := by decide +kernel
theorem dX0_takenBack_8 : decode cX0_takenBack 8 = .ok (.invokestatic 150, 3) := by decide +kernel
theorem dX0_takenBack_11 : decode cX0_takenBack 11 = .ok (.invokestatic 142, 3) := by decide +kernel
theorem dX0_takenBack_14 : decode cX0_takenBack 14 = .ok (.ireturn, 1) := by decide +kernel
theorem dX0_restToPay_0 : decode cX0_restToPay 0 = .ok (.aload_n 0, 1) := by decide +kernel
theorem dX0_restToPay_1 : decode cX0_restToPay 1 = .ok (.iload_n 1, 1) := by decide +kernel
theorem dX0_restToPay_2 : decode cX0_restToPay 2 = .ok (.invokevirtual 85, 3) := by decide +kernel
theorem dX0_restToPay_5 : decode cX0_restToPay 5 = .ok (.istore_n 2, 1) := by decide +kernel
theorem dX0_restToPay_6 : decode cX0_restToPay 6 = .ok (.iload_n 2, 1) := by decide +kernel
theorem dX0_restToPay_7 : decode cX0_restToPay 7 = .ok (.aload_n 0, 1) := by decide +kernel
theorem dX0_restToPay_8 : decode cX0_restToPay 8 = .ok (.aload_n 0, 1) := by decide +kernel
theorem dX0_restToPay_9 : decode cX0_restToPay 9 = .ok (.getfield 22, 3) := by decide +kernel
theorem dX0_restToPay_12 : decode cX0_restToPay 12 = .ok (.iload_n 1, 1) := by decide +kernel
theorem dX0_restToPay_13 : decode cX0_restToPay 13 = .ok (.iaload, 1) := by decide +kernel
theorem dX0_restToPay_14 : decode cX0_restToPay 14 = .ok (.iload_n 2, 1) := by decide +kernel
theorem dX0_restToPay_15 : decode cX0_restToPay 15 = .ok (.invokevirtual 88, 3) := by decide +kernel
theorem dX0_restToPay_18 : decode cX0_restToPay 18 = .ok (.isub, 1) := by decide +kernel
theorem dX0_restToPay_19 : decode cX0_restToPay 19 = .ok (.ireturn, 1) := by decide +kernel
theorem dX0_settle_0 : decode cX0_settle 0 = .ok (.aload_n 0, 1) := by decide +kernel
theorem dX0_settle_1 : decode cX0_settle 1 = .ok (.iload_n 1, 1) := by decide +kernel
theorem dX0_settle_2 : decode cX0_settle 2 = .ok (.invokevirtual 85, 3) := by decide +kernel
theorem dX0_settle_5 : decode cX0_settle 5 = .ok (.istore_n 2, 1) := by decide +kernel
theorem dX0_settle_6 : decode cX0_settle 6 = .ok (.aload_n 0, 1) := by decide +kernel
theorem dX0_settle_7 : decode cX0_settle 7 = .ok (.aload_n 0, 1) := by decide +kernel
theorem dX0_settle_8 : decode cX0_settle 8 = .ok (.getfield 22, 3) := by decide +kernel
theorem dX0_settle_11 : decode cX0_settle 11 = .ok (.iload_n 1, 1) := by decide +kernel
theorem dX0_settle_12 : decode cX0_settle 12 = .ok (.iaload, 1) := by decide +kernel
theorem dX0_settle_13 : decode cX0_settle 13 = .ok (.iload_n 2, 1) := by decide +kernel
theorem dX0_settle_14 : decode cX0_settle 14 = .ok (.invokevirtual 88, 3) := by decide +kernel
theorem dX0_settle_17 : decode cX0_settle 17 = .ok (.istore_n 3, 1) := by decide +kernel
theorem dX0_settle_18 : decode cX0_settle 18 = .ok (.aload_n 0, 1) := by decide +kernel
theorem dX0_settle_19 : decode cX0_settle 19 = .ok (.aload_n 0, 1) := by decide +kernel
theorem dX0_settle_20 : decode cX0_settle 20 = .ok (.getfield 34, 3) := by decide +kernel
theorem dX0_settle_23 : decode cX0_settle 23 = .ok (.iload_n 2, 1) := by decide +kernel
theorem dX0_settle_24 : decode cX0_settle 24 = .ok (.iload_n 3, 1) := by decide +kernel
theorem dX0_settle_25 : decode cX0_settle 25 = .ok (.isub, 1) := by decide +kernel
theorem dX0_settle_26 : decode cX0_settle 26 = .ok (.invokevirtual 99, 3) := by decide +kernel
theorem dX0_settle_29 : decode cX0_settle 29 = .ok (.istore 4, 2) := by decide +kernel
theorem dX0_settle_31 : decode cX0_settle 31 = .ok (.aload_n 0, 1) := by decide +kernel
theorem dX0_settle_32 : decode cX0_settle 32 = .ok (.getfield 22, 3) := by decide +kernel
theorem dX0_settle_35 : decode cX0_settle 35 = .ok (.iload_n 1, 1) := by decide +kernel
theorem dX0_settle_36 : decode cX0_settle 36 = .ok (.dup2, 1) := by decide +kernel
theorem dX0_settle_37 : decode cX0_settle 37 = .ok (.iaload, 1) := by decide +kernel
theorem dX0_settle_38 : decode cX0_settle 38 = .ok (.iload_n 3, 1) := by decide +kernel
theorem dX0_settle_39 : decode cX0_settle 39 = .ok (.isub, 1) := by decide +kernel
theorem dX0_settle_40 : decode cX0_settle 40 = .ok (.iastore, 1) := by decide +kernel
theorem dX0_settle_41 : decode cX0_settle 41 = .ok (.aload_n 0, 1) := by decide +kernel
theorem dX0_settle_42 : decode cX0_settle 42 = .ok (.getfield 25, 3) := by decide +kernel
theorem dX0_settle_45 : decode cX0_settle 45 = .ok (.iload_n 1, 1) := by decide +kernel
theorem dX0_settle_46 : decode cX0_settle 46 = .ok (.iload_n 2, 1) := by decide +kernel
theorem dX0_settle_47 : decode cX0_settle 47 = .ok (.iload_n 3, 1) := by decide +kernel
theorem dX0_settle_48 : decode cX0_settle 48 = .ok (.isub, 1) := by decide +kernel
theorem dX0_settle_49 : decode cX0_settle 49 = .ok (.iload 4, 2) := by decide +kernel
theorem dX0_settle_51 : decode cX0_settle 51 = .ok (.isub, 1) := by decide +kernel
theorem dX0_settle_52 : decode cX0_settle 52 = .ok (.iastore, 1) := by decide +kernel
theorem dX0_settle_53 : decode cX0_settle 53 = .ok (.aload_n 0, 1) := by decide +kernel
theorem dX0_settle_54 : decode cX0_settle 54 = .ok (.getfield 28, 3) := by decide +kernel
theorem dX0_settle_57 : decode cX0_settle 57 = .ok (.iload_n 1, 1) := by decide +kernel
theorem dX0_settle_58 : decode cX0_settle 58 = .ok (.dup2, 1) := by decide +kernel
theorem dX0_settle_59 : decode cX0_settle 59 = .ok (.iaload, 1) := by decide +kernel
theorem dX0_settle_60 : decode cX0_settle 60 = .ok (.iload 4, 2) := by decide +kernel
theorem dX0_settle_62 : decode cX0_settle 62 = .ok (.iadd, 1) := by decide +kernel
theorem dX0_settle_63 : decode cX0_settle 63 = .ok (.iastore, 1) := by decide +kernel
theorem dX0_settle_64 : decode cX0_settle 64 = .ok (.aload_n 0, 1) := by decide +kernel
theorem dX0_settle_65 : decode cX0_settle 65 = .ok (.getfield 13, 3) := by decide +kernel
theorem dX0_settle_68 : decode cX0_settle 68 = .ok (.iload_n 1, 1) := by decide +kernel
theorem dX0_settle_69 : decode cX0_settle 69 = .ok (.iconst 0, 1) := by decide +kernel
theorem dX0_settle_70 : decode cX0_settle 70 = .ok (.iastore, 1) := by decide +kernel
theorem dX0_settle_71 : decode cX0_settle 71 = .ok (.aload_n 0, 1) := by decide +kernel
theorem dX0_settle_72 : decode cX0_settle 72 = .ok (.getfield 16, 3) := by decide +kernel
theorem dX0_settle_75 : decode cX0_settle 75 = .ok (.iload_n 1, 1) := by decide +kernel
theorem dX0_settle_76 : decode cX0_settle 76 = .ok (.iconst 0, 1) := by decide +kernel
theorem dX0_settle_77 : decode cX0_settle 77 = .ok (.iastore, 1) := by decide +kernel
theorem dX0_settle_78 : decode cX0_settle 78 = .ok (.aload_n 0, 1) := by decide +kernel
theorem dX0_settle_79 : decode cX0_settle 79 = .ok (.getfield 19, 3) := by decide +kernel
theorem dX0_settle_82 : decode cX0_settle 82 = .ok (.iload_n 1, 1) := by decide +kernel
theorem dX0_settle_83 : decode cX0_settle 83 = .ok (.iconst 0, 1) := by decide +kernel
theorem dX0_settle_84 : decode cX0_settle 84 = .ok (.iastore, 1) := by decide +kernel
theorem dX0_settle_85 : decode cX0_settle 85 = .ok (.iload 4, 2) := by decide +kernel
theorem dX0_settle_87 : decode cX0_settle 87 = .ok (.ireturn, 1) := by decide +kernel
theorem dX0_handOut_0 : decode cX0_handOut 0 = .ok (.iload_n 2, 1) := by decide +kernel
theorem dX0_handOut_1 : decode cX0_handOut 1 = .ok (.istore_n 3, 1) := by decide +kernel
theorem dX0_handOut_2 : decode cX0_handOut 2 = .ok (.iconst 0, 1) := by decide +kernel
theorem dX0_handOut_3 : decode cX0_handOut 3 = .ok (.istore 4, 2) := by decide +kernel
theorem dX0_handOut_5 : decode cX0_handOut 5 = .ok (.iload 4, 2) := by decide +kernel
theorem dX0_handOut_7 : decode cX0_handOut 7 = .ok (.iconst 3, 1) := by decide +kernel
theorem dX0_handOut_8 : decode cX0_handOut 8 = .ok (.if_icmp .ge 58, 3) := by decide +kernel
theorem dX0_handOut_11 : decode cX0_handOut 11 = .ok (.iload_n 3, 1) := by decide +kernel
theorem dX0_handOut_12 : decode cX0_handOut 12 = .ok (.getstatic 153, 3) := by decide +kernel
theorem dX0_handOut_15 : decode cX0_handOut 15 = .ok (.iload 4, 2) := by decide +kernel
theorem dX0_handOut_17 : decode cX0_handOut 17 = .ok (.iaload, 1) := by decide +kernel
theorem dX0_handOut_18 : decode cX0_handOut 18 = .ok (.invokestatic 150, 3) := by decide +kernel
theorem dX0_handOut_21 : decode cX0_handOut 21 = .ok (.aload_n 1, 1) := by decide +kernel
theorem dX0_handOut_22 : decode cX0_handOut 22 = .ok (.iload 4, 2) := by decide +kernel
theorem dX0_handOut_24 : decode cX0_handOut 24 = .ok (.iaload, 1) := by decide +kernel
theorem dX0_handOut_25 : decode cX0_handOut 25 = .ok (.invokestatic 142, 3) := by decide +kernel
theorem dX0_handOut_28 : decode cX0_handOut 28 = .ok (.istore 5, 2) := by decide +kernel
theorem dX0_handOut_30 : decode cX0_handOut 30 = .ok (.aload_n 1, 1) := by decide +kernel
theorem dX0_handOut_31 : decode cX0_handOut 31 = .ok (.iload 4, 2) := by decide +kernel
theorem dX0_handOut_33 : decode cX0_handOut 33 = .ok (.dup2, 1) := by decide +kernel
theorem dX0_handOut_34 : decode cX0_handOut 34 = .ok (.iaload, 1) := by decide +kernel
theorem dX0_handOut_35 : decode cX0_handOut 35 = .ok (.iload 5, 2) := by decide +kernel
theorem dX0_handOut_37 : decode cX0_handOut 37 = .ok (.isub, 1) := by decide +kernel
theorem dX0_handOut_38 : decode cX0_handOut 38 = .ok (.iastore, 1) := by decide +kernel
theorem dX0_handOut_39 : decode cX0_handOut 39 = .ok (.aload_n 0, 1) := by decide +kernel
theorem dX0_handOut_40 : decode cX0_handOut 40 = .ok (.getfield 43, 3) := by decide +kernel
theorem dX0_handOut_43 : decode cX0_handOut 43 = .ok (.iload 4, 2) := by decide +kernel
theorem dX0_handOut_45 : decode cX0_handOut 45 = .ok (.iload 5, 2) := by decide +kernel
theorem dX0_handOut_47 : decode cX0_handOut 47 = .ok (.iastore, 1) := by decide +kernel
theorem dX0_handOut_48 : decode cX0_handOut 48 = .ok (.iload_n 3, 1) := by decide +kernel
theorem dX0_handOut_49 : decode cX0_handOut 49 = .ok (.iload 5, 2) := by decide +kernel
theorem dX0_handOut_51 : decode cX0_handOut 51 = .ok (.getstatic 153, 3) := by decide +kernel
theorem dX0_handOut_54 : decode cX0_handOut 54 = .ok (.iload 4, 2) := by decide +kernel
theorem dX0_handOut_56 : decode cX0_handOut 56 = .ok (.iaload, 1) := by decide +kernel
theorem dX0_handOut_57 : decode cX0_handOut 57 = .ok (.imul, 1) := by decide +kernel
theorem dX0_handOut_58 : decode cX0_handOut 58 = .ok (.isub, 1) := by decide +kernel
theorem dX0_handOut_59 : decode cX0_handOut 59 = .ok (.istore_n 3, 1) := by decide +kernel
theorem dX0_handOut_60 : decode cX0_handOut 60 = .ok (.iinc 4 1, 3) := by decide +kernel
theorem dX0_handOut_63 : decode cX0_handOut 63 = .ok (.goto (-58), 3) := by decide +kernel
theorem dX0_handOut_66 : decode cX0_handOut 66 = .ok (.iload_n 2, 1) := by decide +kernel
theorem dX0_handOut_67 : decode cX0_handOut 67 = .ok (.iload_n 3, 1) := by decide +kernel
theorem dX0_handOut_68 : decode cX0_handOut 68 = .ok (.isub, 1) := by decide +kernel
theorem dX0_handOut_69 : decode cX0_handOut 69 = .ok (.ireturn, 1) := by decide +kernel
theorem dX0_wholeParts_0 : decode cX0_wholeParts 0 = .ok (.iload_n 1, 1) := by decide +kernel
theorem dX0_wholeParts_1 : decode cX0_wholeParts 1 = .ok (.iconst 1, 1) := by decide +kernel
theorem dX0_wholeParts_2 : decode cX0_wholeParts 2 = .ok (.if_icmp .ge 7, 3) := by decide +kernel
theorem dX0_wholeParts_5 : decode cX0_wholeParts 5 = .ok (.iconst 0, 1) := by decide +kernel
theorem dX0_wholeParts_6 : decode cX0_wholeParts 6 = .ok (.goto 6, 3) := by decide +kernel
theorem dX0_wholeParts_9 : decode cX0_wholeParts 9 = .ok (.iload_n 0, 1) := by decide +kernel
theorem dX0_wholeParts_10 : decode cX0_wholeParts 10 = .ok (.iload_n 1, 1) := by decide +kernel
theorem dX0_wholeParts_11 : decode cX0_wholeParts 11 = .ok (.idiv, 1) := by decide +kernel
theorem dX0_wholeParts_12 : decode cX0_wholeParts 12 = .ok (.ireturn, 1) := by decide +kernel
theorem dX0_allWages_0 : decode cX0_allWages 0 = .ok (.iconst 0, 1) := by decide +kernel
theorem dX0_allWages_1 : decode cX0_allWages 1 = .ok (.istore_n 2, 1) := by decide +kernel
theorem dX0_allWages_2 : decode cX0_allWages 2 = .ok (.iconst 0, 1) := by decide +kernel
theorem dX0_allWages_3 : decode cX0_allWages 3 = .ok (.istore_n 3, 1) := by decide +kernel
theorem dX0_allWages_4 : decode cX0_allWages 4 = .ok (.iload_n 3, 1) := by decide +kernel
theorem dX0_allWages_5 : decode cX0_allWages 5 = .ok (.aload_n 0, 1) := by decide +kernel
theorem dX0_allWages_6 : decode cX0_allWages 6 = .ok (.getfield 50, 3) := by decide +kernel
theorem dX0_allWages_9 : decode cX0_allWages 9 = .ok (.if_icmp .ge 18, 3) := by decide +kernel
theorem dX0_allWages_12 : decode cX0_allWages 12 = .ok (.iload_n 2, 1) := by decide +kernel
theorem dX0_allWages_13 : decode cX0_allWages 13 = .ok (.aload_n 0, 1) := by decide +kernel
theorem dX0_allWages_14 : decode cX0_allWages 14 = .ok (.iload_n 3, 1) := by decide +kernel
theorem dX0_allWages_15 : decode cX0_allWages 15 = .ok (.aload_n 1, 1) := by decide +kernel
theorem dX0_allWages_16 : decode cX0_allWages 16 = .ok (.invokevirtual 82, 3) := by decide +kernel
theorem dX0_allWages_19 : decode cX0_allWages 19 = .ok (.iadd, 1) := by decide +kernel
theorem dX0_allWages_20 : decode cX0_allWages 20 = .ok (.istore_n 2, 1) := by decide +kernel
theorem dX0_allWages_21 : decode cX0_allWages 21 = .ok (.iinc 3 1, 3) := by decide +kernel
theorem dX0_allWages_24 : decode cX0_allWages 24 = .ok (.goto (-20), 3) := by decide +kernel
theorem dX0_allWages_27 : decode cX0_allWages 27 = .ok (.iload_n 2, 1) := by decide +kernel
theorem dX0_allWages_28 : decode cX0_allWages 28 = .ok (.ireturn, 1) := by decide +kernel
theorem dX0_sumOfHired_0 : decode cX0_sumOfHired 0 = .ok (.iconst 0, 1) := by decide +kernel
theorem dX0_sumOfHired_1 : decode cX0_sumOfHired 1 = .ok (.istore_n 2, 1) := by decide +kernel
theorem dX0_sumOfHired_2 : decode cX0_sumOfHired 2 = .ok (.iconst 0, 1) := by decide +kernel
theorem dX0_sumOfHired_3 : decode cX0_sumOfHired 3 = .ok (.istore_n 3, 1) := by decide +kernel
theorem dX0_sumOfHired_4 : decode cX0_sumOfHired 4 = .ok (.iload_n 3, 1) := by decide +kernel
theorem dX0_sumOfHired_5 : decode cX0_sumOfHired 5 = .ok (.aload_n 0, 1) := by decide +kernel
theorem dX0_sumOfHired_6 : decode cX0_sumOfHired 6 = .ok (.getfield 50, 3) := by decide +kernel
theorem dX0_sumOfHired_9 : decode cX0_sumOfHired 9 = .ok (.if_icmp .ge 15, 3) := by decide +kernel
theorem dX0_sumOfHired_12 : decode cX0_sumOfHired 12 = .ok (.iload_n 2, 1) := by decide +kernel
theorem dX0_sumOfHired_13 : decode cX0_sumOfHired 13 = .ok (.aload_n 1, 1) := by decide +kernel
theorem dX0_sumOfHired_14 : decode cX0_sumOfHired 14 = .ok (.iload_n 3, 1) := by decide +kernel
theorem dX0_sumOfHired_15 : decode cX0_sumOfHired 15 = .ok (.iaload, 1) := by decide +kernel
theorem dX0_sumOfHired_16 : decode cX0_sumOfHired 16 = .ok (.iadd, 1) := by decide +kernel
theorem dX0_sumOfHired_17 : decode cX0_sumOfHired 17 = .ok (.istore_n 2, 1) := by decide +kernel
theorem dX0_sumOfHired_18 : decode cX0_sumOfHired 18 = .ok (.iinc 3 1, 3) := by decide +kernel
theorem dX0_sumOfHired_21 : decode cX0_sumOfHired 21 = .ok (.goto (-17), 3) := by decide +kernel
theorem dX0_sumOfHired_24 : decode cX0_sumOfHired 24 = .ok (.iload_n 2, 1) := by decide +kernel
theorem dX0_sumOfHired_25 : decode cX0_sumOfHired 25 = .ok (.ireturn, 1) := by decide +kernel
theorem dX0_worthOfPurse_0 : decode cX0_worthOfPurse 0 = .ok (.iconst 0, 1) := by decide +kernel
theorem dX0_worthOfPurse_1 : decode cX0_worthOfPurse 1 = .ok (.istore_n 1, 1) := by decide +kernel
theorem dX0_worthOfPurse_2 : decode cX0_worthOfPurse 2 = .ok (.iconst 0, 1) := by decide +kernel
theorem dX0_worthOfPurse_3 : decode cX0_worthOfPurse 3 = .ok (.istore_n 2, 1) := by decide +kernel
theorem dX0_worthOfPurse_4 : decode cX0_worthOfPurse 4 = .ok (.iload_n 2, 1) := by decide +kernel
theorem dX0_worthOfPurse_5 : decode cX0_worthOfPurse 5 = .ok (.iconst 3, 1) := by decide +kernel
theorem dX0_worthOfPurse_6 : decode cX0_worthOfPurse 6 = .ok (.if_icmp .ge 24, 3) := by decide +kernel
theorem dX0_worthOfPurse_9 : decode cX0_worthOfPurse 9 = .ok (.iload_n 1, 1) := by decide +kernel
theorem dX0_worthOfPurse_10 : decode cX0_worthOfPurse 10 = .ok (.aload_n 0, 1) := by decide +kernel
theorem dX0_worthOfPurse_11 : decode cX0_worthOfPurse 11 = .ok (.getfield 34, 3) := by decide +kernel
theorem dX0_worthOfPurse_14 : decode cX0_worthOfPurse 14 = .ok (.iload_n 2, 1) := by decide +kernel
theorem dX0_worthOfPurse_15 : decode cX0_worthOfPurse 15 = .ok (.iaload, 1) := by decide +kernel
theorem dX0_worthOfPurse_16 : decode cX0_worthOfPurse 16 = .ok (.getstatic 153, 3) := by decide +kernel
theorem dX0_worthOfPurse_19 : decode cX0_worthOfPurse 19 = .ok (.iload_n 2, 1) := by decide +kernel
theorem dX0_worthOfPurse_20 : decode cX0_worthOfPurse 20 = .ok (.iaload, 1) := by decide +kernel
theorem dX0_worthOfPurse_21 : decode cX0_worthOfPurse 21 = .ok (.imul, 1) := by decide +kernel
theorem dX0_worthOfPurse_22 : decode cX0_worthOfPurse 22 = .ok (.iadd, 1) := by decide +kernel
theorem dX0_worthOfPurse_23 : decode cX0_worthOfPurse 23 = .ok (.istore_n 1, 1) := by decide +kernel
theorem dX0_worthOfPurse_24 : decode cX0_worthOfPurse 24 = .ok (.iinc 2 1, 3) := by decide +kernel
theorem dX0_worthOfPurse_27 : decode cX0_worthOfPurse 27 = .ok (.goto (-23), 3) := by decide +kernel
theorem dX0_worthOfPurse_30 : decode cX0_worthOfPurse 30 = .ok (.iload_n 1, 1) := by decide +kernel
theorem dX0_worthOfPurse_31 : decode cX0_worthOfPurse 31 = .ok (.ireturn, 1) := by decide +kernel
theorem dX0_copyRow_0 : decode cX0_copyRow 0 = .ok (.iconst 0, 1) := by decide +kernel
theorem dX0_copyRow_1 : decode cX0_copyRow 1 = .ok (.istore_n 3, 1) := by decide +kernel
theorem dX0_copyRow_2 : decode cX0_copyRow 2 = .ok (.iload_n 3, 1) := by decide +kernel
theorem dX0_copyRow_3 : decode cX0_copyRow 3 = .ok (.iload_n 2, 1) := by decide +kernel
theorem dX0_copyRow_4 : decode cX0_copyRow 4 = .ok (.if_icmp .ge 15, 3) := by decide +kernel
theorem dX0_copyRow_7 : decode cX0_copyRow 7 = .ok (.aload_n 1, 1) := by decide +kernel
theorem dX0_copyRow_8 : decode cX0_copyRow 8 = .ok (.iload_n 3, 1) := by decide +kernel
theorem dX0_copyRow_9 : decode cX0_copyRow 9 = .ok (.aload_n 0, 1) := by decide +kernel
theorem dX0_copyRow_10 : decode cX0_copyRow 10 = .ok (.iload_n 3, 1) := by decide +kernel
theorem dX0_copyRow_11 : decode cX0_copyRow 11 = .ok (.iaload, 1) := by decide +kernel
theorem dX0_copyRow_12 : decode cX0_copyRow 12 = .ok (.iastore, 1) := by decide +kernel
theorem dX0_copyRow_13 : decode cX0_copyRow 13 = .ok (.iinc 3 1, 3) := by decide +kernel
theorem dX0_copyRow_16 : decode cX0_copyRow 16 = .ok (.goto (-14), 3) := by decide +kernel
theorem dX0_copyRow_19 : decode cX0_copyRow 19 = .ok (.return_, 1) := by decide +kernel
theorem dX0_requireIndex_0 : decode cX0_requireIndex 0 = .ok (.iload_n 0, 1) := by decide +kernel
theorem dX0_requireIndex_1 : decode cX0_requireIndex 1 = .ok (.ifCond .lt 8, 3) := by decide +kernel
theorem dX0_requireIndex_4 : decode cX0_requireIndex 4 = .ok (.iload_n 0, 1) := by decide +kernel
theorem dX0_requireIndex_5 : decode cX0_requireIndex 5 = .ok (.iload_n 1, 1) := by decide +kernel
theorem dX0_requireIndex_6 : decode cX0_requireIndex 6 = .ok (.if_icmp .lt 13, 3) := by decide +kernel
theorem dX0_requireIndex_9 : decode cX0_requireIndex 9 = .ok (.new 156, 3) := by decide +kernel
theorem dX0_requireIndex_12 : decode cX0_requireIndex 12 = .ok (.dup, 1) := by decide +kernel
theorem dX0_requireIndex_13 : decode cX0_requireIndex 13 = .ok (.ldc 158, 2) := by decide +kernel
theorem dX0_requireIndex_15 : decode cX0_requireIndex 15 = .ok (.invokespecial 160, 3) := by decide +kernel
theorem dX0_requireIndex_18 : decode cX0_requireIndex 18 = .ok (.athrow, 1) := by decide +kernel
theorem dX0_requireIndex_19 : decode cX0_requireIndex 19 = .ok (.return_, 1) := by decide +kernel
theorem dX0_requireArgument_0 : decode cX0_requireArgument 0 = .ok (.iload_n 0, 1) := by decide +kernel
theorem dX0_requireArgument_1 : decode cX0_requireArgument 1 = .ok (.iload_n 1, 1) := by decide +kernel
theorem dX0_requireArgument_2 : decode cX0_requireArgument 2 = .ok (.if_icmp .lt 8, 3) := by decide +kernel
theorem dX0_requireArgument_5 : decode cX0_requireArgument 5 = .ok (.iload_n 0, 1) := by decide +kernel
theorem dX0_requireArgument_6 : decode cX0_requireArgument 6 = .ok (.iload_n 2, 1) := by decide +kernel
theorem dX0_requireArgument_7 : decode cX0_requireArgument 7 = .ok (.if_icmp .le 13, 3) := by decide +kernel
theorem dX0_requireArgument_10 : decode cX0_requireArgument 10 = .ok (.new 163, 3) := by decide +kernel
theorem dX0_requireArgument_13 : decode cX0_requireArgument 13 = .ok (.dup, 1) := by decide +kernel
theorem dX0_requireArgument_14 : decode cX0_requireArgument 14 = .ok (.ldc 165, 2) := by decide +kernel
theorem dX0_requireArgument_16 : decode cX0_requireArgument 16 = .ok (.invokespecial 167, 3) := by decide +kernel
theorem dX0_requireArgument_19 : decode cX0_requireArgument 19 = .ok (.athrow, 1) := by decide +kernel
theorem dX0_requireArgument_20 : decode cX0_requireArgument 20 = .ok (.return_, 1) := by decide +kernel
theorem dX0_requireState_0 : decode cX0_requireState 0 = .ok (.iload_n 0, 1) := by decide +kernel
theorem dX0_requireState_1 : decode cX0_requireState 1 = .ok (.ifCond .ne 13, 3) := by decide +kernel
theorem dX0_requireState_4 : decode cX0_requireState 4 = .ok (.new 168, 3) := by decide +kernel
theorem dX0_requireState_7 : decode cX0_requireState 7 = .ok (.dup, 1) := by decide +kernel
theorem dX0_requireState_8 : decode cX0_requireState 8 = .ok (.ldc 170, 2) := by decide +kernel
theorem dX0_requireState_10 : decode cX0_requireState 10 = .ok (.invokespecial 172, 3) := by decide +kernel
theorem dX0_requireState_13 : decode cX0_requireState 13 = .ok (.athrow, 1) := by decide +kernel
theorem dX0_requireState_14 : decode cX0_requireState 14 = .ok (.return_, 1) := by decide +kernel
theorem dX0_requireRate_0 : decode cX0_requireRate 0 = .ok (.iload_n 0, 1) := by decide +kernel
theorem dX0_requireRate_1 : decode cX0_requireRate 1 = .ok (.iconst 5, 1) := by decide +kernel
theorem dX0_requireRate_2 : decode cX0_requireRate 2 = .ok (.invokestatic 62, 3) := by decide +kernel
theorem dX0_requireRate_5 : decode cX0_requireRate 5 = .ok (.iload_n 1, 1) := by decide +kernel
theorem dX0_requireRate_6 : decode cX0_requireRate 6 = .ok (.getstatic 114, 3) := by decide +kernel
theorem dX0_requireRate_9 : decode cX0_requireRate 9 = .ok (.iload_n 0, 1) := by decide +kernel
theorem dX0_requireRate_10 : decode cX0_requireRate 10 = .ok (.iaload, 1) := by decide +kernel
theorem dX0_requireRate_11 : decode cX0_requireRate 11 = .ok (.getstatic 117, 3) := by decide +kernel
theorem dX0_requireRate_14 : decode cX0_requireRate 14 = .ok (.iload_n 0, 1) := by decide +kernel
theorem dX0_requireRate_15 : decode cX0_requireRate 15 = .ok (.iaload, 1) := by decide +kernel
theorem dX0_requireRate_16 : decode cX0_requireRate 16 = .ok (.invokestatic 46, 3) := by decide +kernel
theorem dX0_requireRate_19 : decode cX0_requireRate 19 = .ok (.return_, 1) := by decide +kernel
end
section
/-! 'new int[n][k]': a row of our own for multianewarray of two dimensions. The walk is followed by an invariant over the inner rows made so far. -/
section GMNA
variable {p : Program} {l : Launch} {e : Env} {R : Room} {s : State} {m : MethodId} {args : Array Value} {below : List Frame} {meth : Method} {c : Code} {H : Heap} {locs : List Loc} {cells slots : Nat} {Q : State → Prop}
/-- i inner rows of M zeros stand behind the outer row of N -/
def gmI (p : Program) (l : Launch) (e : Env) (R : Room) (s : State) (m : MethodId) (args : Array Value) (below : List Frame) (meth : Method) (c : Code) (locs : List Loc) (cells slots : Nat) (T : State) (cA comp : ClassId) (N M i : Nat) (U : State) : Prop :=
  ∃ L : List Loc, Stand p l e R s m args below meth c U L (cells + 1 + i) (slots + N + i * M) ∧ (∀ x ∈ L, x ∈ locs ∨ x.base = T.heap.size) ∧ U.vm = T.vm ∧ U.heap.size = T.heap.size + 1 + i ∧ U.slotsUsed = T.slotsUsed + N + i * M ∧
    U.heap[T.heap.size]? = some (arrV cA N (fun j => if j < i then .ref (T.heap.size + 1 + j) else .null)) ∧ (∀ j : Nat, j < i → U.heap[T.heap.size + 1 + j]? = some (arrV comp M (fun _ => .int 0))) ∧ (∀ q : Nat, q < T.heap.size → U.heap[q]? = T.heap[q]?)
theorem gmI_0 {T : State} {cA comp : ClassId} {N M : Nat} (X : Stand p l e R s m args below meth c T locs cells slots) : gmI p l e R s m args below meth c locs cells slots T cA comp N M 0 (T.pushCell { cls := cA, slots := Array.replicate N .null }) := by
  have X1 := X.pushed { cls := cA, slots := Array.replicate N .null }
  refine ⟨locs, by simpa using X1, fun x h => Or.inl h, rfl, by simp, by simp, ?_, fun j h => absurd h (Nat.not_lt_zero j), fun q h => State.heap_pushCell_of_lt _ _ h⟩
  rw [State.heap_pushCell_size]
  exact congrArg some (arrV_new cA N .null)
theorem gmI_1 {T U : State} {cA comp : ClassId} {N M i : Nat} (hi : i < N) (h : gmI p l e R s m args below meth c locs cells slots T cA comp N M i U) :
    gmI p l e R s m args below meth c locs cells slots T cA comp N M (i + 1) ((U.pushCell { cls := comp, slots := Array.replicate M (.int 0) }).setCell T.heap.size ((arrV cA N (fun j => if j < i then .ref (T.heap.size + 1 + j) else .null)).setSlot i (.ref U.heap.size))) := by
  obtain ⟨L, X, hL, hv, hz, hu, ho, hr, hk⟩ := h
  have hlt : T.heap.size < U.heap.size := by omega
  have ho' : (U.pushCell { cls := comp, slots := Array.replicate M (.int 0) }).heap[T.heap.size]? = some (arrV cA N (fun j => if j < i then .ref (T.heap.size + 1 + j) else .null)) := by
    rw [State.heap_pushCell_of_lt (h := hlt)]
    exact ho
  have X2 := (X.pushed { cls := comp, slots := Array.replicate M (.int 0) }).stored ho' i (.ref U.heap.size)
  have hsz : (Array.replicate M (Value.int 0)).size = M := Array.size_replicate
  refine ⟨L ++ [⟨T.heap.size, i⟩], ?_, ?_, hv, ?_, ?_, ?_, ?_, ?_⟩
  · have e1 : slots + N + (i + 1) * M = slots + N + i * M + (Array.replicate M (Value.int 0)).size := by rw [hsz, Nat.succ_mul]; omega
    rw [e1]
    exact X2
  · intro x hx
    rcases List.mem_append.mp hx with h | h
    · exact hL x h
    · rw [List.mem_singleton.mp h]
      exact Or.inr rfl
  · rw [size_setCell]
    show (U.heap.push _).size = _
    rw [Array.size_push, hz]
    omega
  · show U.slotsUsed + (Array.replicate M (Value.int 0)).size = _
    rw [hsz, hu, Nat.succ_mul]
    omega
  · rw [heapAt_setCell_self _ (Array.getElem?_eq_some_iff.mp ho').1, arrV_store]
    refine congrArg some (congrArg (arrV cA N) (funext fun j => ?_))
    by_cases e : j = i
    · subst e
      simp [updV, hz]
    · by_cases h : j < i
      · simp [updV, e, h, Nat.lt_succ_of_lt h]
      · simp [updV, e, h, show ¬ j < i + 1 by omega]
  · intro j hj
    rw [heapAt_setCell_ne _ (show T.heap.size ≠ T.heap.size + 1 + j by omega)]
    by_cases e : j = i
    · subst e
      rw [← hz, State.heap_pushCell_size]
      exact congrArg some (arrV_new comp M (.int 0))
    · rw [State.heap_pushCell_of_lt _ _ (show T.heap.size + 1 + j < U.heap.size by omega)]
      exact hr j (by omega)
  · intro q hq
    rw [heapAt_setCell_ne _ (show T.heap.size ≠ q by omega), State.heap_pushCell_of_lt _ _ (show q < U.heap.size by omega)]
    exact hk q hq
/-- the states that the loop goes through -/
def gmS (T : State) (cA comp : ClassId) (N M : Nat) : Nat → State
  | 0 => T.pushCell { cls := cA, slots := Array.replicate N .null }
  | i + 1 => ((gmS T cA comp N M i).pushCell { cls := comp, slots := Array.replicate M (.int 0) }).setCell T.heap.size ((arrV cA N (fun j => if j < i then .ref (T.heap.size + 1 + j) else .null)).setSlot i (.ref (gmS T cA comp N M i).heap.size))
theorem gmS_I {T : State} {cA comp : ClassId} {N M : Nat} (X : Stand p l e R s m args below meth c T locs cells slots) : ∀ i : Nat, i ≤ N → gmI p l e R s m args below meth c locs cells slots T cA comp N M i (gmS T cA comp N M i)
  | 0, _ => gmI_0 X
  | i + 1, h => gmI_1 h (gmS_I X i (Nat.le_of_succ_le h))
end GMNA
section GMNW
variable {p : Program} {l : Launch} {R : Room} {s : State} {m : MethodId} {args : Array Value} {below : List Frame} {meth : Method} {c : Code} {locs : List Loc} {cells slots : Nat}
variable {E : CtlPost} {e : Env} {d : Bool} {acts : List Action}
/-- the model's making of two dimensions, from a state T with the frame g on top -/
theorem gm_make {T : State} {g : JFrame} {cA comp c0 : ClassId} {k kc : Class} {n w : Int32} (X : Stand p l e R s m args below meth c T locs cells slots) (hk : T.vm.classes[cA]? = some k) (hkind : k.kind = .array comp (.array .int)) (hkc : T.vm.classes[comp]? = some kc) (hkindc : kc.kind = .array c0 .int) (hn : ¬ n < 0) (hw : ¬ w < 0)
    (hb1 : n.toNatClampNeg * 4 ≤ 536870912) (hb2 : w.toNatClampNeg * 4 ≤ 536870912) (hc : T.heap.size + 1 + n.toNatClampNeg ≤ e.platform.maxCells) (hs : T.slotsUsed + n.toNatClampNeg + n.toNatClampNeg * w.toNatClampNeg ≤ e.platform.maxSlots)
    {Q : Addr → Pre} (hq : ∀ (d' : Bool) (acts' : List Action), Q T.heap.size d' acts' ((gmS T cA comp n.toNatClampNeg w.toNatClampNeg n.toNatClampNeg).setTop g)) :
    wp (Jvm.Op.multianewarray.make cA [n, w]) Q E e d acts (T.setTop g) := by
  have hl1 : ¬ n.toNatClampNeg > e.platform.arrayLengthLimit := by rw [Launch.admits_arrayLengthLimit X.admits]; omega
  have hh1 : ¬ n.toNatClampNeg * componentBytes (.array .int) > e.platform.maxHeapBytes := by
    rw [Launch.admits_maxHeapBytes X.admits]; show ¬ n.toNatClampNeg * 4 > 536870912; omega
  have hl2 : ¬ w.toNatClampNeg > e.platform.arrayLengthLimit := by rw [Launch.admits_arrayLengthLimit X.admits]; omega
  have hh2 : ¬ w.toNatClampNeg * componentBytes .int > e.platform.maxHeapBytes := by
    rw [Launch.admits_maxHeapBytes X.admits]; show ¬ w.toNatClampNeg * 4 > 536870912; omega
  have hfind : ([w].find? (· < 0)) = none := by simp [hw]
  rw [Jvm.Op.multianewarray.make]
  simp only [wp_bind', W.ite, hn, if_false, wp_pure', W.theClass, State.vm_setTop, hk, hkind, Option.some.injEq, exists_eq_left']
  refine W.newArray_of (k := k) hk hkind hl1 hh1 (by show T.heap.size < _; omega) (by show T.slotsUsed + _ ≤ _; omega) rfl (fun acts0 => ?_)
  simp only [hfind]
  rw [ite_self, wp_bind', Std.Legacy.Range.forIn_eq_forIn_range']
  have hsz : ([:n.toNatClampNeg] : Std.Legacy.Range).size = n.toNatClampNeg := by simp [Std.Legacy.Range.size]
  rw [hsz]
  show wp (forIn (List.range' 0 n.toNatClampNeg 1) PUnit.unit _) _ E e _ _ _
  refine wp_forIn_inv (fun todo V => ∃ i : Nat, i ≤ n.toNatClampNeg ∧ todo = List.range' i (n.toNatClampNeg - i) ∧ V = (gmS T cA comp n.toNatClampNeg w.toNatClampNeg i).setTop g) _ _ ⟨0, Nat.zero_le _, rfl, rfl⟩ ?_ ?_
  · rintro x todo V d' acts' Q' ⟨i, hi, hl, rfl⟩ hnext
    have hlt : i < n.toNatClampNeg := by
      rcases Nat.lt_or_ge i n.toNatClampNeg with h | h
      · exact h
      · rw [show n.toNatClampNeg - i = 0 by omega] at hl
        cases hl
    rw [show n.toNatClampNeg - i = (n.toNatClampNeg - (i + 1)) + 1 by omega, List.range'_succ] at hl
    obtain ⟨rfl, hrest⟩ := List.cons.inj hl
    obtain ⟨L, XU, hL, hv, hz, hu, ho, hr, hkp⟩ := gmS_I (cA := cA) (comp := comp) (M := w.toNatClampNeg) X x hi
    have hmul : x * w.toNatClampNeg + w.toNatClampNeg ≤ n.toNatClampNeg * w.toNatClampNeg := by
      have := Nat.mul_le_mul_right w.toNatClampNeg (show x + 1 ≤ n.toNatClampNeg from hlt)
      rw [Nat.succ_mul] at this
      exact this
    have hlt0 : T.heap.size < (gmS T cA comp n.toNatClampNeg w.toNatClampNeg x).heap.size := by omega
    simp only [wp_bind']
    rw [Jvm.Op.multianewarray.make]
    simp only [wp_bind', W.ite, hw, if_false, wp_pure', W.theClass, State.vm_setTop, hv, hkc, hkindc, Option.some.injEq, exists_eq_left']
    refine W.newArray_of (k := kc) (by rw [State.vm_setTop, hv]; exact hkc) hkindc hl2 hh2 (by show (gmS T cA comp n.toNatClampNeg w.toNatClampNeg x).heap.size < _; omega) (by show (gmS T cA comp n.toNatClampNeg w.toNatClampNeg x).slotsUsed + _ ≤ _; omega) rfl (fun acts1 => ?_)
    simp only [wp_bind', W.writeLoc, wp_pure']
    refine ⟨arrV cA n.toNatClampNeg (fun j => if j < x then .ref (T.heap.size + 1 + j) else .null), ?_, fun h => (by cases h), by rw [arrV_size]; exact hlt, ?_, hnext _ _ _ ⟨x + 1, hlt, hrest, ?_⟩⟩
    · show ((gmS T cA comp n.toNatClampNeg w.toNatClampNeg x).pushCell _).heap[T.heap.size]? = _
      rw [State.heap_pushCell_of_lt (h := hlt0)]
      exact ho
    · show State.fitsSlot _ cA .none x _ = true
      simp [State.fitsSlot, State.slotType?, hv, hk, hkind, fits]
    · rfl
  · rintro V d' acts' ⟨i, hi, hl, rfl⟩
    have hiN : i = n.toNatClampNeg := by
      rcases Nat.lt_or_ge i n.toNatClampNeg with h | h
      · rw [show n.toNatClampNeg - i = (n.toNatClampNeg - (i + 1)) + 1 by omega, List.range'_succ] at hl
        cases hl
      · omega
    subst hiN
    simp only [wp_pure']
    exact hq _ _
end GMNW
section GMNR
variable {p : Program} {l : Launch} {e : Env} {R : Room} {s : State} {m : MethodId} {args : Array Value} {below : List Frame} {meth : Method} {c : Code} {H : Heap} {locs : List Loc} {cells slots : Nat} {Q : State → Prop}
variable {cc : ByteArray} {pc : Nat} {ls : Array Slot} {rest : List Value}
theorem W_mna (hexec : p.tables.exec = Jvm.exec) (hb : c.code = cc) {own : String} {index : Nat} (hown : s.vm.findClass own = some m.cls) (hclink : (Cond.classLink own index "[[I").before args s = true) {cA comp c0 : ClassId} {k kc : Class} (hA : s.vm.findClass "[[I" = some cA) (hk : s.vm.classes[cA]? = some k) (hkind : k.kind = .array comp (.array .int)) (hkc : s.vm.classes[comp]? = some kc) (hkindc : kc.kind = .array c0 .int)
    {n w : Int32} {N M : Nat} (hn : ¬ n < 0) (hw : ¬ w < 0) (hN : n.toNatClampNeg = N) (hM : w.toNatClampNeg = M) (hb1 : N * 4 ≤ 536870912) (hb2 : M * 4 ≤ 536870912) (hcells : cells + (1 + N) ≤ R.cells) (hslots : slots + (N + N * M) ≤ R.slots) (hdg : decode cc pc = .ok (.multianewarray index 2, 4))
    (kk : ∀ (H1 : Heap) (L : List Loc), (∀ x ∈ L, x ∈ locs ∨ x.base = H.size) → H1.size = H.size + 1 + N → H1[H.size]? = some (arrV cA N (fun j => if j < N then .ref (H.size + 1 + j) else .null)) → (∀ j : Nat, j < N → H1[H.size + 1 + j]? = some (arrV comp M (fun _ => .int 0))) → (∀ q : Nat, q < H.size → H1[q]? = H[q]?) →
      W p l e R s m args below meth c H1 L (cells + 1 + N) (slots + N + N * M) Q (F0 m (pc + 4) ls (.ref H.size :: rest))) : W p l e R s m args below meth c H locs cells slots Q (F0 m pc ls (.int w :: .int n :: rest)) := by
  subst hN
  subst hM
  intro T hT X
  subst hT
  subst hb
  have hpl : e.platform.magicAccessors = ({} : Platform).magicAccessors := by rw [X.admits.platform]
  obtain ⟨cB, hfc, hcl⟩ := Cond.classLink_spec hown hclink e.platform hpl
  cases hA.symm.trans hfc
  obtain ⟨hg₁, hwarm₁, hready₁⟩ := State.classEntry (e := e) X.warmed hcl
  generalize T.vm.noted m.cls index (.cls cA) = vm₁ at hg₁ hwarm₁ hready₁
  have hal : s.vm.Alike vm₁ := hwarm₁.alike
  obtain ⟨k₁, hk₁, he₁⟩ := hal.2.2 _ _ hk
  obtain ⟨kc₁, hkc₁, hec₁⟩ := hal.2.2 _ _ hkc
  have X₁ := X.noted hwarm₁
  obtain ⟨hr1, hr2⟩ := X.roomAbove hcells hslots
  obtain ⟨L, XU, hL, hv, hz, hu, ho, hr, hkp⟩ := gmS_I (cA := cA) (comp := comp) (N := n.toNatClampNeg) (M := w.toNatClampNeg) X₁ n.toNatClampNeg (Nat.le_refl _)
  obtain ⟨t, a1, b1⟩ := kk _ L hL hz ho hr hkp (gmS (T.setVm vm₁) cA comp n.toNatClampNeg w.toNatClampNeg n.toNatClampNeg) rfl XU
  refine ⟨t, ?_, b1⟩
  jvm_step X.here [hexec, hdg]
  simp only [Jvm.Op.multianewarray.sem, wp_bind', W.resolveClassAt_links (State.method?_setTop (F0 m pc ls (.int w :: .int n :: rest)) X.here.top) hg₁]
  rw [W.popN, if_neg (by decide)]
  refine ⟨F0 m pc ls (.int w :: .int n :: rest), State.topJava?_setTop' (s := T.setVm vm₁) _ X.here.top, [.int n, .int w], rest, rfl, rfl, ?_⟩
  simp only [List.mapM_cons, List.mapM_nil, wp_bind', wp_pure']
  have eS : ((T.setTop (F0 m pc ls (.int w :: .int n :: rest))).setVm vm₁).setTop (F0 m pc ls rest) = (T.setVm vm₁).setTop (F0 m pc ls rest) := by
    show ((T.setVm vm₁).setTop _).setTop _ = _
    rw [State.setTop_setTop]
  show wp _ _ _ _ _ _ (((T.setTop (F0 m pc ls (.int w :: .int n :: rest))).setVm vm₁).setTop (F0 m pc ls rest))
  rw [eS]
  refine gm_make (T := T.setVm vm₁) (g := F0 m pc ls rest) X₁ hk₁ (by rw [he₁]; exact hkind) hkc₁ (by rw [hec₁]; exact hkindc) hn hw hb1 hb2 (by show T.heap.size + 1 + _ ≤ _; omega) (by show T.slotsUsed + _ + _ ≤ _; omega) (fun d' acts' => ?_)
  simp only [wp_bind', W.mark, W.pushRef, State.topJava?_setTop' _ XU.here.top, Option.some.injEq, exists_eq_left', State.setTop_setTop]
  intro acts
  simp [jvm, XU.here.top]
  exact a1
end GMNR
end
section
/-! THE GROUND that all contracts share: one list of words for all methods; a contract over any world; calls with a frame. -/
def rw_ (y : MethodName) (c : ByteArray) (n : Nat) (r : Option FieldType) : List Cond := Cond.code y c n r :: wsL_law
theorem rw_all : wsL_law.all goodWord = true := by decide +kernel
theorem rw_in {ws : List Cond} (h : ∀ w ∈ ws, w ∈ wsL_law) : GoodIn wsL_law ws := fun w hw => ⟨h w hw, good_of_word (List.all_eq_true.mp rw_all w (h w hw))⟩
theorem rw_c {y : MethodName} {c : ByteArray} {n : Nat} {r : Option FieldType} (h5 : Cond.code y c n r ∈ wsL_law) : ∀ w ∈ rw_ y c n r, w ∈ wsL_law := fun w hw => (List.mem_cons.mp hw).elim (fun e => e ▸ h5) id
theorem rw_V {own C : String} {idx : Nat} {y : MethodName} {c : ByteArray} {n : Nat} {r : Option FieldType} (h1 : Cond.methodLink own idx y ∈ wsL_law) (h2 : Cond.instanceMethod y ∈ wsL_law) (h3 : Cond.selects C y y ∈ wsL_law) (h4 : Cond.initialized C ∈ wsL_law) (h5 : Cond.code y c n r ∈ wsL_law) : GoodIn wsL_law (wsV own idx C y (rw_ y c n r)) := rw_in (fun w hw => by
  rcases List.mem_append.mp hw with h | h
  · rcases List.mem_cons.mp h with h | h
    · exact h ▸ h1
    · rcases List.mem_cons.mp h with h | h
      · exact h ▸ h2
      · rcases List.mem_cons.mp h with h | h
        · exact h ▸ h3
        · exact (List.mem_singleton.mp h) ▸ h4
  · exact rw_c h5 w h)
theorem rw_S {own : String} {idx : Nat} {y : MethodName} {c : ByteArray} {n : Nat} {r : Option FieldType} (h1 : Cond.methodLink own idx y ∈ wsL_law) (h2 : Cond.static y ∈ wsL_law) (h4 : Cond.initialized y.cls ∈ wsL_law) (h5 : Cond.code y c n r ∈ wsL_law) : GoodIn wsL_law (va_wsS own idx y (rw_ y c n r)) := rw_in (fun w hw => by
  rcases List.mem_append.mp hw with h | h
  · rcases List.mem_cons.mp h with h | h
    · exact h ▸ h1
    · rcases List.mem_cons.mp h with h | h
      · exact h ▸ h2
      · exact (List.mem_singleton.mp h) ▸ h4
  · exact rw_c h5 w h)
/-! apartness speaks of addresses alone -/
theorem rd_map {A : Nat → Prop} {ws ws' : va_W} (h : va_D A ws) (e : ws.map Prod.fst = ws'.map Prod.fst) : va_D A ws' := by
  have key : ∀ (k : Nat) (q : Nat × va_E), ws'[k]? = some q → ∃ z, ws[k]? = some z ∧ z.1 = q.1 := by
    intro k q hk
    have h1 : (ws.map Prod.fst)[k]? = some q.1 := by rw [e, List.getElem?_map, hk]; rfl
    rw [List.getElem?_map] at h1
    cases hz : ws[k]? with
    | none => rw [hz] at h1; cases h1
    | some z => rw [hz] at h1; exact ⟨z, rfl, Option.some.inj h1⟩
  refine ⟨fun i j x y hi hj hxy => ?_, fun k q hk => ?_⟩
  · obtain ⟨x0, h1, h2⟩ := key i x hi
    obtain ⟨y0, h3, h4⟩ := key j y hj
    exact h.1 i j x0 y0 h1 h3 (h2.trans (hxy.trans h4.symm))
  · obtain ⟨z, h1, h2⟩ := key k q hk
    rw [← h2]
    exact h.2 k z h1
theorem rd_right {A : Nat → Prop} {w1 w2 : va_W} (h : va_D A (w1 ++ w2)) : va_D A w2 := by
  have at' : ∀ (i : Nat) (p : Nat × va_E), w2[i]? = some p → (w1 ++ w2)[w1.length + i]? = some p := fun i p hp => by
    rw [List.getElem?_append_right (Nat.le_add_right _ _), Nat.add_sub_cancel_left]
    exact hp
  exact ⟨fun i j p q hp hq e => by have := h.1 _ _ p q (at' i p hp) (at' j q hq) e; omega, fun k q hk => h.2 _ q (at' k q hk)⟩
theorem rd_left {A : Nat → Prop} {w1 w2 : va_W} (h : va_D A (w1 ++ w2)) : va_D A w1 := by
  have at' : ∀ (i : Nat) (p : Nat × va_E), w1[i]? = some p → (w1 ++ w2)[i]? = some p := fun i p hp => by
    rw [List.getElem?_append_left (List.getElem?_eq_some_iff.mp hp).1]
    exact hp
  exact ⟨fun i j p q hp hq e => h.1 _ _ p q (at' i p hp) (at' j q hq) e, fun k q hk => h.2 _ q (at' k q hk)⟩
theorem rd_sep {A : Nat → Prop} {w1 w2 : va_W} (h : va_D A (w1 ++ w2)) : ∀ (i j : Nat) (p q : Nat × va_E), w1[i]? = some p → w2[j]? = some q → p.1 ≠ q.1 := by
  intro i j p q hp hq e
  have hl := (List.getElem?_eq_some_iff.mp hp).1
  have := h.1 i (w1.length + j) p q (by rw [List.getElem?_append_left hl]; exact hp) (by rw [List.getElem?_append_right (Nat.le_add_right _ _), Nat.add_sub_cancel_left]; exact hq) e
  omega
theorem rd_swap {A : Nat → Prop} {w1 w2 : va_W} (h : va_D A (w1 ++ w2)) : va_D A (w2 ++ w1) := va_D.app (rd_right h) (rd_left h) (fun i j p q hp hq e => rd_sep h j i q p hq hp e.symm)
theorem rd_AA {A : Nat → Prop} {w : va_W} {sz z0 : Nat} (hD : va_D A w) (hA : ∀ q, z0 ≤ q → A q) (h : z0 ≤ sz) : ∀ q, va_A w sz q → A q := by
  intro q hq
  rcases hq with ⟨k, e, hk⟩ | hq
  · exact hD.2 k (q, e) hk
  · exact hA q (Nat.le_trans h hq)
/-- behind a call: what isn't the callee's -/
theorem rd_frame {A : Nat → Prop} {D : va_G} {cl : List vw_C} {wr wc w1 : va_W} {H H1 : Heap} (hPr : va_P D cl wr H) (hD : va_D A (wr ++ wc)) (hF : ∀ q, va_A wc H.size q → A q) (hk : ∀ q : Nat, q < H.size → ¬ va_A wc H.size q → H1[q]? = H[q]?) (hD1 : va_D (va_A wc H.size) w1) : va_P D cl wr H1 ∧ va_D A (wr ++ w1) := by
  have apart : ∀ (k : Nat) (q : Nat × va_E), wr[k]? = some q → q.1 < H.size ∧ ¬ va_A wc H.size q.1 := by
    intro k q hq
    have hl := (hPr k q hq).lt
    refine ⟨hl, fun h => ?_⟩
    rcases h with ⟨k2, e, h⟩ | h
    · exact rd_sep hD k k2 q (q.1, e) hq h rfl
    · omega
  refine ⟨fun k q hq => (hPr k q hq).kept (hk q.1 (apart k q hq).1 (apart k q hq).2), va_D.app (rd_left hD) (hD1.weaken (fun k q _ h => hF q.1 h)) (fun i j x y hx hy hxy => ?_)⟩
  exact (apart i x hx).2 (by rw [hxy]; exact hD1.2 j y hy)
theorem rd_nil {D : va_G} {cl : List vw_C} {H : Heap} : va_P D cl [] H := fun k q h => by simp at h
/-! what stands beside the worlds: the static arrays, the texts of the throws, two statics of Throwable -/
def rt_RX0_LEAST_RATE : Nat → Int32 := fun k => match k with
  | 0 => 1
  | 1 => 1
  | 2 => 100
  | 3 => 0
  | _ => 1
def rt_RX0_MOST_RATE : Nat → Int32 := fun k => match k with
  | 0 => 40
  | 1 => 99
  | 2 => 900
  | 3 => 100
  | _ => 9
def rt_RX0_COIN_WORTH : Nat → Int32 := fun k => match k with
  | 0 => 120
  | 1 => 48
  | _ => 4
/-- the tables know the class of arrays of arrays of ints -/
def gAA (U : State) : Prop := ∃ (cAA comp : ClassId) (kA : Class), U.vm.findClass "[[I" = some cAA ∧ U.vm.classes[cAA]? = some kA ∧ kA.kind = .array comp (.array .int) ∧ U.vm.findClass "[I" = some comp
theorem gAA.moved {u U : State} (hvm : u.vm.Alike U.vm) (h : gAA u) : gAA U := by
  obtain ⟨cAA, comp, kA, h1, h2, h3, h4⟩ := h
  obtain ⟨k', hk', he⟩ := hvm.2.2 _ _ h2
  exact ⟨cAA, comp, k', by rw [hvm.findClass]; exact h1, hk', by rw [he]; exact h3, by rw [hvm.findClass]; exact h4⟩
/-- the script: at t 9, t 10 long, its cells behind -/
def gxs (t : Nat → Nat) (j : Nat) : Int32 := Int32.ofNat (t (j + 11))

def gZ (t : Nat → Nat) (A : Nat → Prop) (U : State) (H : Heap) : Prop := va_Z RX0 "LEAST_RATE" "[I" (.ref (t 0)) A U H ∧ va_T .int (t 0) 5 (fun j => .int (rt_RX0_LEAST_RATE j)) A U H ∧ va_Z RX0 "MOST_RATE" "[I" (.ref (t 1)) A U H ∧ va_T .int (t 1) 5 (fun j => .int (rt_RX0_MOST_RATE j)) A U H ∧ va_Z RX0 "COIN_WORTH" "[I" (.ref (t 2)) A U H ∧ va_T .int (t 2) 3 (fun j => .int (rt_RX0_COIN_WORTH j)) A U H ∧ va_Nw (.castable "[I" "java/lang/Cloneable") U ∧ va_Nw (.methodLinkNest RL 23 yX1_init RL) U ∧ va_Nw (.methodLinkNest RL 77 yX2_init RL) U ∧ va_AO RX1 U ∧ gAA U ∧ va_T .int (t 9) (t 10) (fun j => .int (gxs t j)) A U H
theorem gZ.go {t : Nat → Nat} {A B : Nat → Prop} {s U : State} {H : Heap} {locs : List Loc} (h : gZ t A s s.heap) (hS : va_S A s.heap H locs) (hAB : ∀ q, B q → A q) (hW : s.WarmedH U.vm) : gZ t B U H := by
  obtain ⟨h0, h1, h2, h3, h4, h5, h6, h7, h8, h9, h10, h11⟩ := h
  exact ⟨va_Z.moved hW.alike ((h0.kept hS.2.1).narrow hAB), va_T.moved hW.alike ((h1.kept hS.2.1).narrow hAB), va_Z.moved hW.alike ((h2.kept hS.2.1).narrow hAB), va_T.moved hW.alike ((h3.kept hS.2.1).narrow hAB), va_Z.moved hW.alike ((h4.kept hS.2.1).narrow hAB), va_T.moved hW.alike ((h5.kept hS.2.1).narrow hAB), va_Nw.warmC hW h6, va_Nw.warmM hW h7, va_Nw.warmM hW h8, va_AO.moved hW.alike h9, gAA.moved hW.alike h10, va_T.moved hW.alike ((h11.kept hS.2.1).narrow hAB)⟩
theorem gZ.blind {t : Nat → Nat} {A : Nat → Prop} {U V : State} {H : Heap} (h : gZ t A U H) (hv : V.vm = U.vm) : gZ t A V H := by
  obtain ⟨h0, h1, h2, h3, h4, h5, h6, h7, h8, h9, h10, h11⟩ := h
  have ha : U.vm.Alike V.vm := by rw [hv]; exact Vm.Alike.refl U.vm
  exact ⟨va_Z.moved ha h0, va_T.moved ha h1, va_Z.moved ha h2, va_T.moved ha h3, va_Z.moved ha h4, va_T.moved ha h5, va_Nw.same rfl hv.symm h6, va_Nw.same rfl hv.symm h7, va_Nw.same rfl hv.symm h8, va_AO.moved ha h9, gAA.moved ha h10, va_T.moved ha h11⟩
/-- a contract's start: the world ws in a heap of size sz -/
def gP (D : va_G) (ty : List (ClassId × FieldType)) (t : Nat → Nat) (ws : va_W) (sz : Nat) (U : State) : Prop := U.heap.size = sz ∧ va_P D vwCl ws U.heap ∧ va_K D vwCl ty U ∧ va_D (fun _ => True) ws ∧ gZ t (va_A ws sz) U U.heap
def gQ (D : va_G) (A : Nat → Prop) (ws : va_W) (U : State) : Prop := va_P D vwCl ws U.heap ∧ va_D A ws
theorem gP_blind {D : va_G} {ty : List (ClassId × FieldType)} {t : Nat → Nat} {ws : va_W} {sz : Nat} {av : List Value} : FrameBlind (va_Pc av (gP D ty t ws sz)) := fun a U g mk q => by
  obtain ⟨q0, q1, q2, q3, q4, q5⟩ := q
  exact ⟨q0, q1, q2, va_K.moved (u := U) (U := U.calling g mk a) (Vm.Alike.refl U.vm) q3, q4, gZ.blind q5 rfl⟩
/-- what stays the same through a method's body -/
def gC (p : Program) (s : State) (m : MethodId) (args : Array Value) (meth : Method) (c : Code) (cc : ByteArray) (nL : Nat) (own : String) (D : va_G) (ty : List (ClassId × FieldType)) (t : Nat → Nat) (A : Nat → Prop) : Prop :=
  p.tables.exec = Jvm.exec ∧ c.code = cc ∧ c.maxLocals = nL ∧ s.vm.findClass own = some m.cls ∧ (∀ w ∈ wsL_law, w.before args s = true) ∧ va_K D vwCl ty s ∧ (∀ q, s.heap.size ≤ q → A q) ∧ gZ t A s s.heap ∧ meth.locks = false
/-- contracts: an int, a long, nothing; what is said of the answer and of the world behind it -/
def gMi (l : Launch) (y : MethodName) (ws : List Cond) (rm : Room) (av : List Value) (D : va_G) (ty : List (ClassId × FieldType)) (t : Nat → Nat) (w : va_W) (sz : Nat) (post : Int32 → va_W → Prop) : Prop := Met l y ws rm (va_Pc av (gP D ty t w sz)) (va_Qi post (fun w' U => gQ D (va_A w sz) w' U) (va_A w sz)) rm.cells rm.slots (va_A w sz)
def gMl (l : Launch) (y : MethodName) (ws : List Cond) (rm : Room) (av : List Value) (D : va_G) (ty : List (ClassId × FieldType)) (t : Nat → Nat) (w : va_W) (sz : Nat) (post : Int64 → va_W → Prop) : Prop := Met l y ws rm (va_Pc av (gP D ty t w sz)) (va_Ql post (fun w' U => gQ D (va_A w sz) w' U) (va_A w sz)) rm.cells rm.slots (va_A w sz)
def gMv (l : Launch) (y : MethodName) (ws : List Cond) (rm : Room) (av : List Value) (D : va_G) (ty : List (ClassId × FieldType)) (t : Nat → Nat) (w : va_W) (sz : Nat) (post : va_W → Prop) : Prop := Met l y ws rm (va_Pc av (gP D ty t w sz)) (va_Qv post (fun w' U => gQ D (va_A w sz) w' U) (va_A w sz)) rm.cells rm.slots (va_A w sz)
def gMr (l : Launch) (y : MethodName) (ws : List Cond) (rm : Room) (av : List Value) (D : va_G) (ty : List (ClassId × FieldType)) (t : Nat → Nat) (w : va_W) (sz : Nat) (post : Nat × va_W → Prop) : Prop := Met l y ws rm (va_Pc av (gP D ty t w sz)) (va_Qr (S := Nat × va_W) post (fun u a U => u.1 = a ∧ gQ D (va_A w sz) u.2 U) (va_A w sz)) rm.cells rm.slots (va_A w sz)
section GOF
variable {l : Launch} {y : MethodName} {cc : ByteArray} {nL : Nat} {rm : Room} {av : List Value} {D : va_G} {ty : List (ClassId × FieldType)} {t : Nat → Nat} {w : va_W} {sz : Nat}
/-- the body of a contract, whatever it says of its end -/
theorem g_of {rt : Option FieldType} {Q : (Nat → Prop) → Array Value → State → Outcome → State → Prop} (hy : plainName y.cls = true) (hav : (lg_sl av).length ≤ nL)
    (body : ∀ (p : Program) (e : Env) (s : State) (m : MethodId) (args : Array Value) (below : List Frame) (meth : Method) (c : Code) (A : Nat → Prop) (ls : Array Slot) (H : Heap), gC p s m args meth c cc nL y.cls D ty t A → meth.sig.returnType = rt → meth.name = y.name → va_S A s.heap H [] → va_P D vwCl w H → va_D A w → lv_has ls nL (lv_args 0 av) →
      W p l e rm s m args below meth c H [] 0 0 (MQ below (Q A) args s rm.cells rm.slots A) (F0 m 0 ls [])) :
    Met l y (rw_ y cc nL rt) rm (va_Pc av (gP D ty t w sz)) (Q (va_A w sz)) rm.cells rm.slots (va_A w sz) := by
  refine Met.ofW (cc := cc) (maxL := nL) (ret := rt) hy rfl ?_
  intro p e s m args below meth c s₁ B hml hv
  obtain ⟨rfl, hsz, hP, hK, hD, hZ⟩ := hv
  have hts := atoms_spec (ws := rw_ y cc nL rt) B.pre
  subst hsz
  have hl := lv_entry av hav
  rw [lg_entry_eq]
  exact body p e s m _ below meth c (va_A w s.heap.size) _ s.heap ⟨B.exec, B.bytes, hml, findClass_of_methodNamed B.named, fun w h => hts w (List.mem_cons_of_mem _ h), hK, fun q h => Or.inr h, hZ, B.notSynchronized⟩ B.returns (name_of_methodNamed B.named B.method).1 va_S.rf hP hD.self hl
end GOF
section GEND
variable {p : Program} {l : Launch} {e : Env} {R : Room} {s : State} {m : MethodId} {args : Array Value} {below : List Frame} {meth : Method} {c : Code} {H : Heap} {locs : List Loc} {cells slots : Nat}
variable {cc : ByteArray} {nL pc : Nat} {ls : Array Slot} {own : String} {D : va_G} {ty : List (ClassId × FieldType)} {t : Nat → Nat} {A : Nat → Prop} {w' : va_W}
theorem g_iret {post : Int32 → va_W → Prop} {v : Int32} (C : gC p s m args meth c cc nL own D ty t A) (hr : meth.sig.returnType = some .int) (hP : va_P D vwCl w' H) (hD : va_D A w') (hS : va_S A s.heap H locs) (hdg : decode cc pc = .ok (.ireturn, 1)) (hpost : post v w') :
    W p l e R s m args below meth c H locs cells slots (MQ below (va_Qi post (fun w' U => gQ D A w' U) A) args s cells slots A) (F0 m pc ls [.int v]) :=
  W.iret C.1 C.2.1 hr (fun t ht hW => ⟨⟨v, w', rfl, hpost, by rw [ht]; exact hP, hD⟩, hS.F ht⟩) hS.2.2 hdg C.2.2.2.2.2.2.2.2
theorem g_zret {post : Int32 → va_W → Prop} {v : Int32} (C : gC p s m args meth c cc nL own D ty t A) (hr : meth.sig.returnType = some .boolean) (hn : narrow .boolean (.int v) = .int v) (hP : va_P D vwCl w' H) (hD : va_D A w') (hS : va_S A s.heap H locs) (hdg : decode cc pc = .ok (.ireturn, 1)) (hpost : post v w') :
    W p l e R s m args below meth c H locs cells slots (MQ below (va_Qi post (fun w' U => gQ D A w' U) A) args s cells slots A) (F0 m pc ls [.int v]) :=
  W.zret C.1 C.2.1 hr hn (fun t ht hW => ⟨⟨v, w', rfl, hpost, by rw [ht]; exact hP, hD⟩, hS.F ht⟩) hS.2.2 hdg C.2.2.2.2.2.2.2.2
theorem g_lret {post : Int64 → va_W → Prop} {v : Int64} (C : gC p s m args meth c cc nL own D ty t A) (hr : meth.sig.returnType = some .long) (hP : va_P D vwCl w' H) (hD : va_D A w') (hS : va_S A s.heap H locs) (hdg : decode cc pc = .ok (.lreturn, 1)) (hpost : post v w') :
    W p l e R s m args below meth c H locs cells slots (MQ below (va_Ql post (fun w' U => gQ D A w' U) A) args s cells slots A) (F0 m pc ls [.long v]) :=
  W.lret C.1 C.2.1 hr (fun t ht hW => ⟨⟨v, w', rfl, hpost, by rw [ht]; exact hP, hD⟩, hS.F ht⟩) hS.2.2 hdg C.2.2.2.2.2.2.2.2
theorem g_vret {post : va_W → Prop} (C : gC p s m args meth c cc nL own D ty t A) (hr : meth.sig.returnType = none) (hP : va_P D vwCl w' H) (hD : va_D A w') (hS : va_S A s.heap H locs) (hdg : decode cc pc = .ok (.return_, 1)) (hpost : post w') :
    W p l e R s m args below meth c H locs cells slots (MQ below (va_Qv post (fun w' U => gQ D A w' U) A) args s cells slots A) (F0 m pc ls []) :=
  W.vret C.1 C.2.1 hr (fun t ht hW => ⟨⟨w', rfl, hpost, by rw [ht]; exact hP, hD⟩, hS.F ht⟩) hS.2.2 hdg C.2.2.2.2.2.2.2.2
theorem g_aret {post : Nat × va_W → Prop} {a : Nat} {rt : FieldType} (C : gC p s m args meth c cc nL own D ty t A) (hr : meth.sig.returnType = some (.array rt)) (hP : va_P D vwCl w' H) (hD : va_D A w') (hS : va_S A s.heap H locs) (hdg : decode cc pc = .ok (.areturn, 1)) (hpost : post (a, w')) :
    W p l e R s m args below meth c H locs cells slots (MQ below (va_Qr (S := Nat × va_W) post (fun u a U => u.1 = a ∧ gQ D A u.2 U) A) args s cells slots A) (F0 m pc ls [.ref a]) :=
  W.aret C.1 C.2.1 hr (Or.inr ⟨_, rfl⟩) (Or.inr ⟨_, rfl⟩) (fun t ht hW => ⟨⟨(a, w'), a, rfl, hpost, rfl, by rw [ht]; exact hP, hD⟩, hS.F ht⟩) hS.2.2 hdg C.2.2.2.2.2.2.2.2
/-- the top of the stack by another name -/
theorem g_top {x y : Int32} {rest : List Value} {Q : State → Prop} (h : x = y) (k : W p l e R s m args below meth c H locs cells slots Q (F0 m pc ls (.int y :: rest))) : W p l e R s m args below meth c H locs cells slots Q (F0 m pc ls (.int x :: rest)) := h ▸ k
end GEND
section GCALL
variable {p : Program} {l : Launch} {e : Env} {R : Room} {s : State} {m : MethodId} {args : Array Value} {below : List Frame} {meth : Method} {c : Code} {H : Heap} {locs : List Loc} {cells slots : Nat} {Q : State → Prop}
variable {cc : ByteArray} {nL pc : Nat} {ls : Array Slot} {own : String} {D : va_G} {ty ty2 : List (ClassId × FieldType)} {t : Nat → Nat} {A : Nat → Prop} {wr wc : va_W}
variable {y : MethodName} {bytes : ByteArray} {maxL n idx : Nat} {ret : Option FieldType} {rm : Room} {b : Nat} {As rest st0 : List Value} {Qa : Array Value → State → Outcome → State → Prop}
theorem g_pre (C : gC p s m args meth c cc nL own D ty t A) (hK2 : va_K D vwCl ty2 s) (hPc : va_P D vwCl wc H) (hD : va_D A (wr ++ wc)) (hS : va_S A s.heap H locs) {av : List Value} (U : State) (hU : U.heap = H) (hW : s.WarmedH U.vm) : va_Pc av (gP D ty2 t wc H.size) av.toArray U :=
  ⟨rfl, by rw [hU], by rw [hU]; exact hPc, va_K.moved hW.alike hK2, (rd_right hD).weaken (fun _ _ _ _ => trivial), by rw [hU]; exact gZ.go C.2.2.2.2.2.2.2.1 hS (rd_AA (rd_right hD) C.2.2.2.2.2.2.1 hS.1) hW⟩
/-- a virtual or private call -/
theorem g_runV (C : gC p s m args meth c cc nL own D ty t A) (hM : Met l y (rw_ y bytes maxL ret) rm (va_Pc (.ref b :: As) (gP D ty2 t wc H.size)) Qa rm.cells rm.slots (va_A wc H.size)) (hG : GoodIn wsL_law (wsV own idx y.cls y (rw_ y bytes maxL ret)))
    (hd : y.cls = y.cls ∧ y.cls ≠ "java/lang/invoke/MethodHandle" ∧ y.cls ≠ "java/lang/invoke/VarHandle" ∧ (parseMethodDescriptor y.desc).map (fun d => d.parameters.length) = some n) (hR : rm.frames + 1 ≤ R.frames ∧ 8 + (maxL + 11) + rm.locals ≤ R.locals) {ci : Nat} {q : vw_C} {fs : List Value} (hci : vwCl[ci]? = some q) (hq : q.1 = y.cls) (hrc : wc[0]? = some (b, .inr (ci, fs)))
    (hK2 : va_K D vwCl ty2 s) (hPc : va_P D vwCl wc H) (hD : va_D A (wr ++ wc)) (hS : va_S A s.heap H locs) (hl : ls.size = nL) (hn : As.length = n) (hst : st0 = As.reverse ++ .ref b :: rest) (hrest : (rest.map fun v => v.category).sum ≤ 8) (hdg : decode cc pc = .ok (.invokevirtual idx, 3)) (hf : cells + rm.cells ≤ R.cells ∧ slots + rm.slots ≤ R.slots) :
    va_Run p l e R s m args below meth c H locs cells slots rm.cells rm.slots (F0 m pc ls st0) rest (Qa (Value.ref b :: As).toArray) (va_A wc H.size) :=
  va_runV ⟨C.1, C.2.1, C.2.2.1, C.2.2.2.1, C.2.2.2.2.1⟩ hM (cwV n C.2.2.2.2.1 hG rfl rfl rfl hd hR) ⟨gP_blind, by rw [← hq]; exact va_recv hK2 hPc hci hrc, g_pre C hK2 hPc hD hS⟩ rfl hn hl hst (lv_room hrest) hdg hf
/-- a static call -/
theorem g_runS (C : gC p s m args meth c cc nL own D ty t A) (hM : Met l y (rw_ y bytes maxL ret) rm (va_Pc As (gP D ty2 t wc H.size)) Qa rm.cells rm.slots (va_A wc H.size)) (hG : GoodIn wsL_law (va_wsS own idx y (rw_ y bytes maxL ret)))
    (hd : y.cls ≠ "java/lang/invoke/MethodHandle" ∧ y.cls ≠ "java/lang/invoke/VarHandle" ∧ (parseMethodDescriptor y.desc).map (fun d => d.parameters.length) = some n) (hR : rm.frames + 1 ≤ R.frames ∧ 8 + (maxL + 11) + rm.locals ≤ R.locals)
    (hK2 : va_K D vwCl ty2 s) (hPc : va_P D vwCl wc H) (hD : va_D A (wr ++ wc)) (hS : va_S A s.heap H locs) (hl : ls.size = nL) (hn : As.length = n) (hst : st0 = As.reverse ++ rest) (hrest : (rest.map fun v => v.category).sum ≤ 8) (hdg : decode cc pc = .ok (.invokestatic idx, 3)) (hf : cells + rm.cells ≤ R.cells ∧ slots + rm.slots ≤ R.slots) :
    va_Run p l e R s m args below meth c H locs cells slots rm.cells rm.slots (F0 m pc ls st0) rest (Qa As.toArray) (va_A wc H.size) :=
  va_runS ⟨C.1, C.2.1, C.2.2.1, C.2.2.2.1, C.2.2.2.2.1⟩ hM (va_cwS n C.2.2.2.2.1 hG rfl rfl rfl hd hR) ⟨gP_blind, g_pre C hK2 hPc hD hS⟩ rfl hn hl hst (lv_room hrest) hdg hf
variable {mc ms : Nat} {a : Array Value}
theorem g_ci {post : Int32 → va_W → Prop} {cells' slots' : Nat} (hc : cells + mc = cells') (hs : slots + ms = slots') (C : gC p s m args meth c cc nL own D ty t A) (hPr : va_P D vwCl wr H) (hD : va_D A (wr ++ wc)) (hS : va_S A s.heap H locs) (hr : va_Run p l e R s m args below meth c H locs cells slots mc ms (F0 m pc ls st0) rest (va_Qi post (fun w' U => gQ D (va_A wc H.size) w' U) (va_A wc H.size) a) (va_A wc H.size))
    (kk : ∀ (r : Int32) (w' : va_W) (H1 : Heap) (locs1 : List Loc), post r w' → H.size ≤ H1.size → va_P D vwCl wr H1 → va_P D vwCl w' H1 → va_D A (wr ++ w') → va_S A s.heap H1 locs1 → W p l e R s m args below meth c H1 locs1 cells' slots' Q (F0 m (pc + 3) ls (.int r :: rest))) : W p l e R s m args below meth c H locs cells slots Q (F0 m pc ls st0) := by
  subst hc
  subst hs
  have hF := rd_AA (rd_right hD) C.2.2.2.2.2.2.1 hS.1
  refine va_calli hr hS (fun q _ h => hF q h) hF (fun r w' t H1 locs1 ht _ hp hB hz hk hS1 => ?_)
  obtain ⟨b1, b2⟩ := hB
  rw [ht] at b1
  obtain ⟨c1, c2⟩ := rd_frame hPr hD hF hk b2
  exact kk r w' H1 locs1 hp hz c1 b1 c2 hS1
theorem g_cl {post : Int64 → va_W → Prop} {cells' slots' : Nat} (hc : cells + mc = cells') (hs : slots + ms = slots') (C : gC p s m args meth c cc nL own D ty t A) (hPr : va_P D vwCl wr H) (hD : va_D A (wr ++ wc)) (hS : va_S A s.heap H locs) (hr : va_Run p l e R s m args below meth c H locs cells slots mc ms (F0 m pc ls st0) rest (va_Ql post (fun w' U => gQ D (va_A wc H.size) w' U) (va_A wc H.size) a) (va_A wc H.size))
    (kk : ∀ (r : Int64) (w' : va_W) (H1 : Heap) (locs1 : List Loc), post r w' → H.size ≤ H1.size → va_P D vwCl wr H1 → va_P D vwCl w' H1 → va_D A (wr ++ w') → va_S A s.heap H1 locs1 → W p l e R s m args below meth c H1 locs1 cells' slots' Q (F0 m (pc + 3) ls (.long r :: rest))) : W p l e R s m args below meth c H locs cells slots Q (F0 m pc ls st0) := by
  subst hc
  subst hs
  have hF := rd_AA (rd_right hD) C.2.2.2.2.2.2.1 hS.1
  refine va_calll hr hS (fun q _ h => hF q h) hF (fun r w' t H1 locs1 ht _ hp hB hz hk hS1 => ?_)
  obtain ⟨b1, b2⟩ := hB
  rw [ht] at b1
  obtain ⟨c1, c2⟩ := rd_frame hPr hD hF hk b2
  exact kk r w' H1 locs1 hp hz c1 b1 c2 hS1
theorem g_cv {post : va_W → Prop} {cells' slots' : Nat} (hc : cells + mc = cells') (hs : slots + ms = slots') (C : gC p s m args meth c cc nL own D ty t A) (hPr : va_P D vwCl wr H) (hD : va_D A (wr ++ wc)) (hS : va_S A s.heap H locs) (hr : va_Run p l e R s m args below meth c H locs cells slots mc ms (F0 m pc ls st0) rest (va_Qv post (fun w' U => gQ D (va_A wc H.size) w' U) (va_A wc H.size) a) (va_A wc H.size))
    (kk : ∀ (w' : va_W) (H1 : Heap) (locs1 : List Loc), post w' → H.size ≤ H1.size → va_P D vwCl wr H1 → va_P D vwCl w' H1 → va_D A (wr ++ w') → va_S A s.heap H1 locs1 → W p l e R s m args below meth c H1 locs1 cells' slots' Q (F0 m (pc + 3) ls rest)) : W p l e R s m args below meth c H locs cells slots Q (F0 m pc ls st0) := by
  subst hc
  subst hs
  have hF := rd_AA (rd_right hD) C.2.2.2.2.2.2.1 hS.1
  refine va_callv hr hS (fun q _ h => hF q h) hF (fun w' t H1 locs1 ht _ hp hB hz hk hS1 => ?_)
  obtain ⟨b1, b2⟩ := hB
  rw [ht] at b1
  obtain ⟨c1, c2⟩ := rd_frame hPr hD hF hk b2
  exact kk w' H1 locs1 hp hz c1 b1 c2 hS1
theorem g_cr {post : Nat × va_W → Prop} {cells' slots' : Nat} (hc : cells + mc = cells') (hs : slots + ms = slots') (C : gC p s m args meth c cc nL own D ty t A) (hPr : va_P D vwCl wr H) (hD : va_D A (wr ++ wc)) (hS : va_S A s.heap H locs) (hr : va_Run p l e R s m args below meth c H locs cells slots mc ms (F0 m pc ls st0) rest (va_Qr (S := Nat × va_W) post (fun u a U => u.1 = a ∧ gQ D (va_A wc H.size) u.2 U) (va_A wc H.size) a) (va_A wc H.size))
    (kk : ∀ (r : Nat) (w' : va_W) (H1 : Heap) (locs1 : List Loc), post (r, w') → H.size ≤ H1.size → va_P D vwCl wr H1 → va_P D vwCl w' H1 → va_D A (wr ++ w') → va_S A s.heap H1 locs1 → W p l e R s m args below meth c H1 locs1 cells' slots' Q (F0 m (pc + 3) ls (.ref r :: rest))) : W p l e R s m args below meth c H locs cells slots Q (F0 m pc ls st0) := by
  subst hc
  subst hs
  have hF := rd_AA (rd_right hD) C.2.2.2.2.2.2.1 hS.1
  refine va_callr hr hS (fun q _ h => hF q h) hF (fun u ra t H1 locs1 ht _ hp hB hz hk hS1 => ?_)
  obtain ⟨r0, w'⟩ := u
  obtain ⟨e0, b1, b2⟩ := hB
  dsimp only at e0 b1 b2 hp
  subst e0
  rw [ht] at b1
  obtain ⟨c1, c2⟩ := rd_frame hPr hD hF hk b2
  exact kk r0 w' H1 locs1 hp hz c1 b1 c2 hS1
end GCALL
end
section
/-! THE CLASS'S WORLD: the object at o, its rows of numbers at ad k (k: the field's place); a state is (rows, how many are hired, the week) -/
abbrev S0 : Type := (Nat → Nat → Int32) × Nat × Int32
abbrev rm_ (f k n lo : Nat) : Room := { frames := f, cells := k, slots := n, locals := lo }
def ra_f (ad : Nat → Nat) (u : S0) : List Value := [.ref (ad 0), .ref (ad 1), .ref (ad 2), .ref (ad 3), .ref (ad 4), .ref (ad 5), .ref (ad 6), .ref (ad 7), .ref (ad 8), .int (nI u.2.1), .int u.2.2, .ref (ad 11), .ref (ad 12), .ref (ad 13)]
def ra_w (cI : ClassId) (o : Nat) (ad : Nat → Nat) (u : S0) : va_W := [(o, .inr (0, ra_f ad u)), (ad 0, .inl (cI, 8, .inl (u.1 0))), (ad 1, .inl (cI, 8, .inl (u.1 1))), (ad 2, .inl (cI, 8, .inl (u.1 2))), (ad 3, .inl (cI, 8, .inl (u.1 3))), (ad 4, .inl (cI, 8, .inl (u.1 4))), (ad 5, .inl (cI, 8, .inl (u.1 5))), (ad 6, .inl (cI, 8, .inl (u.1 6))), (ad 7, .inl (cI, 5, .inl (u.1 7))), (ad 8, .inl (cI, 3, .inl (u.1 8))), (ad 11, .inl (cI, 5, .inl (u.1 11))), (ad 12, .inl (cI, 3, .inl (u.1 12))), (ad 13, .inl (cI, 3, .inl (u.1 13)))]
def ra_len (k : Nat) : Nat := if k < 7 then 8 else if k = 7 ∨ k = 11 then 5 else 3
def ra_pl (k : Nat) : Nat := if k < 9 then k + 1 else k - 1
def ra_ok (k : Nat) : Prop := k < 9 ∨ (10 < k ∧ k < 14)
def ra_u (u : S0) (k : Nat) (g : Nat → Int32) : S0 := (va_up u.1 k g, u.2)
def ra_s (u : S0) (k i : Nat) (x : Int32) : S0 := ra_u u k (upd (u.1 k) i x)
theorem ra_cases {k : Nat} (h : ra_ok k) : k = 0 ∨ k = 1 ∨ k = 2 ∨ k = 3 ∨ k = 4 ∨ k = 5 ∨ k = 6 ∨ k = 7 ∨ k = 8 ∨ k = 11 ∨ k = 12 ∨ k = 13 := by
  unfold ra_ok at h
  omega
theorem ra_row {cI : ClassId} {o : Nat} {ad : Nat → Nat} {u : S0} {k : Nat} (h : ra_ok k) : (ra_w cI o ad u)[ra_pl k]? = some (ad k, .inl (cI, ra_len k, .inl (u.1 k))) := by
  rcases ra_cases h with rfl | rfl | rfl | rfl | rfl | rfl | rfl | rfl | rfl | rfl | rfl | rfl <;> rfl
theorem ra_set {cI : ClassId} {o : Nat} {ad : Nat → Nat} {u : S0} {k : Nat} (h : ra_ok k) (g : Nat → Int32) : (ra_w cI o ad u).set (ra_pl k) (ad k, .inl (cI, ra_len k, .inl g)) = ra_w cI o ad (ra_u u k g) := by
  rcases ra_cases h with rfl | rfl | rfl | rfl | rfl | rfl | rfl | rfl | rfl | rfl | rfl | rfl <;> rfl
theorem ra_D {A : Nat → Prop} {cI : ClassId} {o : Nat} {ad : Nat → Nat} {u u' : S0} (h : va_D A (ra_w cI o ad u)) : va_D A (ra_w cI o ad u') := rd_map h rfl
theorem ra_uN {u : S0} {k j : Nat} {g : Nat → Int32} (h : j ≠ k) : (ra_u u k g).1 j = u.1 j := if_neg h
theorem ra_uS {u : S0} {k : Nat} {g : Nat → Int32} : (ra_u u k g).1 k = g := if_pos rfl
theorem ra_len8 {k : Nat} (h : ra_ok k) : ra_len k ≤ 8 := by
  unfold ra_len
  split
  · omega
  · split <;> omega
section X0ROWS
variable {p : Program} {l : Launch} {e : Env} {R : Room} {s : State} {m : MethodId} {args : Array Value} {below : List Frame} {meth : Method} {c : Code} {H : Heap} {locs : List Loc} {cells slots : Nat} {Q : State → Prop}
variable {cc : ByteArray} {nL pc : Nat} {ls : Array Slot} {rest : List Value} {D : va_G} {cI : ClassId} {t : Nat → Nat} {A : Nat → Prop} {o : Nat} {ad : Nat → Nat} {u : S0} {own : String} {ty : List (ClassId × FieldType)}
theorem x0_gf (C : gC p s m args meth c cc nL RX0 D [(cI, .int)] t A) (hP : va_P D vwCl (ra_w cI o ad u) H) (k : Nat) (hk : k < 14) {v : Value} {idx : Nat} (hv : (ra_f ad u)[k]? = some v) (hs : (TX0 k).1 = RX0) (hq : Cond.fieldLink RX0 idx RX0 (TX0 k).2.1 (TX0 k).2.2.1 ∈ wsL_law) (hdg : decode cc pc = .ok (.getfield idx, 3))
    (kk : W p l e R s m args below meth c H locs cells slots Q (F0 m (pc + 3) ls (v :: rest))) : W p l e R s m args below meth c H locs cells slots Q (F0 m pc ls (.ref o :: rest)) :=
  va_get (D := D) (ci := 0) (C := RX0) (T := TX0) (N := 14) C.1 C.2.1 C.2.2.2.2.1 inlX0 C.2.2.2.1 C.2.2.2.2.2.1 hP 0 rfl rfl k hk (C.2.2.2.2.1 _ hq) (fun x h => by rw [hs] at h; exact h) hv hdg kk
theorem x0_ph (C : gC p s m args meth c cc nL RX0 D [(cI, .int)] t A) (hP : va_P D vwCl (ra_w cI o ad u) H) (hD : va_D A (ra_w cI o ad u)) (hS : va_S A s.heap H locs) (h' : Nat) {idx : Nat} (hq : Cond.fieldLink RX0 idx RX0 "hired" "I" ∈ wsL_law) (hdg : decode cc pc = .ok (.putfield idx, 3))
    (kk : ∀ (H1 : Heap) (locs1 : List Loc), va_P D vwCl (ra_w cI o ad (u.1, h', u.2.2)) H1 → va_D A (ra_w cI o ad (u.1, h', u.2.2)) → va_S A s.heap H1 locs1 → W p l e R s m args below meth c H1 locs1 cells slots Q (F0 m (pc + 3) ls rest)) : W p l e R s m args below meth c H locs cells slots Q (F0 m pc ls (.int (nI h') :: .ref o :: rest)) :=
  va_put (D := D) (ci := 0) (v := .int (nI h')) (ty := .int) (C := RX0) (T := TX0) (N := 14) C.1 C.2.1 C.2.2.2.2.1 inlX0 tyX0 tyX0_ok nmX0 C.2.2.2.1 C.2.2.2.2.2.1 hP hD hS 0 rfl rfl 9 (by decide) (C.2.2.2.2.1 _ hq) (fun x h => h) rfl (by decide +kernel) rfl rfl (Nat.le_of_ble_eq_true rfl) hdg (fun H1 locs1 hP1 hD1 hS1 => kk H1 locs1 hP1 hD1 hS1)
theorem x0_pw (C : gC p s m args meth c cc nL RX0 D [(cI, .int)] t A) (hP : va_P D vwCl (ra_w cI o ad u) H) (hD : va_D A (ra_w cI o ad u)) (hS : va_S A s.heap H locs) {x : Int32} {idx : Nat} (hq : Cond.fieldLink RX0 idx RX0 "week" "I" ∈ wsL_law) (hdg : decode cc pc = .ok (.putfield idx, 3))
    (kk : ∀ (H1 : Heap) (locs1 : List Loc), va_P D vwCl (ra_w cI o ad (u.1, u.2.1, x)) H1 → va_D A (ra_w cI o ad (u.1, u.2.1, x)) → va_S A s.heap H1 locs1 → W p l e R s m args below meth c H1 locs1 cells slots Q (F0 m (pc + 3) ls rest)) : W p l e R s m args below meth c H locs cells slots Q (F0 m pc ls (.int x :: .ref o :: rest)) :=
  va_put (D := D) (ci := 0) (v := .int x) (ty := .int) (C := RX0) (T := TX0) (N := 14) C.1 C.2.1 C.2.2.2.2.1 inlX0 tyX0 tyX0_ok nmX0 C.2.2.2.1 C.2.2.2.2.2.1 hP hD hS 0 rfl rfl 10 (by decide) (C.2.2.2.2.1 _ hq) (fun x h => h) rfl (by decide +kernel) rfl rfl (Nat.le_of_ble_eq_true rfl) hdg (fun H1 locs1 hP1 hD1 hS1 => kk H1 locs1 hP1 hD1 hS1)
theorem x0_ld (C : gC p s m args meth c cc nL own D [(cI, .int)] t A) (hP : va_P D vwCl (ra_w cI o ad u) H) {k i : Nat} {i0 : Int32} (hk : ra_ok k) (hi : i < ra_len k) (h0 : i0 = nI i) (hdg : decode cc pc = .ok (.iaload, 1))
    (kk : W p l e R s m args below meth c H locs cells slots Q (F0 m (pc + 1) ls (.int (u.1 k i) :: rest))) : W p l e R s m args below meth c H locs cells slots Q (F0 m pc ls (.int i0 :: .ref (ad k) :: rest)) := by
  subst h0
  have h9 := ra_len8 hk
  exact va_iald (D := D) (n := ra_len k) (f := u.1 k) C.1 C.2.1 C.2.2.2.2.2.1 hP (ra_pl k) 0 (ra_row hk) rfl (vp_in_nI hi (by omega)) hdg (by rw [nI_clamp (by omega)]; exact kk)
theorem x0_st (C : gC p s m args meth c cc nL own D [(cI, .int)] t A) (hP : va_P D vwCl (ra_w cI o ad u) H) (hD : va_D A (ra_w cI o ad u)) (hS : va_S A s.heap H locs) {k i : Nat} {i0 x : Int32} (hk : ra_ok k) (hi : i < ra_len k) (h0 : i0 = nI i) (hdg : decode cc pc = .ok (.iastore, 1))
    (kk : ∀ (H1 : Heap) (locs1 : List Loc), va_P D vwCl (ra_w cI o ad (ra_s u k i x)) H1 → va_D A (ra_w cI o ad (ra_s u k i x)) → va_S A s.heap H1 locs1 → W p l e R s m args below meth c H1 locs1 cells slots Q (F0 m (pc + 1) ls rest)) : W p l e R s m args below meth c H locs cells slots Q (F0 m pc ls (.int x :: .int i0 :: .ref (ad k) :: rest)) := by
  subst h0
  have h9 := ra_len8 hk
  refine va_iast (D := D) (n := ra_len k) (f := u.1 k) C.1 C.2.1 C.2.2.2.2.2.1 hP hD hS (ra_pl k) 0 (ra_row hk) rfl (vp_in_nI hi (by omega)) hdg (fun H1 locs1 hP1 hD1 hS1 => ?_)
  rw [nI_clamp (by omega), ra_set hk] at hP1 hD1
  exact kk H1 locs1 hP1 hD1 hS1
/-- a static array: its field, its elements -/
theorem g_gs (C : gC p s m args meth c cc nL own D ty t A) (hS : va_S A s.heap H locs) {nm : String} {v : Value} {idx : Nat} (hZ : va_Z own nm "[I" v A s s.heap) (hq : Cond.fieldLink own idx own nm "[I" ∈ wsL_law) (hdg : decode cc pc = .ok (.getstatic idx, 3))
    (kk : W p l e R s m args below meth c H locs cells slots Q (F0 m (pc + 3) ls (v :: rest))) : W p l e R s m args below meth c H locs cells slots Q (F0 m pc ls rest) :=
  va_gets C.1 C.2.1 hZ hS C.2.2.2.1 (C.2.2.2.2.1 _ hq) (fun x h => h) hdg kk
theorem g_ti (C : gC p s m args meth c cc nL own D ty t A) (hS : va_S A s.heap H locs) {a N i : Nat} {f : Nat → Int32} {i0 : Int32} (hT : va_T .int a N (fun j => .int (f j)) A s s.heap) (hN : N < 100) (hi : i < N) (h0 : i0 = nI i) (hdg : decode cc pc = .ok (.iaload, 1))
    (kk : W p l e R s m args below meth c H locs cells slots Q (F0 m (pc + 1) ls (.int (f i) :: rest))) : W p l e R s m args below meth c H locs cells slots Q (F0 m pc ls (.int i0 :: .ref a :: rest)) := by
  subst h0
  exact va_ti C.1 C.2.1 hT hS (vp_in_nI hi (by omega)) (v := .int (f i)) (by rw [nI_clamp (by omega)]) hdg kk
def rf_min (x y : Int32) : Int32 := if y < x then y else x
def rf_max (x y : Int32) : Int32 := if x < y then y else x
def rf_absL (x : Int64) : Int64 := if 0 < x then x else -x
def rf_abs (x : Int32) : Int32 := if 0 ≤ x then x else 0 - x
theorem g_min (C : gC p s m args meth c cc nL own D ty t A) {idx : Nat} (h1 : Cond.methodLink own idx Lib.Math.min.name ∈ wsL_law) (h2 : Cond.static Lib.Math.min.name ∈ wsL_law) (h3 : Cond.initialized "java/lang/Math" ∈ wsL_law) (h4 : Cond.code Lib.Math.min.name Lib.Math.min.code 2 (some .int) ∈ wsL_law) (hl : ls.size = nL) (hf : 1 ≤ R.frames) (hlo : (rest.map fun v => v.category).sum + 13 ≤ R.locals) (hc : cells ≤ R.cells) (hs : slots ≤ R.slots) {x y : Int32} (hdg : decode cc pc = .ok (.invokestatic idx, 3))
    (kk : W p l e R s m args below meth c H locs cells slots Q (F0 m (pc + 3) ls (.int (rf_min x y) :: rest))) : W p l e R s m args below meth c H locs cells slots Q (F0 m pc ls (.int y :: .int x :: rest)) :=
  va_mmin C.1 C.2.1 (C.2.2.1.trans hl.symm) C.2.2.2.1 (C.2.2.2.2.1 _ h1) (C.2.2.2.2.1 _ h2) (C.2.2.2.2.1 _ h3) (C.2.2.2.2.1 _ h4) hf hlo hc hs hdg kk
theorem g_max (C : gC p s m args meth c cc nL own D ty t A) {idx : Nat} (h1 : Cond.methodLink own idx Lib.Math.max.name ∈ wsL_law) (h2 : Cond.static Lib.Math.max.name ∈ wsL_law) (h3 : Cond.initialized "java/lang/Math" ∈ wsL_law) (h4 : Cond.code Lib.Math.max.name Lib.Math.max.code 2 (some .int) ∈ wsL_law) (hl : ls.size = nL) (hf : 1 ≤ R.frames) (hlo : (rest.map fun v => v.category).sum + 13 ≤ R.locals) (hc : cells ≤ R.cells) (hs : slots ≤ R.slots) {x y : Int32} (hdg : decode cc pc = .ok (.invokestatic idx, 3))
    (kk : W p l e R s m args below meth c H locs cells slots Q (F0 m (pc + 3) ls (.int (rf_max x y) :: rest))) : W p l e R s m args below meth c H locs cells slots Q (F0 m pc ls (.int y :: .int x :: rest)) :=
  va_mmax C.1 C.2.1 (C.2.2.1.trans hl.symm) C.2.2.2.1 (C.2.2.2.2.1 _ h1) (C.2.2.2.2.1 _ h2) (C.2.2.2.2.1 _ h3) (C.2.2.2.2.1 _ h4) hf hlo hc hs hdg kk
theorem g_abs (C : gC p s m args meth c cc nL own D ty t A) {idx : Nat} (h1 : Cond.methodLink own idx Lib.Math.abs.name ∈ wsL_law) (h2 : Cond.static Lib.Math.abs.name ∈ wsL_law) (h3 : Cond.initialized "java/lang/Math" ∈ wsL_law) (h4 : Cond.code Lib.Math.abs.name Lib.Math.abs.code 1 (some .int) ∈ wsL_law) (hl : ls.size = nL) (hf : 1 ≤ R.frames) (hlo : (rest.map fun v => v.category).sum + 13 ≤ R.locals) (hc : cells ≤ R.cells) (hs : slots ≤ R.slots) {x : Int32} (hdg : decode cc pc = .ok (.invokestatic idx, 3))
    (kk : W p l e R s m args below meth c H locs cells slots Q (F0 m (pc + 3) ls (.int (rf_abs x) :: rest))) : W p l e R s m args below meth c H locs cells slots Q (F0 m pc ls (.int x :: rest)) :=
  va_mabs C.1 C.2.1 (C.2.2.1.trans hl.symm) C.2.2.2.1 (C.2.2.2.2.1 _ h1) (C.2.2.2.2.1 _ h2) (C.2.2.2.2.1 _ h3) (C.2.2.2.2.1 _ h4) hf hlo hc hs hdg kk
theorem g_absL (C : gC p s m args meth c cc nL own D ty t A) {idx : Nat} (h1 : Cond.methodLink own idx Lib.MathLoose.abs_long.x ∈ wsL_law) (h2 : Cond.static Lib.MathLoose.abs_long.x ∈ wsL_law) (h3 : Cond.initialized "java/lang/Math" ∈ wsL_law) (h4 : Cond.code Lib.MathLoose.abs_long.x Lib.MathLoose.abs_long.code 2 (some .long) ∈ wsL_law) (hl : ls.size = nL) (hf : 1 ≤ R.frames) (hlo : (rest.map fun v => v.category).sum + 13 ≤ R.locals) (hc : cells ≤ R.cells) (hs : slots ≤ R.slots) {x : Int64} (hdg : decode cc pc = .ok (.invokestatic idx, 3))
    (kk : W p l e R s m args below meth c H locs cells slots Q (F0 m (pc + 3) ls (.long (rf_absL x) :: rest))) : W p l e R s m args below meth c H locs cells slots Q (F0 m pc ls (.long x :: rest)) :=
  va_mabs_long C.1 C.2.1 (C.2.2.1.trans hl.symm) C.2.2.2.1 (C.2.2.2.2.1 _ h1) (C.2.2.2.2.1 _ h2) (C.2.2.2.2.1 _ h3) (C.2.2.2.2.1 _ h4) hf hlo hc hs hdg kk
end X0ROWS
theorem ra_sS {u : S0} {k i : Nat} {x : Int32} : (ra_s u k i x).1 k i = x := by
  unfold ra_s
  rw [ra_uS]
  simp [upd]
theorem ra_sN {u : S0} {k i j : Nat} {x : Int32} (h : j ≠ k) : (ra_s u k i x).1 j = u.1 j := ra_uN h
end
section
/-! WHAT THE CLASS'S METHODS ANSWER, as functions of its state (32-bit numbers, wraps and all) -/
def rf_wp (n d : Int32) : Int32 := if 1 ≤ d then n / d else 0
def rf_hc (u : S0) (r : Nat) : Int32 := rf_max 0 (u.1 2 r - (u.1 3 r + 1) / 2) + rf_max 0 (rf_max 0 (u.1 2 r - (u.1 3 r + 1) / 2) - 60) / 2
def rf_pc (u : S0) (k r : Nat) : Int32 := u.1 k 0 * rf_min (u.1 1 r) (u.1 k 2) / 10 + Int64.toInt32 (Int32.toInt64 (u.1 k 0) * Int32.toInt64 (u.1 1 r - rf_min (u.1 1 r) (u.1 k 2)) * Int32.toInt64 (100 + u.1 k 3) / 1000)
def rf_hw (u : S0) (k r : Nat) : Int32 := u.1 k 1 * rf_hc u r
def rf_ww (u : S0) (k r : Nat) : Int32 := if u.1 0 r = 0 then rf_pc u k r else if u.1 0 r = 1 then rf_hw u k r else rf_max (rf_pc u k r) (rf_hw u k r)
def rf_cm (u : S0) (r : Nat) : Int32 := rf_ww u 7 r + u.1 5 r
def rf_tb (u : S0) (debt coming : Int32) : Int32 := rf_min debt (rf_wp coming (u.1 7 4))
def rf_re (u : S0) (r : Nat) : Int32 := rf_cm u r - rf_tb u (u.1 4 r) (rf_cm u r)
/-- one coin handed out of the row k: what is left, the state -/
def rf_hm (k : Nat) (x : Int32 × S0) (c : Nat) : Int32 := rf_min (rf_wp x.1 (rt_RX0_COIN_WORTH c)) (x.2.1 k c)
def rf_h1 (k : Nat) (x : Int32 × S0) (c : Nat) : Int32 × S0 := (x.1 - rf_hm k x c * rt_RX0_COIN_WORTH c, ra_s (ra_s x.2 k c (x.2.1 k c - rf_hm k x c)) 13 c (rf_hm k x c))
def rf_ho (u : S0) (k : Nat) (sum : Int32) : Nat → Int32 × S0
  | 0 => (sum, u)
  | c + 1 => rf_h1 k (rf_ho u k sum c) c
def rf_hs (u : S0) (k : Nat) (sum : Int32) : S0 := (rf_ho u k sum 3).2
def rf_hv (u : S0) (k : Nat) (sum : Int32) : Int32 := sum - (rf_ho u k sum 3).1
def rf_sm (f : Nat → Int32) : Nat → Int32
  | 0 => 0
  | n + 1 => rf_sm f n + f n
def rf_cp (u : S0) (k1 k2 : Nat) : Nat → S0
  | 0 => u
  | i + 1 => ra_s (rf_cp u k1 k2 i) k2 i ((rf_cp u k1 k2 i).1 k1 i)
/-- a reaper is paid -/
def rf_tk (u : S0) (r : Nat) : Int32 := rf_tb u (u.1 4 r) (rf_cm u r)
def rf_sv (u : S0) (r : Nat) : Int32 := rf_hv u 8 (rf_cm u r - rf_tk u r)
def rf_s1 (u : S0) (r : Nat) : S0 := ra_s (rf_hs u 8 (rf_cm u r - rf_tk u r)) 4 r ((rf_hs u 8 (rf_cm u r - rf_tk u r)).1 4 r - rf_tk u r)
def rf_s2 (u : S0) (r : Nat) : S0 := ra_s (rf_s1 u r) 5 r (rf_cm u r - rf_tk u r - rf_sv u r)
def rf_s3 (u : S0) (r : Nat) : S0 := ra_s (rf_s2 u r) 6 r ((rf_s2 u r).1 6 r + rf_sv u r)
def rf_st (u : S0) (r : Nat) : S0 := ra_s (ra_s (ra_s (rf_s3 u r) 1 r 0) 2 r 0) 3 r 0
def rf_py (u : S0) : Nat → Int32 × S0
  | 0 => (0, u)
  | i + 1 => ((rf_py u i).1 + rf_sv (rf_py u i).2 i, rf_st (rf_py u i).2 i)
def rf_ci (u : S0) : Nat → S0
  | 0 => u
  | i + 1 => rf_hs (rf_ci u i) 12 (rf_re (rf_ci u i) i)
def rf_lk (u : S0) : Nat → Int32 × S0
  | 0 => (0, u)
  | i + 1 => ((rf_lk u i).1 + (rf_re (rf_lk u i).2 i - rf_hv (rf_lk u i).2 12 (rf_re (rf_lk u i).2 i)) / 4, rf_hs (rf_lk u i).2 12 (rf_re (rf_lk u i).2 i))
def rf_co (u : S0) (r c : Nat) : Int32 := (rf_ci (rf_cp u 8 12 3) (r + 1)).1 13 c
def rf_told (u : S0) (r : Nat) (k : Nat) : Int32 := if k < 7 then u.1 k r else rf_hc u r
def rf_wage (u : S0) (r : Nat) (k : Nat) : Int32 := match k with
  | 0 => rf_pc u 7 r
  | 1 => rf_hw u 7 r
  | 2 => rf_ww u 7 r
  | 3 => rf_cm u r
  | 4 => rf_tb u (u.1 4 r) (rf_cm u r)
  | _ => rf_re u r
def rf_cnt (u : S0) (k : Nat) : Int32 := match k with
  | 0 => u.2.2
  | 1 => nI u.2.1
  | 2 => rf_sm (u.1 4) u.2.1
  | 3 => rf_sm (u.1 5) u.2.1
  | 4 => rf_sm (fun c => u.1 8 c * rt_RX0_COIN_WORTH c) 3
  | 5 => rf_sm (rf_ww u 7) u.2.1
  | _ => rf_sm (u.1 6) u.2.1
def rf_uL (u : S0) : Nat → Int64 × Int64
  | 0 => (0, 0)
  | i + 1 => ((rf_uL u i).1 + Int32.toInt64 (rf_hc u i), (rf_uL u i).2 + Int32.toInt64 (rf_pc u 7 i))
/-- the best rate by hours of those below 2 + n -/
def rf_ad (hs ps : Int64) : Nat → Int32
  | 0 => 1
  | n + 1 => if 0 ≤ lg_cmp (rf_absL (Int32.toInt64 (nI (n + 2)) * hs - ps)) (rf_absL (Int32.toInt64 (rf_ad hs ps n) * hs - ps)) then rf_ad hs ps n else nI (n + 2)
/-- weeks: the debt and what comes at the start of the week n + 1, while it goes on -/
def rf_un (u : S0) (r : Nat) : Nat → Int32 × Int32
  | 0 => (u.1 4 r, rf_cm u r)
  | n + 1 => ((rf_un u r n).1 - rf_tb u (rf_un u r n).1 (rf_un u r n).2, rf_ww u 7 r)
/-- n weeks are left to look at, i are past -/
def rf_uf (u : S0) (r : Nat) : Nat → Nat → Int32
  | 0, _ => -1
  | n + 1, i => if (rf_un u r (i + 1)).1 = 0 then nI (i + 1) else rf_uf u r n (i + 1)
def rf_dg (f : Nat → Int32) (d : Int64) : Nat → Int64
  | 0 => d
  | n + 1 => rf_dg f d n * 31 + Int32.toInt64 (f n)
def rf_cs (u : S0) (r : Nat) : S0 := rf_ci (rf_cp u 8 12 3) (r + 1)
def rf_dc (u : S0) (r : Nat) (d : Int64) : Nat → Int64 × S0
  | 0 => (d, u)
  | c + 1 => ((rf_dc u r d c).1 * 31 + Int32.toInt64 (rf_co (rf_dc u r d c).2 r c), rf_cs (rf_dc u r d c).2 r)
def rf_d1 (u : S0) (r : Nat) (d : Int64) : Int64 × S0 := rf_dc u r (rf_dg (rf_wage u r) (rf_dg (rf_told u r) d 8) 6) 3
def rf_dr (u : S0) (d : Int64) : Nat → Int64 × S0
  | 0 => (d, u)
  | i + 1 => rf_d1 (rf_dr u d i).2 i (rf_dr u d i).1
def rf_d0 (u : S0) : Int64 := rf_dg (u.1 8) (rf_dg (u.1 7) (rf_dg (rf_cnt u) 1657 7) 5) 3
def rf_wd (u : S0) (k : Nat) (x : Int32) : S0 := ra_s (rf_cp u 7 11 5) 11 k x
def rf_wk (u : S0) (r : Nat) (x b : Int32) : S0 := if b = 0 then ra_s u 2 r (u.1 2 r + x) else ra_s (ra_s u 2 r (u.1 2 r + x)) 3 r ((ra_s u 2 r (u.1 2 r + x)).1 3 r + 1)
theorem rf_hs2 (u : S0) (k : Nat) (x : Int32) : (rf_hs u k x).2 = u.2 := rfl
theorem rf_st2 (u : S0) (r : Nat) : (rf_st u r).2 = u.2 := rfl
theorem rf_cp2 (u : S0) (a b : Nat) : ∀ n, (rf_cp u a b n).2 = u.2
  | 0 => rfl
  | n + 1 => rf_cp2 u a b n
theorem rf_py2 (u : S0) : ∀ i, (rf_py u i).2.2 = u.2
  | 0 => rfl
  | i + 1 => rf_py2 u i
theorem rf_ci2 (u : S0) : ∀ i, (rf_ci u i).2 = u.2
  | 0 => rfl
  | i + 1 => rf_ci2 u i
theorem rf_lk2 (u : S0) : ∀ i, (rf_lk u i).2.2 = u.2
  | 0 => rfl
  | i + 1 => rf_lk2 u i
theorem rf_cs2 (u : S0) (r : Nat) : (rf_cs u r).2 = u.2 := (rf_ci2 _ _).trans (rf_cp2 u 8 12 3)
theorem rf_dc2 (u : S0) (r : Nat) (d : Int64) : ∀ n, (rf_dc u r d n).2.2 = u.2
  | 0 => rfl
  | n + 1 => (rf_cs2 _ r).trans (rf_dc2 u r d n)
theorem rf_dr2 (u : S0) (d : Int64) : ∀ n, (rf_dr u d n).2.2 = u.2
  | 0 => rfl
  | n + 1 => (rf_dc2 _ _ _ _).trans (rf_dr2 u d n)
def rf_until (u : S0) (r : Nat) : Int32 := if u.1 4 r = 0 then 0 else rf_uf u r 99 0
def rf_advise (u : S0) : Int32 := rf_ad (rf_uL u u.2.1).1 (rf_uL u u.2.1).2 98
theorem kd_X0_wholeParts : yX0_wholeParts.cls ≠ "java/lang/invoke/MethodHandle" ∧ yX0_wholeParts.cls ≠ "java/lang/invoke/VarHandle" ∧ (parseMethodDescriptor yX0_wholeParts.desc).map (fun d => d.parameters.length) = some 2 := by decide +kernel
set_option maxHeartbeats 4000000 in
set_option maxRecDepth 100000 in
/-- wholeParts -/
theorem mX0_wholeParts (l : Launch) (D : va_G) (t : Nat → Nat) (ty : List (ClassId × FieldType)) (w : va_W) (sz : Nat) (x0 x1 : Int32) : gMi l yX0_wholeParts (rw_ yX0_wholeParts cX0_wholeParts 2 (some .int)) (rm_ 0 0 0 0) [.int x0, .int x1] D ty t (w) sz (fun v w' => v = rf_wp x0 x1 ∧ w' = w) := by
  refine g_of (cc := cX0_wholeParts) (nL := 2) (rt := (some .int)) (Q := fun A => va_Qi _ (fun w' U => gQ D A w' U) A) (by decide) (Nat.le_of_ble_eq_true rfl) (fun p e s m args below meth c A ls H C hrt hnm hS hP hD hl => ?_)
  have hx := C.1
  have hb := C.2.1
  have hown := C.2.2.2.1
  have hts := C.2.2.2.2.1
  have hl : lv_has ls 2 [(0, .int x0), (1, .int x1)] := hl
  refine lv_iload_n hx hb dX0_wholeParts_0 rfl (lv_at hl 1 rfl) ?_
  refine lv_iconst (v := 1) hx hb dX0_wholeParts_1 (by decide) ?_
  refine lv_icmp_ge (tgt := 9) hx hb dX0_wholeParts_2 (by decide) (fun c1 => ?_) (fun c1 => ?_)
  · refine lv_iload_n hx hb dX0_wholeParts_9 rfl (lv_at hl 0 rfl) ?_
    refine lv_iload_n hx hb dX0_wholeParts_10 rfl (lv_at hl 1 rfl) ?_
    refine lv_idiv hx hb dX0_wholeParts_11 (fun h9 => absurd c1 (by rw [h9]; decide)) ?_
    exact g_iret C hrt hP hD hS dX0_wholeParts_12 ⟨by rw [rf_wp, if_pos c1], rfl⟩
  · refine lv_iconst (v := 0) hx hb dX0_wholeParts_5 (by decide) ?_
    refine lv_goto (tgt := 12) hx hb dX0_wholeParts_6 (by decide) ?_
    exact g_iret C hrt hP hD hS dX0_wholeParts_12 ⟨by rw [rf_wp, if_neg c1], rfl⟩
theorem kd_X0_hoursThatCount : yX0_hoursThatCount.cls = yX0_hoursThatCount.cls ∧ yX0_hoursThatCount.cls ≠ "java/lang/invoke/MethodHandle" ∧ yX0_hoursThatCount.cls ≠ "java/lang/invoke/VarHandle" ∧ (parseMethodDescriptor yX0_hoursThatCount.desc).map (fun d => d.parameters.length) = some 1 := by decide +kernel
set_option maxHeartbeats 4000000 in
set_option maxRecDepth 100000 in
theorem mX0_hoursThatCount (l : Launch) (D : va_G) (t : Nat → Nat) (cI : ClassId) (o : Nat) (ad : Nat → Nat) (sz : Nat) (u : S0) (r : Nat) (hr8 : r < 8) : gMi l yX0_hoursThatCount (rw_ yX0_hoursThatCount cX0_hoursThatCount 5 (some .int)) (rm_ 1 0 0 21) [.ref o, .int (nI r)] D [(cI, .int)] t (ra_w cI o ad u) sz (fun v w' => v = rf_hc u r ∧ w' = ra_w cI o ad u) := by
  refine g_of (cc := cX0_hoursThatCount) (nL := 5) (rt := (some .int)) (Q := fun A => va_Qi _ (fun w' U => gQ D A w' U) A) (by decide) (Nat.le_of_ble_eq_true rfl) (fun p e s m args below meth c A ls H C hrt hnm hS hP hD hl => ?_)
  have hx := C.1
  have hb := C.2.1
  have hown := C.2.2.2.1
  have hts := C.2.2.2.2.1
  have hl : lv_has ls 5 [(0, .ref o), (1, .int (nI r))] := hl
  refine lv_aload_n hx hb dX0_hoursThatCount_0 rfl (lv_at hl 0 rfl) ?_
  refine x0_gf C hP 3 (by decide) (v := .ref (ad 3)) rfl rfl q14 dX0_hoursThatCount_1 ?_
  refine lv_iload_n hx hb dX0_hoursThatCount_4 rfl (lv_at hl 1 rfl) ?_
  refine x0_ld C hP (k := 3) (i := r) (Or.inl (by decide)) hr8 rfl dX0_hoursThatCount_5 ?_
  refine lv_iconst (v := 1) hx hb dX0_hoursThatCount_6 (by decide) ?_
  refine lv_iadd hx hb dX0_hoursThatCount_7 ?_
  refine lv_iconst (v := 2) hx hb dX0_hoursThatCount_8 (by decide) ?_
  refine lv_idiv hx hb dX0_hoursThatCount_9 (by decide) ?_
  refine lv_topi (fun v1 ev1 => ?_)
  refine lv_istore_n (lv' := [(2, .int v1), (0, .ref o), (1, .int (nI r))]) hx hb dX0_hoursThatCount_10 rfl hl (by decide) rfl (fun ls hl => ?_)
  refine lv_iconst (v := 0) hx hb dX0_hoursThatCount_11 (by decide) ?_
  refine lv_aload_n hx hb dX0_hoursThatCount_12 rfl (lv_at hl 1 rfl) ?_
  refine x0_gf C hP 2 (by decide) (v := .ref (ad 2)) rfl rfl q13 dX0_hoursThatCount_13 ?_
  refine lv_iload_n hx hb dX0_hoursThatCount_16 rfl (lv_at hl 2 rfl) ?_
  refine x0_ld C hP (k := 2) (i := r) (Or.inl (by decide)) hr8 rfl dX0_hoursThatCount_17 ?_
  refine lv_iload_n hx hb dX0_hoursThatCount_18 rfl (lv_at hl 0 rfl) ?_
  refine lv_isub hx hb dX0_hoursThatCount_19 ?_
  refine g_max C q123 q124 q125 q126 hl.1 (Nat.le_of_ble_eq_true rfl) (Nat.le_of_ble_eq_true rfl) (Nat.le_of_ble_eq_true rfl) (Nat.le_of_ble_eq_true rfl) dX0_hoursThatCount_20 ?_
  refine lv_topi (fun v2 ev2 => ?_)
  refine lv_istore_n (lv' := [(3, .int v2), (2, .int v1), (0, .ref o), (1, .int (nI r))]) hx hb dX0_hoursThatCount_23 rfl hl (by decide) rfl (fun ls hl => ?_)
  refine lv_iconst (v := 0) hx hb dX0_hoursThatCount_24 (by decide) ?_
  refine lv_iload_n hx hb dX0_hoursThatCount_25 rfl (lv_at hl 0 rfl) ?_
  refine lv_bipush (v := 60) hx hb dX0_hoursThatCount_26 (by decide) ?_
  refine lv_isub hx hb dX0_hoursThatCount_28 ?_
  refine g_max C q123 q124 q125 q126 hl.1 (Nat.le_of_ble_eq_true rfl) (Nat.le_of_ble_eq_true rfl) (Nat.le_of_ble_eq_true rfl) (Nat.le_of_ble_eq_true rfl) dX0_hoursThatCount_29 ?_
  refine lv_topi (fun v3 ev3 => ?_)
  refine lv_istore (lv' := [(4, .int v3), (3, .int v2), (2, .int v1), (0, .ref o), (1, .int (nI r))]) hx hb dX0_hoursThatCount_32 hl (by decide) rfl (fun ls hl => ?_)
  refine lv_iload_n hx hb dX0_hoursThatCount_34 rfl (lv_at hl 1 rfl) ?_
  refine lv_iload hx hb dX0_hoursThatCount_35 (lv_at hl 0 rfl) ?_
  refine lv_iconst (v := 2) hx hb dX0_hoursThatCount_37 (by decide) ?_
  refine lv_idiv hx hb dX0_hoursThatCount_38 (by decide) ?_
  refine lv_iadd hx hb dX0_hoursThatCount_39 ?_
  exact g_iret C hrt hP hD hS dX0_hoursThatCount_40 ⟨by subst ev3; subst ev2; subst ev1; rfl, by subst ev3; subst ev2; subst ev1; rfl⟩
theorem kd_X0_wageByPieces : yX0_wageByPieces.cls = yX0_wageByPieces.cls ∧ yX0_wageByPieces.cls ≠ "java/lang/invoke/MethodHandle" ∧ yX0_wageByPieces.cls ≠ "java/lang/invoke/VarHandle" ∧ (parseMethodDescriptor yX0_wageByPieces.desc).map (fun d => d.parameters.length) = some 2 := by decide +kernel
set_option maxHeartbeats 4000000 in
set_option maxRecDepth 100000 in
theorem mX0_wageByPieces (l : Launch) (D : va_G) (t : Nat → Nat) (cI : ClassId) (o : Nat) (ad : Nat → Nat) (sz : Nat) (u : S0) (k : Nat) (hk : k = 7 ∨ k = 11) (r : Nat) (hr8 : r < 8) : gMi l yX0_wageByPieces (rw_ yX0_wageByPieces cX0_wageByPieces 8 (some .int)) (rm_ 1 0 0 21) [.ref o, .int (nI r), .ref (ad k)] D [(cI, .int)] t (ra_w cI o ad u) sz (fun v w' => v = rf_pc u k r ∧ w' = ra_w cI o ad u) := by
  refine g_of (cc := cX0_wageByPieces) (nL := 8) (rt := (some .int)) (Q := fun A => va_Qi _ (fun w' U => gQ D A w' U) A) (by decide) (Nat.le_of_ble_eq_true rfl) (fun p e s m args below meth c A ls H C hrt hnm hS hP hD hl => ?_)
  have hx := C.1
  have hb := C.2.1
  have hown := C.2.2.2.1
  have hts := C.2.2.2.2.1
  have hl : lv_has ls 8 [(0, .ref o), (1, .int (nI r)), (2, .ref (ad k))] := hl
  refine lv_aload_n hx hb dX0_wageByPieces_0 rfl (lv_at hl 0 rfl) ?_
  refine x0_gf C hP 1 (by decide) (v := .ref (ad 1)) rfl rfl q12 dX0_wageByPieces_1 ?_
  refine lv_iload_n hx hb dX0_wageByPieces_4 rfl (lv_at hl 1 rfl) ?_
  refine x0_ld C hP (k := 1) (i := r) (Or.inl (by decide)) hr8 rfl dX0_wageByPieces_5 ?_
  refine lv_aload_n hx hb dX0_wageByPieces_6 rfl (lv_at hl 2 rfl) ?_
  refine lv_iconst (v := 2) hx hb dX0_wageByPieces_7 (by decide) ?_
  refine x0_ld C hP (k := k) (i := 2) (Or.elim hk (fun h => h ▸ Or.inl (by decide)) (fun h => h ▸ Or.inr ⟨by decide, by decide⟩)) (by rcases hk with rfl | rfl <;> decide) rfl dX0_wageByPieces_8 ?_
  refine g_min C q131 q132 q125 q133 hl.1 (Nat.le_of_ble_eq_true rfl) (Nat.le_of_ble_eq_true rfl) (Nat.le_of_ble_eq_true rfl) (Nat.le_of_ble_eq_true rfl) dX0_wageByPieces_9 ?_
  refine lv_topi (fun v1 ev1 => ?_)
  refine lv_istore_n (lv' := [(3, .int v1), (0, .ref o), (1, .int (nI r)), (2, .ref (ad k))]) hx hb dX0_wageByPieces_12 rfl hl (by decide) rfl (fun ls hl => ?_)
  refine lv_aload_n hx hb dX0_wageByPieces_13 rfl (lv_at hl 1 rfl) ?_
  refine x0_gf C hP 1 (by decide) (v := .ref (ad 1)) rfl rfl q12 dX0_wageByPieces_14 ?_
  refine lv_iload_n hx hb dX0_wageByPieces_17 rfl (lv_at hl 2 rfl) ?_
  refine x0_ld C hP (k := 1) (i := r) (Or.inl (by decide)) hr8 rfl dX0_wageByPieces_18 ?_
  refine lv_iload_n hx hb dX0_wageByPieces_19 rfl (lv_at hl 0 rfl) ?_
  refine lv_isub hx hb dX0_wageByPieces_20 ?_
  refine lv_i2l hx hb dX0_wageByPieces_21 rfl ?_
  refine lv_topl (fun v2 ev2 => ?_)
  refine lv_lstore (lv' := [(4, .long v2), (3, .int v1), (0, .ref o), (1, .int (nI r)), (2, .ref (ad k))]) hx hb dX0_wageByPieces_22 hl (by decide) rfl (fun ls hl => ?_)
  refine lv_aload_n hx hb dX0_wageByPieces_24 rfl (lv_at hl 4 rfl) ?_
  refine lv_iconst (v := 0) hx hb dX0_wageByPieces_25 (by decide) ?_
  refine x0_ld C hP (k := k) (i := 0) (Or.elim hk (fun h => h ▸ Or.inl (by decide)) (fun h => h ▸ Or.inr ⟨by decide, by decide⟩)) (by rcases hk with rfl | rfl <;> decide) rfl dX0_wageByPieces_26 ?_
  refine lv_i2l hx hb dX0_wageByPieces_27 rfl ?_
  refine lv_lload hx hb dX0_wageByPieces_28 (lv_at hl 0 rfl) ?_
  refine lv_lmul hx hb dX0_wageByPieces_30 ?_
  refine lv_bipush (v := 100) hx hb dX0_wageByPieces_31 (by decide) ?_
  refine lv_aload_n hx hb dX0_wageByPieces_33 rfl (lv_at hl 4 rfl) ?_
  refine lv_iconst (v := 3) hx hb dX0_wageByPieces_34 (by decide) ?_
  refine x0_ld C hP (k := k) (i := 3) (Or.elim hk (fun h => h ▸ Or.inl (by decide)) (fun h => h ▸ Or.inr ⟨by decide, by decide⟩)) (by rcases hk with rfl | rfl <;> decide) rfl dX0_wageByPieces_35 ?_
  refine lv_iadd hx hb dX0_wageByPieces_36 ?_
  refine lv_i2l hx hb dX0_wageByPieces_37 rfl ?_
  refine lv_lmul hx hb dX0_wageByPieces_38 ?_
  refine lv_ldc2 (v := 1000) hx hb hown (hts _ q134) dX0_wageByPieces_39 ?_
  refine lv_ldiv hx hb dX0_wageByPieces_42 (by decide) ?_
  refine lv_topl (fun v3 ev3 => ?_)
  refine lv_lstore (lv' := [(6, .long v3), (4, .long v2), (3, .int v1), (0, .ref o), (1, .int (nI r)), (2, .ref (ad k))]) hx hb dX0_wageByPieces_43 hl (by decide) rfl (fun ls hl => ?_)
  refine lv_aload_n hx hb dX0_wageByPieces_45 rfl (lv_at hl 5 rfl) ?_
  refine lv_iconst (v := 0) hx hb dX0_wageByPieces_46 (by decide) ?_
  refine x0_ld C hP (k := k) (i := 0) (Or.elim hk (fun h => h ▸ Or.inl (by decide)) (fun h => h ▸ Or.inr ⟨by decide, by decide⟩)) (by rcases hk with rfl | rfl <;> decide) rfl dX0_wageByPieces_47 ?_
  refine lv_iload_n hx hb dX0_wageByPieces_48 rfl (lv_at hl 2 rfl) ?_
  refine lv_imul hx hb dX0_wageByPieces_49 ?_
  refine lv_bipush (v := 10) hx hb dX0_wageByPieces_50 (by decide) ?_
  refine lv_idiv hx hb dX0_wageByPieces_52 (by decide) ?_
  refine lv_lload hx hb dX0_wageByPieces_53 (lv_at hl 0 rfl) ?_
  refine lv_l2i hx hb dX0_wageByPieces_55 rfl ?_
  refine lv_iadd hx hb dX0_wageByPieces_56 ?_
  exact g_iret C hrt hP hD hS dX0_wageByPieces_57 ⟨by subst ev3; subst ev2; subst ev1; rfl, by subst ev3; subst ev2; subst ev1; rfl⟩
theorem kd_X0_wageByHours : yX0_wageByHours.cls = yX0_wageByHours.cls ∧ yX0_wageByHours.cls ≠ "java/lang/invoke/MethodHandle" ∧ yX0_wageByHours.cls ≠ "java/lang/invoke/VarHandle" ∧ (parseMethodDescriptor yX0_wageByHours.desc).map (fun d => d.parameters.length) = some 2 := by decide +kernel
set_option maxHeartbeats 4000000 in
set_option maxRecDepth 100000 in
theorem mX0_wageByHours (l : Launch) (D : va_G) (t : Nat → Nat) (cI : ClassId) (o : Nat) (ad : Nat → Nat) (sz : Nat) (u : S0) (k : Nat) (hk : k = 7 ∨ k = 11) (r : Nat) (hr8 : r < 8) : gMi l yX0_wageByHours (rw_ yX0_wageByHours cX0_wageByHours 3 (some .int)) (rm_ 2 0 0 45) [.ref o, .int (nI r), .ref (ad k)] D [(cI, .int)] t (ra_w cI o ad u) sz (fun v w' => v = rf_hw u k r ∧ w' = ra_w cI o ad u) := by
  refine g_of (cc := cX0_wageByHours) (nL := 3) (rt := (some .int)) (Q := fun A => va_Qi _ (fun w' U => gQ D A w' U) A) (by decide) (Nat.le_of_ble_eq_true rfl) (fun p e s m args below meth c A ls H C hrt hnm hS hP hD hl => ?_)
  have hx := C.1
  have hb := C.2.1
  have hown := C.2.2.2.1
  have hts := C.2.2.2.2.1
  have hl : lv_has ls 3 [(0, .ref o), (1, .int (nI r)), (2, .ref (ad k))] := hl
  refine lv_aload_n hx hb dX0_wageByHours_0 rfl (lv_at hl 2 rfl) ?_
  refine lv_iconst (v := 1) hx hb dX0_wageByHours_1 (by decide) ?_
  refine x0_ld C hP (k := k) (i := 1) (Or.elim hk (fun h => h ▸ Or.inl (by decide)) (fun h => h ▸ Or.inr ⟨by decide, by decide⟩)) (by rcases hk with rfl | rfl <;> decide) rfl dX0_wageByHours_2 ?_
  refine lv_aload_n hx hb dX0_wageByHours_3 rfl (lv_at hl 0 rfl) ?_
  refine lv_iload_n hx hb dX0_wageByHours_4 rfl (lv_at hl 1 rfl) ?_
  refine g_ci (wr := []) (cells' := 0) (slots' := 0) rfl rfl C rd_nil hD hS (g_runV (wr := []) (n := 1) C (mX0_hoursThatCount l D t cI o ad H.size u r hr8) (rw_V q139 q140 q141 q2 q142) kd_X0_hoursThatCount ⟨Nat.le_of_ble_eq_true rfl, Nat.le_of_ble_eq_true rfl⟩ (ci := 0) rfl rfl rfl C.2.2.2.2.2.1 hP hD hS hl.1 rfl rfl (Nat.le_of_ble_eq_true rfl) dX0_wageByHours_5 ⟨Nat.le_of_ble_eq_true rfl, Nat.le_of_ble_eq_true rfl⟩) (fun v w' H locs hv _ _ hP hD hS => ?_)
  obtain ⟨rfl, rfl⟩ := hv
  have hD : va_D A (ra_w cI o ad u) := hD
  refine lv_imul hx hb dX0_wageByHours_8 ?_
  exact g_iret C hrt hP hD hS dX0_wageByHours_9 ⟨by skip; rfl, by skip; rfl⟩
theorem kd_X0_weekWage : yX0_weekWage.cls = yX0_weekWage.cls ∧ yX0_weekWage.cls ≠ "java/lang/invoke/MethodHandle" ∧ yX0_weekWage.cls ≠ "java/lang/invoke/VarHandle" ∧ (parseMethodDescriptor yX0_weekWage.desc).map (fun d => d.parameters.length) = some 2 := by decide +kernel
set_option maxHeartbeats 4000000 in
set_option maxRecDepth 100000 in
theorem mX0_weekWage (l : Launch) (D : va_G) (t : Nat → Nat) (cI : ClassId) (o : Nat) (ad : Nat → Nat) (sz : Nat) (u : S0) (k : Nat) (hk : k = 7 ∨ k = 11) (r : Nat) (hr8 : r < 8) : gMi l yX0_weekWage (rw_ yX0_weekWage cX0_weekWage 3 (some .int)) (rm_ 3 0 0 67) [.ref o, .int (nI r), .ref (ad k)] D [(cI, .int)] t (ra_w cI o ad u) sz (fun v w' => v = rf_ww u k r ∧ w' = ra_w cI o ad u) := by
  refine g_of (cc := cX0_weekWage) (nL := 3) (rt := (some .int)) (Q := fun A => va_Qi _ (fun w' U => gQ D A w' U) A) (by decide) (Nat.le_of_ble_eq_true rfl) (fun p e s m args below meth c A ls H C hrt hnm hS hP hD hl => ?_)
  have hx := C.1
  have hb := C.2.1
  have hown := C.2.2.2.1
  have hts := C.2.2.2.2.1
  have hl : lv_has ls 3 [(0, .ref o), (1, .int (nI r)), (2, .ref (ad k))] := hl
  by_cases k0 : u.1 0 r = 0
  · refine lv_aload_n hx hb dX0_weekWage_0 rfl (lv_at hl 0 rfl) ?_
    refine x0_gf C hP 0 (by decide) (v := .ref (ad 0)) rfl rfl q11 dX0_weekWage_1 ?_
    refine lv_iload_n hx hb dX0_weekWage_4 rfl (lv_at hl 1 rfl) ?_
    refine x0_ld C hP (k := 0) (i := r) (Or.inl (by decide)) hr8 rfl dX0_weekWage_5 ?_
    rw [k0]
    refine lv_lookup (off := 26) (tgt := 32) hx hb dX0_weekWage_6 (by decide) rfl (by decide) ?_
    refine lv_aload_n hx hb dX0_weekWage_32 rfl (lv_at hl 0 rfl) ?_
    refine lv_iload_n hx hb dX0_weekWage_33 rfl (lv_at hl 1 rfl) ?_
    refine lv_aload_n hx hb dX0_weekWage_34 rfl (lv_at hl 2 rfl) ?_
    refine g_ci (wr := []) (cells' := 0) (slots' := 0) rfl rfl C rd_nil hD hS (g_runV (wr := []) (n := 2) C (mX0_wageByPieces l D t cI o ad H.size u k hk r hr8) (rw_V q127 q128 q129 q2 q130) kd_X0_wageByPieces ⟨Nat.le_of_ble_eq_true rfl, Nat.le_of_ble_eq_true rfl⟩ (ci := 0) rfl rfl rfl C.2.2.2.2.2.1 hP hD hS hl.1 rfl rfl (Nat.le_of_ble_eq_true rfl) dX0_weekWage_35 ⟨Nat.le_of_ble_eq_true rfl, Nat.le_of_ble_eq_true rfl⟩) (fun v w' H locs hv _ _ hP hD hS => ?_)
    obtain ⟨rfl, rfl⟩ := hv
    have hD : va_D A (ra_w cI o ad u) := hD
    exact g_iret C hrt hP hD hS dX0_weekWage_38 ⟨by rw [rf_ww, if_pos k0], rfl⟩
  by_cases k1 : u.1 0 r = 1
  · refine lv_aload_n hx hb dX0_weekWage_0 rfl (lv_at hl 0 rfl) ?_
    refine x0_gf C hP 0 (by decide) (v := .ref (ad 0)) rfl rfl q11 dX0_weekWage_1 ?_
    refine lv_iload_n hx hb dX0_weekWage_4 rfl (lv_at hl 1 rfl) ?_
    refine x0_ld C hP (k := 0) (i := r) (Or.inl (by decide)) hr8 rfl dX0_weekWage_5 ?_
    rw [k1]
    refine lv_lookup (off := 33) (tgt := 39) hx hb dX0_weekWage_6 (by decide) rfl (by decide) ?_
    refine lv_aload_n hx hb dX0_weekWage_39 rfl (lv_at hl 0 rfl) ?_
    refine lv_iload_n hx hb dX0_weekWage_40 rfl (lv_at hl 1 rfl) ?_
    refine lv_aload_n hx hb dX0_weekWage_41 rfl (lv_at hl 2 rfl) ?_
    refine g_ci (wr := []) (cells' := 0) (slots' := 0) rfl rfl C rd_nil hD hS (g_runV (wr := []) (n := 2) C (mX0_wageByHours l D t cI o ad H.size u k hk r hr8) (rw_V q135 q136 q137 q2 q138) kd_X0_wageByHours ⟨Nat.le_of_ble_eq_true rfl, Nat.le_of_ble_eq_true rfl⟩ (ci := 0) rfl rfl rfl C.2.2.2.2.2.1 hP hD hS hl.1 rfl rfl (Nat.le_of_ble_eq_true rfl) dX0_weekWage_42 ⟨Nat.le_of_ble_eq_true rfl, Nat.le_of_ble_eq_true rfl⟩) (fun v w' H locs hv _ _ hP hD hS => ?_)
    obtain ⟨rfl, rfl⟩ := hv
    have hD : va_D A (ra_w cI o ad u) := hD
    exact g_iret C hrt hP hD hS dX0_weekWage_45 ⟨by rw [rf_ww, if_neg (by rw [k1]; decide), if_pos k1], rfl⟩
  · refine lv_aload_n hx hb dX0_weekWage_0 rfl (lv_at hl 0 rfl) ?_
    refine x0_gf C hP 0 (by decide) (v := .ref (ad 0)) rfl rfl q11 dX0_weekWage_1 ?_
    refine lv_iload_n hx hb dX0_weekWage_4 rfl (lv_at hl 1 rfl) ?_
    refine x0_ld C hP (k := 0) (i := r) (Or.inl (by decide)) hr8 rfl dX0_weekWage_5 ?_
    refine lv_lookup (off := 40) (tgt := 46) hx hb dX0_weekWage_6 (by decide) ((lv_osw k0 rfl).trans ((lv_osw k1 rfl).trans rfl)) (by decide) ?_
    refine lv_aload_n hx hb dX0_weekWage_46 rfl (lv_at hl 0 rfl) ?_
    refine lv_iload_n hx hb dX0_weekWage_47 rfl (lv_at hl 1 rfl) ?_
    refine lv_aload_n hx hb dX0_weekWage_48 rfl (lv_at hl 2 rfl) ?_
    refine g_ci (wr := []) (cells' := 0) (slots' := 0) rfl rfl C rd_nil hD hS (g_runV (wr := []) (n := 2) C (mX0_wageByPieces l D t cI o ad H.size u k hk r hr8) (rw_V q127 q128 q129 q2 q130) kd_X0_wageByPieces ⟨Nat.le_of_ble_eq_true rfl, Nat.le_of_ble_eq_true rfl⟩ (ci := 0) rfl rfl rfl C.2.2.2.2.2.1 hP hD hS hl.1 rfl rfl (Nat.le_of_ble_eq_true rfl) dX0_weekWage_49 ⟨Nat.le_of_ble_eq_true rfl, Nat.le_of_ble_eq_true rfl⟩) (fun v w' H locs hv _ _ hP hD hS => ?_)
    obtain ⟨rfl, rfl⟩ := hv
    have hD : va_D A (ra_w cI o ad u) := hD
    refine lv_aload_n hx hb dX0_weekWage_52 rfl (lv_at hl 0 rfl) ?_
    refine lv_iload_n hx hb dX0_weekWage_53 rfl (lv_at hl 1 rfl) ?_
    refine lv_aload_n hx hb dX0_weekWage_54 rfl (lv_at hl 2 rfl) ?_
    refine g_ci (wr := []) (cells' := 0) (slots' := 0) rfl rfl C rd_nil hD hS (g_runV (wr := []) (n := 2) C (mX0_wageByHours l D t cI o ad H.size u k hk r hr8) (rw_V q135 q136 q137 q2 q138) kd_X0_wageByHours ⟨Nat.le_of_ble_eq_true rfl, Nat.le_of_ble_eq_true rfl⟩ (ci := 0) rfl rfl rfl C.2.2.2.2.2.1 hP hD hS hl.1 rfl rfl (Nat.le_of_ble_eq_true rfl) dX0_weekWage_55 ⟨Nat.le_of_ble_eq_true rfl, Nat.le_of_ble_eq_true rfl⟩) (fun v w' H locs hv _ _ hP hD hS => ?_)
    obtain ⟨rfl, rfl⟩ := hv
    have hD : va_D A (ra_w cI o ad u) := hD
    refine g_max C q123 q124 q125 q126 hl.1 (Nat.le_of_ble_eq_true rfl) (Nat.le_of_ble_eq_true rfl) (Nat.le_of_ble_eq_true rfl) (Nat.le_of_ble_eq_true rfl) dX0_weekWage_58 ?_
    exact g_iret C hrt hP hD hS dX0_weekWage_61 ⟨by rw [rf_ww, if_neg k0, if_neg k1], rfl⟩
theorem kd_X0_coming : yX0_coming.cls = yX0_coming.cls ∧ yX0_coming.cls ≠ "java/lang/invoke/MethodHandle" ∧ yX0_coming.cls ≠ "java/lang/invoke/VarHandle" ∧ (parseMethodDescriptor yX0_coming.desc).map (fun d => d.parameters.length) = some 1 := by decide +kernel
set_option maxHeartbeats 4000000 in
set_option maxRecDepth 100000 in
theorem mX0_coming (l : Launch) (D : va_G) (t : Nat → Nat) (cI : ClassId) (o : Nat) (ad : Nat → Nat) (sz : Nat) (u : S0) (r : Nat) (hr8 : r < 8) : gMi l yX0_coming (rw_ yX0_coming cX0_coming 2 (some .int)) (rm_ 4 0 0 89) [.ref o, .int (nI r)] D [(cI, .int)] t (ra_w cI o ad u) sz (fun v w' => v = rf_cm u r ∧ w' = ra_w cI o ad u) := by
  refine g_of (cc := cX0_coming) (nL := 2) (rt := (some .int)) (Q := fun A => va_Qi _ (fun w' U => gQ D A w' U) A) (by decide) (Nat.le_of_ble_eq_true rfl) (fun p e s m args below meth c A ls H C hrt hnm hS hP hD hl => ?_)
  have hx := C.1
  have hb := C.2.1
  have hown := C.2.2.2.1
  have hts := C.2.2.2.2.1
  have hl : lv_has ls 2 [(0, .ref o), (1, .int (nI r))] := hl
  refine lv_aload_n hx hb dX0_coming_0 rfl (lv_at hl 0 rfl) ?_
  refine lv_iload_n hx hb dX0_coming_1 rfl (lv_at hl 1 rfl) ?_
  refine lv_aload_n hx hb dX0_coming_2 rfl (lv_at hl 0 rfl) ?_
  refine x0_gf C hP 7 (by decide) (v := .ref (ad 7)) rfl rfl q18 dX0_coming_3 ?_
  refine g_ci (wr := []) (cells' := 0) (slots' := 0) rfl rfl C rd_nil hD hS (g_runV (wr := []) (n := 2) C (mX0_weekWage l D t cI o ad H.size u 7 (Or.inl rfl) r hr8) (rw_V q119 q120 q121 q2 q122) kd_X0_weekWage ⟨Nat.le_of_ble_eq_true rfl, Nat.le_of_ble_eq_true rfl⟩ (ci := 0) rfl rfl rfl C.2.2.2.2.2.1 hP hD hS hl.1 rfl rfl (Nat.le_of_ble_eq_true rfl) dX0_coming_6 ⟨Nat.le_of_ble_eq_true rfl, Nat.le_of_ble_eq_true rfl⟩) (fun v w' H locs hv _ _ hP hD hS => ?_)
  obtain ⟨rfl, rfl⟩ := hv
  have hD : va_D A (ra_w cI o ad u) := hD
  refine lv_aload_n hx hb dX0_coming_9 rfl (lv_at hl 0 rfl) ?_
  refine x0_gf C hP 5 (by decide) (v := .ref (ad 5)) rfl rfl q16 dX0_coming_10 ?_
  refine lv_iload_n hx hb dX0_coming_13 rfl (lv_at hl 1 rfl) ?_
  refine x0_ld C hP (k := 5) (i := r) (Or.inl (by decide)) hr8 rfl dX0_coming_14 ?_
  refine lv_iadd hx hb dX0_coming_15 ?_
  exact g_iret C hrt hP hD hS dX0_coming_16 ⟨by skip; rfl, by skip; rfl⟩
theorem kd_X0_takenBack : yX0_takenBack.cls = yX0_takenBack.cls ∧ yX0_takenBack.cls ≠ "java/lang/invoke/MethodHandle" ∧ yX0_takenBack.cls ≠ "java/lang/invoke/VarHandle" ∧ (parseMethodDescriptor yX0_takenBack.desc).map (fun d => d.parameters.length) = some 2 := by decide +kernel
set_option maxHeartbeats 4000000 in
set_option maxRecDepth 100000 in
theorem mX0_takenBack (l : Launch) (D : va_G) (t : Nat → Nat) (cI : ClassId) (o : Nat) (ad : Nat → Nat) (sz : Nat) (u : S0) (x1 x2 : Int32) : gMi l yX0_takenBack (rw_ yX0_takenBack cX0_takenBack 3 (some .int)) (rm_ 1 0 0 21) [.ref o, .int x1, .int x2] D [(cI, .int)] t (ra_w cI o ad u) sz (fun v w' => v = rf_tb u x1 x2 ∧ w' = ra_w cI o ad u) := by
  refine g_of (cc := cX0_takenBack) (nL := 3) (rt := (some .int)) (Q := fun A => va_Qi _ (fun w' U => gQ D A w' U) A) (by decide) (Nat.le_of_ble_eq_true rfl) (fun p e s m args below meth c A ls H C hrt hnm hS hP hD hl => ?_)
  have hx := C.1
  have hb := C.2.1
  have hown := C.2.2.2.1
  have hts := C.2.2.2.2.1
  have hl : lv_has ls 3 [(0, .ref o), (1, .int x1), (2, .int x2)] := hl
  refine lv_iload_n hx hb dX0_takenBack_0 rfl (lv_at hl 1 rfl) ?_
  refine lv_iload_n hx hb dX0_takenBack_1 rfl (lv_at hl 2 rfl) ?_
  refine lv_aload_n hx hb dX0_takenBack_2 rfl (lv_at hl 0 rfl) ?_
  refine x0_gf C hP 7 (by decide) (v := .ref (ad 7)) rfl rfl q18 dX0_takenBack_3 ?_
  refine lv_iconst (v := 4) hx hb dX0_takenBack_6 (by decide) ?_
  refine x0_ld C hP (k := 7) (i := 4) (Or.inl (by decide)) (by decide) rfl dX0_takenBack_7 ?_
  refine g_ci (wr := []) (cells' := 0) (slots' := 0) rfl rfl C rd_nil hD hS (g_runS (wr := []) (n := 2) (As := [.int x2, .int (u.1 7 4)]) C (mX0_wholeParts l D t [(cI, .int)] (ra_w cI o ad u) H.size x2 (u.1 7 4)) (rw_S q147 q148 q2 q149) kd_X0_wholeParts ⟨Nat.le_of_ble_eq_true rfl, Nat.le_of_ble_eq_true rfl⟩ C.2.2.2.2.2.1 hP hD hS hl.1 rfl rfl (Nat.le_of_ble_eq_true rfl) dX0_takenBack_8 ⟨Nat.le_of_ble_eq_true rfl, Nat.le_of_ble_eq_true rfl⟩) (fun v w' H locs hv _ _ hP hD hS => ?_)
  obtain ⟨rfl, rfl⟩ := hv
  have hD : va_D A (ra_w cI o ad u) := hD
  refine g_min C q131 q132 q125 q133 hl.1 (Nat.le_of_ble_eq_true rfl) (Nat.le_of_ble_eq_true rfl) (Nat.le_of_ble_eq_true rfl) (Nat.le_of_ble_eq_true rfl) dX0_takenBack_11 ?_
  exact g_iret C hrt hP hD hS dX0_takenBack_14 ⟨by skip; rfl, by skip; rfl⟩
theorem kd_X0_restToPay : yX0_restToPay.cls = yX0_restToPay.cls ∧ yX0_restToPay.cls ≠ "java/lang/invoke/MethodHandle" ∧ yX0_restToPay.cls ≠ "java/lang/invoke/VarHandle" ∧ (parseMethodDescriptor yX0_restToPay.desc).map (fun d => d.parameters.length) = some 1 := by decide +kernel
set_option maxHeartbeats 4000000 in
set_option maxRecDepth 100000 in
theorem mX0_restToPay (l : Launch) (D : va_G) (t : Nat → Nat) (cI : ClassId) (o : Nat) (ad : Nat → Nat) (sz : Nat) (u : S0) (r : Nat) (hr8 : r < 8) : gMi l yX0_restToPay (rw_ yX0_restToPay cX0_restToPay 3 (some .int)) (rm_ 5 0 0 110) [.ref o, .int (nI r)] D [(cI, .int)] t (ra_w cI o ad u) sz (fun v w' => v = rf_re u r ∧ w' = ra_w cI o ad u) := by
  refine g_of (cc := cX0_restToPay) (nL := 3) (rt := (some .int)) (Q := fun A => va_Qi _ (fun w' U => gQ D A w' U) A) (by decide) (Nat.le_of_ble_eq_true rfl) (fun p e s m args below meth c A ls H C hrt hnm hS hP hD hl => ?_)
  have hx := C.1
  have hb := C.2.1
  have hown := C.2.2.2.1
  have hts := C.2.2.2.2.1
  have hl : lv_has ls 3 [(0, .ref o), (1, .int (nI r))] := hl
  refine lv_aload_n hx hb dX0_restToPay_0 rfl (lv_at hl 0 rfl) ?_
  refine lv_iload_n hx hb dX0_restToPay_1 rfl (lv_at hl 1 rfl) ?_
  refine g_ci (wr := []) (cells' := 0) (slots' := 0) rfl rfl C rd_nil hD hS (g_runV (wr := []) (n := 1) C (mX0_coming l D t cI o ad H.size u r hr8) (rw_V q115 q116 q117 q2 q118) kd_X0_coming ⟨Nat.le_of_ble_eq_true rfl, Nat.le_of_ble_eq_true rfl⟩ (ci := 0) rfl rfl rfl C.2.2.2.2.2.1 hP hD hS hl.1 rfl rfl (Nat.le_of_ble_eq_true rfl) dX0_restToPay_2 ⟨Nat.le_of_ble_eq_true rfl, Nat.le_of_ble_eq_true rfl⟩) (fun v w' H locs hv _ _ hP hD hS => ?_)
  obtain ⟨rfl, rfl⟩ := hv
  have hD : va_D A (ra_w cI o ad u) := hD
  refine lv_topi (fun v1 ev1 => ?_)
  refine lv_istore_n (lv' := [(2, .int v1), (0, .ref o), (1, .int (nI r))]) hx hb dX0_restToPay_5 rfl hl (by decide) rfl (fun ls hl => ?_)
  refine lv_iload_n hx hb dX0_restToPay_6 rfl (lv_at hl 0 rfl) ?_
  refine lv_aload_n hx hb dX0_restToPay_7 rfl (lv_at hl 1 rfl) ?_
  refine lv_aload_n hx hb dX0_restToPay_8 rfl (lv_at hl 1 rfl) ?_
  refine x0_gf C hP 4 (by decide) (v := .ref (ad 4)) rfl rfl q15 dX0_restToPay_9 ?_
  refine lv_iload_n hx hb dX0_restToPay_12 rfl (lv_at hl 2 rfl) ?_
  refine x0_ld C hP (k := 4) (i := r) (Or.inl (by decide)) hr8 rfl dX0_restToPay_13 ?_
  refine lv_iload_n hx hb dX0_restToPay_14 rfl (lv_at hl 0 rfl) ?_
  refine g_ci (wr := []) (cells' := 0) (slots' := 0) rfl rfl C rd_nil hD hS (g_runV (wr := []) (n := 2) C (mX0_takenBack l D t cI o ad H.size u (u.1 4 r) v1) (rw_V q143 q144 q145 q2 q146) kd_X0_takenBack ⟨Nat.le_of_ble_eq_true rfl, Nat.le_of_ble_eq_true rfl⟩ (ci := 0) rfl rfl rfl C.2.2.2.2.2.1 hP hD hS hl.1 rfl rfl (Nat.le_of_ble_eq_true rfl) dX0_restToPay_15 ⟨Nat.le_of_ble_eq_true rfl, Nat.le_of_ble_eq_true rfl⟩) (fun v w' H locs hv _ _ hP hD hS => ?_)
  obtain ⟨rfl, rfl⟩ := hv
  have hD : va_D A (ra_w cI o ad u) := hD
  refine lv_isub hx hb dX0_restToPay_18 ?_
  exact g_iret C hrt hP hD hS dX0_restToPay_19 ⟨by subst ev1; rfl, by subst ev1; rfl⟩
theorem kd_X0_copyRow : yX0_copyRow.cls ≠ "java/lang/invoke/MethodHandle" ∧ yX0_copyRow.cls ≠ "java/lang/invoke/VarHandle" ∧ (parseMethodDescriptor yX0_copyRow.desc).map (fun d => d.parameters.length) = some 3 := by decide +kernel
set_option maxHeartbeats 4000000 in
set_option maxRecDepth 100000 in
theorem lpX0_copyRow {p : Program} {l : Launch} {e : Env} {s : State} {m : MethodId} {args : Array Value} {below : List Frame} {meth : Method} {c : Code} {Q : State → Prop} {D : va_G} {t : Nat → Nat} {A : Nat → Prop} {cI : ClassId} {o : Nat} {ad : Nat → Nat} {u : S0} {k1 k2 n0 : Nat} (C : gC p s m args meth c cX0_copyRow 4 RX0 D [(cI, .int)] t A) (hk1 : ra_ok k1) (hk2 : ra_ok k2) (hn1 : n0 ≤ ra_len k1) (hn2 : n0 ≤ ra_len k2) (hn8 : n0 ≤ 8) (kk : ∀ (H : Heap) (locs : List Loc) (ls : Array Slot), va_P D vwCl (ra_w cI o ad (rf_cp u k1 k2 n0)) H → va_D A (ra_w cI o ad (rf_cp u k1 k2 n0)) → va_S A s.heap H locs → lv_has ls 4 [(0, .ref (ad k1)), (1, .ref (ad k2)), (2, .int (nI n0)), (3, .int (nI n0))] → W p l e (rm_ 0 0 0 0) s m args below meth c H locs 0 0 Q (F0 m 19 ls [])) :
    ∀ (n i : Nat), i + n = n0 → ∀ (H : Heap) (locs : List Loc) (ls : Array Slot), va_P D vwCl (ra_w cI o ad (rf_cp u k1 k2 i)) H → va_D A (ra_w cI o ad (rf_cp u k1 k2 i)) → va_S A s.heap H locs → lv_has ls 4 [(0, .ref (ad k1)), (1, .ref (ad k2)), (2, .int (nI n0)), (3, .int (nI i))] → W p l e (rm_ 0 0 0 0) s m args below meth c H locs 0 0 Q (F0 m 2 ls []) := by
  have hx := C.1
  have hb := C.2.1
  have hown := C.2.2.2.1
  have hts := C.2.2.2.2.1
  intro n
  induction n with
  | zero =>
    intro i hi H locs ls hP hD hS hl
    have hiN : i = n0 := by omega
    refine lv_iload_n hx hb dX0_copyRow_2 rfl (lv_at hl 3 rfl) ?_
    refine lv_iload_n hx hb dX0_copyRow_3 rfl (lv_at hl 2 rfl) ?_
    refine lv_icmp_ge (tgt := 19) hx hb dX0_copyRow_4 (by decide) (fun c1 => ?_) (fun c1 => absurd ((nI_leI (a := n0) (b := i) (by omega) (by omega)).mpr (by omega)) c1)
    subst hiN
    exact kk _ _ _ hP hD hS (lv_sub hl [0, 1, 2, 3] rfl)
  | succ n ih =>
    intro i hi H locs ls hP hD hS hl
    have hin : i < n0 := by omega
    refine lv_iload_n hx hb dX0_copyRow_2 rfl (lv_at hl 3 rfl) ?_
    refine lv_iload_n hx hb dX0_copyRow_3 rfl (lv_at hl 2 rfl) ?_
    refine lv_icmp_ge (tgt := 19) hx hb dX0_copyRow_4 (by decide) (fun c1 => absurd c1 (fun h9 => absurd ((nI_leI (a := n0) (b := i) (by omega) (by omega)).mp h9) (by omega))) (fun c1 => ?_)
    refine lv_aload_n hx hb dX0_copyRow_7 rfl (lv_at hl 1 rfl) ?_
    refine lv_iload_n hx hb dX0_copyRow_8 rfl (lv_at hl 3 rfl) ?_
    refine lv_aload_n hx hb dX0_copyRow_9 rfl (lv_at hl 0 rfl) ?_
    refine lv_iload_n hx hb dX0_copyRow_10 rfl (lv_at hl 3 rfl) ?_
    refine x0_ld C hP (k := k1) (i := i) hk1 (by omega) rfl dX0_copyRow_11 ?_
    refine x0_st C hP hD hS (k := k2) (i := i) hk2 (by omega) rfl dX0_copyRow_12 (fun H locs hP hD hS => ?_)
    obtain ⟨u2, eu2⟩ : ∃ z : S0, z = ra_s (rf_cp u k1 k2 i) k2 i ((rf_cp u k1 k2 i).1 k1 i) := ⟨_, rfl⟩
    have hP : va_P D vwCl (ra_w cI o ad u2) H := by rw [eu2]; exact hP
    have hD : va_D A (ra_w cI o ad u2) := by rw [eu2]; exact hD
    refine lv_iinc (v := nI (i + 1)) (lv' := [(3, .int (nI (i + 1))), (0, .ref (ad k1)), (1, .ref (ad k2)), (2, .int (nI n0))]) hx hb dX0_copyRow_13 hl (k := 3) rfl (nI_1 _) (by decide) rfl (fun ls hl => ?_)
    refine lv_goto (tgt := 2) hx hb dX0_copyRow_16 (by decide) ?_
    subst eu2
    exact ih (i + 1) (by omega) _ _ _ hP hD hS (lv_sub hl [1, 2, 3, 0] rfl)
set_option maxHeartbeats 4000000 in
set_option maxRecDepth 100000 in
theorem mX0_copyRow (l : Launch) (D : va_G) (t : Nat → Nat) (cI : ClassId) (o : Nat) (ad : Nat → Nat) (sz : Nat) (u : S0) (k1 k2 n0 : Nat) (hk1 : ra_ok k1) (hk2 : ra_ok k2) (hn1 : n0 ≤ ra_len k1) (hn2 : n0 ≤ ra_len k2) (hn8 : n0 ≤ 8) : gMv l yX0_copyRow (rw_ yX0_copyRow cX0_copyRow 4 none) (rm_ 0 0 0 0) [.ref (ad k1), .ref (ad k2), .int (nI n0)] D [(cI, .int)] t (ra_w cI o ad u) sz (fun w' => w' = ra_w cI o ad (rf_cp u k1 k2 n0)) := by
  refine g_of (cc := cX0_copyRow) (nL := 4) (rt := none) (Q := fun A => va_Qv _ (fun w' U => gQ D A w' U) A) (by decide) (Nat.le_of_ble_eq_true rfl) (fun p e s m args below meth c A ls H C hrt hnm hS hP hD hl => ?_)
  have hx := C.1
  have hb := C.2.1
  have hown := C.2.2.2.1
  have hts := C.2.2.2.2.1
  have hl : lv_has ls 4 [(0, .ref (ad k1)), (1, .ref (ad k2)), (2, .int (nI n0))] := hl
  refine lv_iconst (v := 0) hx hb dX0_copyRow_0 (by decide) ?_
  refine lv_istore_n (lv' := [(3, .int 0), (0, .ref (ad k1)), (1, .ref (ad k2)), (2, .int (nI n0))]) hx hb dX0_copyRow_1 rfl hl (by decide) rfl (fun ls hl => ?_)
  refine lpX0_copyRow  C hk1 hk2 hn1 hn2 hn8 (fun H locs ls hP hD hS hl => ?_) n0 0 (by omega) _ _ _ hP hD hS (lv_sub hl [1, 2, 3, 0] rfl)
  exact g_vret C hrt hP hD hS dX0_copyRow_19 (by skip; rfl)
theorem kd_X0_handOut : yX0_handOut.cls = yX0_handOut.cls ∧ yX0_handOut.cls ≠ "java/lang/invoke/MethodHandle" ∧ yX0_handOut.cls ≠ "java/lang/invoke/VarHandle" ∧ (parseMethodDescriptor yX0_handOut.desc).map (fun d => d.parameters.length) = some 2 := by decide +kernel
set_option maxHeartbeats 4000000 in
set_option maxRecDepth 100000 in
theorem lpX0_handOut {p : Program} {l : Launch} {e : Env} {s : State} {m : MethodId} {args : Array Value} {below : List Frame} {meth : Method} {c : Code} {Q : State → Prop} {D : va_G} {t : Nat → Nat} {A : Nat → Prop} {cI : ClassId} {o : Nat} {ad : Nat → Nat} {u : S0} {k : Nat} {sm : Int32} (C : gC p s m args meth c cX0_handOut 6 RX0 D [(cI, .int)] t A) (hk : k = 8 ∨ k = 12) (kk : ∀ (H : Heap) (locs : List Loc) (ls : Array Slot), va_P D vwCl (ra_w cI o ad ((rf_ho u k sm 3).2)) H → va_D A (ra_w cI o ad ((rf_ho u k sm 3).2)) → va_S A s.heap H locs → lv_has ls 6 [(0, .ref o), (1, .ref (ad k)), (2, .int sm), (3, .int ((rf_ho u k sm 3).1)), (4, .int (nI 3))] → W p l e (rm_ 1 0 0 21) s m args below meth c H locs 0 0 Q (F0 m 66 ls [])) :
    ∀ (n i : Nat), i + n = 3 → ∀ (H : Heap) (locs : List Loc) (ls : Array Slot), va_P D vwCl (ra_w cI o ad ((rf_ho u k sm i).2)) H → va_D A (ra_w cI o ad ((rf_ho u k sm i).2)) → va_S A s.heap H locs → lv_has ls 6 [(0, .ref o), (1, .ref (ad k)), (2, .int sm), (3, .int ((rf_ho u k sm i).1)), (4, .int (nI i))] → W p l e (rm_ 1 0 0 21) s m args below meth c H locs 0 0 Q (F0 m 5 ls []) := by
  have hx := C.1
  have hb := C.2.1
  have hown := C.2.2.2.1
  have hts := C.2.2.2.2.1
  intro n
  induction n with
  | zero =>
    intro i hi H locs ls hP hD hS hl
    have hiN : i = 3 := by omega
    refine lv_iload hx hb dX0_handOut_5 (lv_at hl 4 rfl) ?_
    refine lv_iconst (v := 3) hx hb dX0_handOut_7 (by decide) ?_
    refine lv_icmp_ge (tgt := 66) hx hb dX0_handOut_8 (by decide) (fun c1 => ?_) (fun c1 => absurd ((nI_leI (a := 3) (b := i) (by omega) (by omega)).mpr (by omega)) c1)
    subst hiN
    exact kk _ _ _ hP hD hS (lv_sub hl [0, 1, 2, 3, 4] rfl)
  | succ n ih =>
    intro i hi H locs ls hP hD hS hl
    have hin : i < 3 := by omega
    refine lv_iload hx hb dX0_handOut_5 (lv_at hl 4 rfl) ?_
    refine lv_iconst (v := 3) hx hb dX0_handOut_7 (by decide) ?_
    refine lv_icmp_ge (tgt := 66) hx hb dX0_handOut_8 (by decide) (fun c1 => absurd c1 (fun h9 => absurd ((nI_leI (a := 3) (b := i) (by omega) (by omega)).mp h9) (by omega))) (fun c1 => ?_)
    refine lv_iload_n hx hb dX0_handOut_11 rfl (lv_at hl 3 rfl) ?_
    refine g_gs C hS (C.2.2.2.2.2.2.2.1.2.2.2.2.1) q154 dX0_handOut_12 ?_
    refine lv_iload hx hb dX0_handOut_15 (lv_at hl 4 rfl) ?_
    refine g_ti C hS (N := 3) (i := i) (f := rt_RX0_COIN_WORTH) C.2.2.2.2.2.2.2.1.2.2.2.2.2.1 (by decide) hin rfl dX0_handOut_17 ?_
    refine g_ci (wr := []) (cells' := 0) (slots' := 0) rfl rfl C rd_nil hD hS (g_runS (wr := []) (n := 2) (As := [.int ((rf_ho u k sm i).1), .int (rt_RX0_COIN_WORTH i)]) C (mX0_wholeParts l D t [(cI, .int)] (ra_w cI o ad ((rf_ho u k sm i).2)) H.size ((rf_ho u k sm i).1) (rt_RX0_COIN_WORTH i)) (rw_S q147 q148 q2 q149) kd_X0_wholeParts ⟨Nat.le_of_ble_eq_true rfl, Nat.le_of_ble_eq_true rfl⟩ C.2.2.2.2.2.1 hP hD hS hl.1 rfl rfl (Nat.le_of_ble_eq_true rfl) dX0_handOut_18 ⟨Nat.le_of_ble_eq_true rfl, Nat.le_of_ble_eq_true rfl⟩) (fun v w' H locs hv _ _ hP hD hS => ?_)
    obtain ⟨rfl, rfl⟩ := hv
    have hD : va_D A (ra_w cI o ad ((rf_ho u k sm i).2)) := hD
    refine lv_aload_n hx hb dX0_handOut_21 rfl (lv_at hl 1 rfl) ?_
    refine lv_iload hx hb dX0_handOut_22 (lv_at hl 4 rfl) ?_
    refine x0_ld C hP (k := k) (i := i) (Or.elim hk (fun h => h ▸ Or.inl (by decide)) (fun h => h ▸ Or.inr ⟨by decide, by decide⟩)) (by rcases hk with rfl | rfl <;> exact hin) rfl dX0_handOut_24 ?_
    refine g_min C q131 q132 q125 q133 hl.1 (Nat.le_of_ble_eq_true rfl) (Nat.le_of_ble_eq_true rfl) (Nat.le_of_ble_eq_true rfl) (Nat.le_of_ble_eq_true rfl) dX0_handOut_25 ?_
    refine lv_topi (fun v2 ev2 => ?_)
    refine lv_istore (lv' := [(5, .int v2), (0, .ref o), (1, .ref (ad k)), (2, .int sm), (3, .int ((rf_ho u k sm i).1)), (4, .int (nI i))]) hx hb dX0_handOut_28 hl (by decide) rfl (fun ls hl => ?_)
    refine lv_aload_n hx hb dX0_handOut_30 rfl (lv_at hl 2 rfl) ?_
    refine lv_iload hx hb dX0_handOut_31 (lv_at hl 5 rfl) ?_
    refine lv_dup2_11 hx hb dX0_handOut_33 rfl rfl ?_
    refine x0_ld C hP (k := k) (i := i) (Or.elim hk (fun h => h ▸ Or.inl (by decide)) (fun h => h ▸ Or.inr ⟨by decide, by decide⟩)) (by rcases hk with rfl | rfl <;> exact hin) rfl dX0_handOut_34 ?_
    refine lv_iload hx hb dX0_handOut_35 (lv_at hl 0 rfl) ?_
    refine lv_isub hx hb dX0_handOut_37 ?_
    refine x0_st C hP hD hS (k := k) (i := i) (Or.elim hk (fun h => h ▸ Or.inl (by decide)) (fun h => h ▸ Or.inr ⟨by decide, by decide⟩)) (by rcases hk with rfl | rfl <;> exact hin) rfl dX0_handOut_38 (fun H locs hP hD hS => ?_)
    obtain ⟨u3, eu3⟩ : ∃ z : S0, z = ra_s ((rf_ho u k sm i).2) k i ((((rf_ho u k sm i).2).1 k i) - v2) := ⟨_, rfl⟩
    have hP : va_P D vwCl (ra_w cI o ad u3) H := by rw [eu3]; exact hP
    have hD : va_D A (ra_w cI o ad u3) := by rw [eu3]; exact hD
    refine lv_aload_n hx hb dX0_handOut_39 rfl (lv_at hl 1 rfl) ?_
    refine x0_gf C hP 13 (by decide) (v := .ref (ad 13)) rfl rfl q22 dX0_handOut_40 ?_
    refine lv_iload hx hb dX0_handOut_43 (lv_at hl 5 rfl) ?_
    refine lv_iload hx hb dX0_handOut_45 (lv_at hl 0 rfl) ?_
    refine x0_st C hP hD hS (k := 13) (i := i) (Or.inr ⟨by decide, by decide⟩) hin rfl dX0_handOut_47 (fun H locs hP hD hS => ?_)
    obtain ⟨u4, eu4⟩ : ∃ z : S0, z = ra_s u3 13 i v2 := ⟨_, rfl⟩
    have hP : va_P D vwCl (ra_w cI o ad u4) H := by rw [eu4]; exact hP
    have hD : va_D A (ra_w cI o ad u4) := by rw [eu4]; exact hD
    refine lv_iload_n hx hb dX0_handOut_48 rfl (lv_at hl 4 rfl) ?_
    refine lv_iload hx hb dX0_handOut_49 (lv_at hl 0 rfl) ?_
    refine g_gs C hS (C.2.2.2.2.2.2.2.1.2.2.2.2.1) q154 dX0_handOut_51 ?_
    refine lv_iload hx hb dX0_handOut_54 (lv_at hl 5 rfl) ?_
    refine g_ti C hS (N := 3) (i := i) (f := rt_RX0_COIN_WORTH) C.2.2.2.2.2.2.2.1.2.2.2.2.2.1 (by decide) hin rfl dX0_handOut_56 ?_
    refine lv_imul hx hb dX0_handOut_57 ?_
    refine lv_isub hx hb dX0_handOut_58 ?_
    refine lv_topi (fun v5 ev5 => ?_)
    refine lv_istore_n (lv' := [(3, .int v5), (5, .int v2), (0, .ref o), (1, .ref (ad k)), (2, .int sm), (4, .int (nI i))]) hx hb dX0_handOut_59 rfl hl (by decide) rfl (fun ls hl => ?_)
    refine lv_iinc (v := nI (i + 1)) (lv' := [(4, .int (nI (i + 1))), (3, .int v5), (5, .int v2), (0, .ref o), (1, .ref (ad k)), (2, .int sm)]) hx hb dX0_handOut_60 hl (k := 5) rfl (nI_1 _) (by decide) rfl (fun ls hl => ?_)
    refine lv_goto (tgt := 5) hx hb dX0_handOut_63 (by decide) ?_
    subst ev5; subst eu4; subst eu3; subst ev2
    exact ih (i + 1) (by omega) _ _ _ hP hD hS (lv_sub hl [3, 4, 5, 1, 0] rfl)
set_option maxHeartbeats 4000000 in
set_option maxRecDepth 100000 in
theorem mX0_handOut (l : Launch) (D : va_G) (t : Nat → Nat) (cI : ClassId) (o : Nat) (ad : Nat → Nat) (sz : Nat) (u : S0) (k : Nat) (hk : k = 8 ∨ k = 12) (sm : Int32) : gMi l yX0_handOut (rw_ yX0_handOut cX0_handOut 6 (some .int)) (rm_ 1 0 0 21) [.ref o, .ref (ad k), .int sm] D [(cI, .int)] t (ra_w cI o ad u) sz (fun v w' => v = rf_hv u k sm ∧ w' = ra_w cI o ad (rf_hs u k sm)) := by
  refine g_of (cc := cX0_handOut) (nL := 6) (rt := (some .int)) (Q := fun A => va_Qi _ (fun w' U => gQ D A w' U) A) (by decide) (Nat.le_of_ble_eq_true rfl) (fun p e s m args below meth c A ls H C hrt hnm hS hP hD hl => ?_)
  have hx := C.1
  have hb := C.2.1
  have hown := C.2.2.2.1
  have hts := C.2.2.2.2.1
  have hl : lv_has ls 6 [(0, .ref o), (1, .ref (ad k)), (2, .int sm)] := hl
  refine lv_iload_n hx hb dX0_handOut_0 rfl (lv_at hl 2 rfl) ?_
  refine lv_istore_n (lv' := [(3, .int sm), (0, .ref o), (1, .ref (ad k)), (2, .int sm)]) hx hb dX0_handOut_1 rfl hl (by decide) rfl (fun ls hl => ?_)
  refine lv_iconst (v := 0) hx hb dX0_handOut_2 (by decide) ?_
  refine lv_istore (lv' := [(4, .int 0), (3, .int sm), (0, .ref o), (1, .ref (ad k)), (2, .int sm)]) hx hb dX0_handOut_3 hl (by decide) rfl (fun ls hl => ?_)
  refine lpX0_handOut  C hk (fun H locs ls hP hD hS hl => ?_) 3 0 (by omega) _ _ _ hP hD hS (lv_sub hl [2, 3, 4, 1, 0] rfl)
  refine lv_iload_n hx hb dX0_handOut_66 rfl (lv_at hl 2 rfl) ?_
  refine lv_iload_n hx hb dX0_handOut_67 rfl (lv_at hl 3 rfl) ?_
  refine lv_isub hx hb dX0_handOut_68 ?_
  exact g_iret C hrt hP hD hS dX0_handOut_69 ⟨by skip; rfl, by skip; rfl⟩
theorem kd_X0_settle : yX0_settle.cls = yX0_settle.cls ∧ yX0_settle.cls ≠ "java/lang/invoke/MethodHandle" ∧ yX0_settle.cls ≠ "java/lang/invoke/VarHandle" ∧ (parseMethodDescriptor yX0_settle.desc).map (fun d => d.parameters.length) = some 1 := by decide +kernel
set_option maxHeartbeats 4000000 in
set_option maxRecDepth 100000 in
theorem mX0_settle (l : Launch) (D : va_G) (t : Nat → Nat) (cI : ClassId) (o : Nat) (ad : Nat → Nat) (sz : Nat) (u : S0) (r : Nat) (hr8 : r < 8) : gMi l yX0_settle (rw_ yX0_settle cX0_settle 5 (some .int)) (rm_ 5 0 0 110) [.ref o, .int (nI r)] D [(cI, .int)] t (ra_w cI o ad u) sz (fun v w' => v = rf_sv u r ∧ w' = ra_w cI o ad (rf_st u r)) := by
  refine g_of (cc := cX0_settle) (nL := 5) (rt := (some .int)) (Q := fun A => va_Qi _ (fun w' U => gQ D A w' U) A) (by decide) (Nat.le_of_ble_eq_true rfl) (fun p e s m args below meth c A ls H C hrt hnm hS hP hD hl => ?_)
  have hx := C.1
  have hb := C.2.1
  have hown := C.2.2.2.1
  have hts := C.2.2.2.2.1
  have hl : lv_has ls 5 [(0, .ref o), (1, .int (nI r))] := hl
  refine lv_aload_n hx hb dX0_settle_0 rfl (lv_at hl 0 rfl) ?_
  refine lv_iload_n hx hb dX0_settle_1 rfl (lv_at hl 1 rfl) ?_
  refine g_ci (wr := []) (cells' := 0) (slots' := 0) rfl rfl C rd_nil hD hS (g_runV (wr := []) (n := 1) C (mX0_coming l D t cI o ad H.size u r hr8) (rw_V q115 q116 q117 q2 q118) kd_X0_coming ⟨Nat.le_of_ble_eq_true rfl, Nat.le_of_ble_eq_true rfl⟩ (ci := 0) rfl rfl rfl C.2.2.2.2.2.1 hP hD hS hl.1 rfl rfl (Nat.le_of_ble_eq_true rfl) dX0_settle_2 ⟨Nat.le_of_ble_eq_true rfl, Nat.le_of_ble_eq_true rfl⟩) (fun v w' H locs hv _ _ hP hD hS => ?_)
  obtain ⟨rfl, rfl⟩ := hv
  have hD : va_D A (ra_w cI o ad u) := hD
  refine lv_topi (fun v1 ev1 => ?_)
  refine lv_istore_n (lv' := [(2, .int v1), (0, .ref o), (1, .int (nI r))]) hx hb dX0_settle_5 rfl hl (by decide) rfl (fun ls hl => ?_)
  refine lv_aload_n hx hb dX0_settle_6 rfl (lv_at hl 1 rfl) ?_
  refine lv_aload_n hx hb dX0_settle_7 rfl (lv_at hl 1 rfl) ?_
  refine x0_gf C hP 4 (by decide) (v := .ref (ad 4)) rfl rfl q15 dX0_settle_8 ?_
  refine lv_iload_n hx hb dX0_settle_11 rfl (lv_at hl 2 rfl) ?_
  refine x0_ld C hP (k := 4) (i := r) (Or.inl (by decide)) hr8 rfl dX0_settle_12 ?_
  refine lv_iload_n hx hb dX0_settle_13 rfl (lv_at hl 0 rfl) ?_
  refine g_ci (wr := []) (cells' := 0) (slots' := 0) rfl rfl C rd_nil hD hS (g_runV (wr := []) (n := 2) C (mX0_takenBack l D t cI o ad H.size u (u.1 4 r) v1) (rw_V q143 q144 q145 q2 q146) kd_X0_takenBack ⟨Nat.le_of_ble_eq_true rfl, Nat.le_of_ble_eq_true rfl⟩ (ci := 0) rfl rfl rfl C.2.2.2.2.2.1 hP hD hS hl.1 rfl rfl (Nat.le_of_ble_eq_true rfl) dX0_settle_14 ⟨Nat.le_of_ble_eq_true rfl, Nat.le_of_ble_eq_true rfl⟩) (fun v w' H locs hv _ _ hP hD hS => ?_)
  obtain ⟨rfl, rfl⟩ := hv
  have hD : va_D A (ra_w cI o ad u) := hD
  refine lv_topi (fun v2 ev2 => ?_)
  refine lv_istore_n (lv' := [(3, .int v2), (2, .int v1), (0, .ref o), (1, .int (nI r))]) hx hb dX0_settle_17 rfl hl (by decide) rfl (fun ls hl => ?_)
  refine lv_aload_n hx hb dX0_settle_18 rfl (lv_at hl 2 rfl) ?_
  refine lv_aload_n hx hb dX0_settle_19 rfl (lv_at hl 2 rfl) ?_
  refine x0_gf C hP 8 (by decide) (v := .ref (ad 8)) rfl rfl q19 dX0_settle_20 ?_
  refine lv_iload_n hx hb dX0_settle_23 rfl (lv_at hl 1 rfl) ?_
  refine lv_iload_n hx hb dX0_settle_24 rfl (lv_at hl 0 rfl) ?_
  refine lv_isub hx hb dX0_settle_25 ?_
  refine g_ci (wr := []) (cells' := 0) (slots' := 0) rfl rfl C rd_nil hD hS (g_runV (wr := []) (n := 2) C (mX0_handOut l D t cI o ad H.size u 8 (Or.inl rfl) (v1 - v2)) (rw_V q150 q151 q152 q2 q153) kd_X0_handOut ⟨Nat.le_of_ble_eq_true rfl, Nat.le_of_ble_eq_true rfl⟩ (ci := 0) rfl rfl rfl C.2.2.2.2.2.1 hP hD hS hl.1 rfl rfl (Nat.le_of_ble_eq_true rfl) dX0_settle_26 ⟨Nat.le_of_ble_eq_true rfl, Nat.le_of_ble_eq_true rfl⟩) (fun v w' H locs hv _ _ hP hD hS => ?_)
  obtain ⟨rfl, rfl⟩ := hv
  have hD : va_D A (ra_w cI o ad (rf_hs u 8 (v1 - v2))) := hD
  obtain ⟨u3, eu3⟩ : ∃ z : S0, z = rf_hs u 8 (v1 - v2) := ⟨_, rfl⟩
  have hP : va_P D vwCl (ra_w cI o ad u3) H := by rw [eu3]; exact hP
  have hD : va_D A (ra_w cI o ad u3) := by rw [eu3]; exact hD
  refine lv_topi (fun v4 ev4 => ?_)
  refine lv_istore (lv' := [(4, .int v4), (3, .int v2), (2, .int v1), (0, .ref o), (1, .int (nI r))]) hx hb dX0_settle_29 hl (by decide) rfl (fun ls hl => ?_)
  refine lv_aload_n hx hb dX0_settle_31 rfl (lv_at hl 3 rfl) ?_
  refine x0_gf C hP 4 (by decide) (v := .ref (ad 4)) rfl rfl q15 dX0_settle_32 ?_
  refine lv_iload_n hx hb dX0_settle_35 rfl (lv_at hl 4 rfl) ?_
  refine lv_dup2_11 hx hb dX0_settle_36 rfl rfl ?_
  refine x0_ld C hP (k := 4) (i := r) (Or.inl (by decide)) hr8 rfl dX0_settle_37 ?_
  refine lv_iload_n hx hb dX0_settle_38 rfl (lv_at hl 1 rfl) ?_
  refine lv_isub hx hb dX0_settle_39 ?_
  refine x0_st C hP hD hS (k := 4) (i := r) (Or.inl (by decide)) hr8 rfl dX0_settle_40 (fun H locs hP hD hS => ?_)
  obtain ⟨u5, eu5⟩ : ∃ z : S0, z = ra_s u3 4 r ((u3.1 4 r) - v2) := ⟨_, rfl⟩
  have hP : va_P D vwCl (ra_w cI o ad u5) H := by rw [eu5]; exact hP
  have hD : va_D A (ra_w cI o ad u5) := by rw [eu5]; exact hD
  refine lv_aload_n hx hb dX0_settle_41 rfl (lv_at hl 3 rfl) ?_
  refine x0_gf C hP 5 (by decide) (v := .ref (ad 5)) rfl rfl q16 dX0_settle_42 ?_
  refine lv_iload_n hx hb dX0_settle_45 rfl (lv_at hl 4 rfl) ?_
  refine lv_iload_n hx hb dX0_settle_46 rfl (lv_at hl 2 rfl) ?_
  refine lv_iload_n hx hb dX0_settle_47 rfl (lv_at hl 1 rfl) ?_
  refine lv_isub hx hb dX0_settle_48 ?_
  refine lv_iload hx hb dX0_settle_49 (lv_at hl 0 rfl) ?_
  refine lv_isub hx hb dX0_settle_51 ?_
  refine x0_st C hP hD hS (k := 5) (i := r) (Or.inl (by decide)) hr8 rfl dX0_settle_52 (fun H locs hP hD hS => ?_)
  obtain ⟨u6, eu6⟩ : ∃ z : S0, z = ra_s u5 5 r ((v1 - v2) - v4) := ⟨_, rfl⟩
  have hP : va_P D vwCl (ra_w cI o ad u6) H := by rw [eu6]; exact hP
  have hD : va_D A (ra_w cI o ad u6) := by rw [eu6]; exact hD
  refine lv_aload_n hx hb dX0_settle_53 rfl (lv_at hl 3 rfl) ?_
  refine x0_gf C hP 6 (by decide) (v := .ref (ad 6)) rfl rfl q17 dX0_settle_54 ?_
  refine lv_iload_n hx hb dX0_settle_57 rfl (lv_at hl 4 rfl) ?_
  refine lv_dup2_11 hx hb dX0_settle_58 rfl rfl ?_
  refine x0_ld C hP (k := 6) (i := r) (Or.inl (by decide)) hr8 rfl dX0_settle_59 ?_
  refine lv_iload hx hb dX0_settle_60 (lv_at hl 0 rfl) ?_
  refine lv_iadd hx hb dX0_settle_62 ?_
  refine x0_st C hP hD hS (k := 6) (i := r) (Or.inl (by decide)) hr8 rfl dX0_settle_63 (fun H locs hP hD hS => ?_)
  obtain ⟨u7, eu7⟩ : ∃ z : S0, z = ra_s u6 6 r ((u6.1 6 r) + v4) := ⟨_, rfl⟩
  have hP : va_P D vwCl (ra_w cI o ad u7) H := by rw [eu7]; exact hP
  have hD : va_D A (ra_w cI o ad u7) := by rw [eu7]; exact hD
  refine lv_aload_n hx hb dX0_settle_64 rfl (lv_at hl 3 rfl) ?_
  refine x0_gf C hP 1 (by decide) (v := .ref (ad 1)) rfl rfl q12 dX0_settle_65 ?_
  refine lv_iload_n hx hb dX0_settle_68 rfl (lv_at hl 4 rfl) ?_
  refine lv_iconst (v := 0) hx hb dX0_settle_69 (by decide) ?_
  refine x0_st C hP hD hS (k := 1) (i := r) (Or.inl (by decide)) hr8 rfl dX0_settle_70 (fun H locs hP hD hS => ?_)
  obtain ⟨u8, eu8⟩ : ∃ z : S0, z = ra_s u7 1 r 0 := ⟨_, rfl⟩
  have hP : va_P D vwCl (ra_w cI o ad u8) H := by rw [eu8]; exact hP
  have hD : va_D A (ra_w cI o ad u8) := by rw [eu8]; exact hD
  refine lv_aload_n hx hb dX0_settle_71 rfl (lv_at hl 3 rfl) ?_
  refine x0_gf C hP 2 (by decide) (v := .ref (ad 2)) rfl rfl q13 dX0_settle_72 ?_
  refine lv_iload_n hx hb dX0_settle_75 rfl (lv_at hl 4 rfl) ?_
  refine lv_iconst (v := 0) hx hb dX0_settle_76 (by decide) ?_
  refine x0_st C hP hD hS (k := 2) (i := r) (Or.inl (by decide)) hr8 rfl dX0_settle_77 (fun H locs hP hD hS => ?_)
  obtain ⟨u9, eu9⟩ : ∃ z : S0, z = ra_s u8 2 r 0 := ⟨_, rfl⟩
  have hP : va_P D vwCl (ra_w cI o ad u9) H := by rw [eu9]; exact hP
  have hD : va_D A (ra_w cI o ad u9) := by rw [eu9]; exact hD
  refine lv_aload_n hx hb dX0_settle_78 rfl (lv_at hl 3 rfl) ?_
  refine x0_gf C hP 3 (by decide) (v := .ref (ad 3)) rfl rfl q14 dX0_settle_79 ?_
  refine lv_iload_n hx hb dX0_settle_82 rfl (lv_at hl 4 rfl) ?_
  refine lv_iconst (v := 0) hx hb dX0_settle_83 (by decide) ?_
  refine x0_st C hP hD hS (k := 3) (i := r) (Or.inl (by decide)) hr8 rfl dX0_settle_84 (fun H locs hP hD hS => ?_)
  obtain ⟨u10, eu10⟩ : ∃ z : S0, z = ra_s u9 3 r 0 := ⟨_, rfl⟩
  have hP : va_P D vwCl (ra_w cI o ad u10) H := by rw [eu10]; exact hP
  have hD : va_D A (ra_w cI o ad u10) := by rw [eu10]; exact hD
  refine lv_iload hx hb dX0_settle_85 (lv_at hl 0 rfl) ?_
  exact g_iret C hrt hP hD hS dX0_settle_87 ⟨by subst eu10; subst eu9; subst eu8; subst eu7; subst eu6; subst eu5; subst ev4; subst eu3; subst ev2; subst ev1; rfl, by subst eu10; subst eu9; subst eu8; subst eu7; subst eu6; subst eu5; subst ev4; subst eu3; subst ev2; subst ev1; rfl⟩
theorem kd_X0_allWages : yX0_allWages.cls = yX0_allWages.cls ∧ yX0_allWages.cls ≠ "java/lang/invoke/MethodHandle" ∧ yX0_allWages.cls ≠ "java/lang/invoke/VarHandle" ∧ (parseMethodDescriptor yX0_allWages.desc).map (fun d => d.parameters.length) = some 1 := by decide +kernel
set_option maxHeartbeats 4000000 in
set_option maxRecDepth 100000 in
theorem lpX0_allWages {p : Program} {l : Launch} {e : Env} {s : State} {m : MethodId} {args : Array Value} {below : List Frame} {meth : Method} {c : Code} {Q : State → Prop} {D : va_G} {t : Nat → Nat} {A : Nat → Prop} {cI : ClassId} {o : Nat} {ad : Nat → Nat} {u : S0} {k : Nat} (C : gC p s m args meth c cX0_allWages 4 RX0 D [(cI, .int)] t A) (hh : u.2.1 ≤ 8) (hk : k = 7 ∨ k = 11) (kk : ∀ (H : Heap) (locs : List Loc) (ls : Array Slot), va_P D vwCl (ra_w cI o ad u) H → va_D A (ra_w cI o ad u) → va_S A s.heap H locs → lv_has ls 4 [(0, .ref o), (1, .ref (ad k)), (2, .int (rf_sm (rf_ww u k) u.2.1)), (3, .int (nI u.2.1))] → W p l e (rm_ 4 0 0 89) s m args below meth c H locs 0 0 Q (F0 m 27 ls [])) :
    ∀ (n i : Nat), i + n = u.2.1 → ∀ (H : Heap) (locs : List Loc) (ls : Array Slot), va_P D vwCl (ra_w cI o ad u) H → va_D A (ra_w cI o ad u) → va_S A s.heap H locs → lv_has ls 4 [(0, .ref o), (1, .ref (ad k)), (2, .int (rf_sm (rf_ww u k) i)), (3, .int (nI i))] → W p l e (rm_ 4 0 0 89) s m args below meth c H locs 0 0 Q (F0 m 4 ls []) := by
  have hx := C.1
  have hb := C.2.1
  have hown := C.2.2.2.1
  have hts := C.2.2.2.2.1
  intro n
  induction n with
  | zero =>
    intro i hi H locs ls hP hD hS hl
    have hiN : i = u.2.1 := by omega
    refine lv_iload_n hx hb dX0_allWages_4 rfl (lv_at hl 3 rfl) ?_
    refine lv_aload_n hx hb dX0_allWages_5 rfl (lv_at hl 0 rfl) ?_
    refine x0_gf C hP 9 (by decide) (v := .int (nI u.2.1)) rfl rfl q66 dX0_allWages_6 ?_
    refine lv_icmp_ge (tgt := 27) hx hb dX0_allWages_9 (by decide) (fun c1 => ?_) (fun c1 => absurd ((nI_leI (a := u.2.1) (b := i) (by omega) (by omega)).mpr (by omega)) c1)
    subst hiN
    exact kk _ _ _ hP hD hS (lv_sub hl [0, 1, 2, 3] rfl)
  | succ n ih =>
    intro i hi H locs ls hP hD hS hl
    have hin : i < u.2.1 := by omega
    refine lv_iload_n hx hb dX0_allWages_4 rfl (lv_at hl 3 rfl) ?_
    refine lv_aload_n hx hb dX0_allWages_5 rfl (lv_at hl 0 rfl) ?_
    refine x0_gf C hP 9 (by decide) (v := .int (nI u.2.1)) rfl rfl q66 dX0_allWages_6 ?_
    refine lv_icmp_ge (tgt := 27) hx hb dX0_allWages_9 (by decide) (fun c1 => absurd c1 (fun h9 => absurd ((nI_leI (a := u.2.1) (b := i) (by omega) (by omega)).mp h9) (by omega))) (fun c1 => ?_)
    refine lv_iload_n hx hb dX0_allWages_12 rfl (lv_at hl 2 rfl) ?_
    refine lv_aload_n hx hb dX0_allWages_13 rfl (lv_at hl 0 rfl) ?_
    refine lv_iload_n hx hb dX0_allWages_14 rfl (lv_at hl 3 rfl) ?_
    refine lv_aload_n hx hb dX0_allWages_15 rfl (lv_at hl 1 rfl) ?_
    refine g_ci (wr := []) (cells' := 0) (slots' := 0) rfl rfl C rd_nil hD hS (g_runV (wr := []) (n := 2) C (mX0_weekWage l D t cI o ad H.size u k hk i (by omega)) (rw_V q119 q120 q121 q2 q122) kd_X0_weekWage ⟨Nat.le_of_ble_eq_true rfl, Nat.le_of_ble_eq_true rfl⟩ (ci := 0) rfl rfl rfl C.2.2.2.2.2.1 hP hD hS hl.1 rfl rfl (Nat.le_of_ble_eq_true rfl) dX0_allWages_16 ⟨Nat.le_of_ble_eq_true rfl, Nat.le_of_ble_eq_true rfl⟩) (fun v w' H locs hv _ _ hP hD hS => ?_)
    obtain ⟨rfl, rfl⟩ := hv
    have hD : va_D A (ra_w cI o ad u) := hD
    refine lv_iadd hx hb dX0_allWages_19 ?_
    refine lv_topi (fun v2 ev2 => ?_)
    refine lv_istore_n (lv' := [(2, .int v2), (0, .ref o), (1, .ref (ad k)), (3, .int (nI i))]) hx hb dX0_allWages_20 rfl hl (by decide) rfl (fun ls hl => ?_)
    refine lv_iinc (v := nI (i + 1)) (lv' := [(3, .int (nI (i + 1))), (2, .int v2), (0, .ref o), (1, .ref (ad k))]) hx hb dX0_allWages_21 hl (k := 3) rfl (nI_1 _) (by decide) rfl (fun ls hl => ?_)
    refine lv_goto (tgt := 4) hx hb dX0_allWages_24 (by decide) ?_
    subst ev2
    exact ih (i + 1) (by omega) _ _ _ hP hD hS (lv_sub hl [2, 3, 1, 0] rfl)
set_option maxHeartbeats 4000000 in
set_option maxRecDepth 100000 in
theorem mX0_allWages (l : Launch) (D : va_G) (t : Nat → Nat) (cI : ClassId) (o : Nat) (ad : Nat → Nat) (sz : Nat) (u : S0) (k : Nat) (hk : k = 7 ∨ k = 11) (hh : u.2.1 ≤ 8) : gMi l yX0_allWages (rw_ yX0_allWages cX0_allWages 4 (some .int)) (rm_ 4 0 0 89) [.ref o, .ref (ad k)] D [(cI, .int)] t (ra_w cI o ad u) sz (fun v w' => v = rf_sm (rf_ww u k) u.2.1 ∧ w' = ra_w cI o ad u) := by
  refine g_of (cc := cX0_allWages) (nL := 4) (rt := (some .int)) (Q := fun A => va_Qi _ (fun w' U => gQ D A w' U) A) (by decide) (Nat.le_of_ble_eq_true rfl) (fun p e s m args below meth c A ls H C hrt hnm hS hP hD hl => ?_)
  have hx := C.1
  have hb := C.2.1
  have hown := C.2.2.2.1
  have hts := C.2.2.2.2.1
  have hl : lv_has ls 4 [(0, .ref o), (1, .ref (ad k))] := hl
  refine lv_iconst (v := 0) hx hb dX0_allWages_0 (by decide) ?_
  refine lv_istore_n (lv' := [(2, .int 0), (0, .ref o), (1, .ref (ad k))]) hx hb dX0_allWages_1 rfl hl (by decide) rfl (fun ls hl => ?_)
  refine lv_iconst (v := 0) hx hb dX0_allWages_2 (by decide) ?_
  refine lv_istore_n (lv' := [(3, .int 0), (2, .int 0), (0, .ref o), (1, .ref (ad k))]) hx hb dX0_allWages_3 rfl hl (by decide) rfl (fun ls hl => ?_)
  refine lpX0_allWages  C hh hk (fun H locs ls hP hD hS hl => ?_) u.2.1 0 (by omega) _ _ _ hP hD hS (lv_sub hl [2, 3, 1, 0] rfl)
  refine lv_iload_n hx hb dX0_allWages_27 rfl (lv_at hl 2 rfl) ?_
  exact g_iret C hrt hP hD hS dX0_allWages_28 ⟨by skip; rfl, by skip; rfl⟩
theorem kd_X0_sumOfHired : yX0_sumOfHired.cls = yX0_sumOfHired.cls ∧ yX0_sumOfHired.cls ≠ "java/lang/invoke/MethodHandle" ∧ yX0_sumOfHired.cls ≠ "java/lang/invoke/VarHandle" ∧ (parseMethodDescriptor yX0_sumOfHired.desc).map (fun d => d.parameters.length) = some 1 := by decide +kernel
set_option maxHeartbeats 4000000 in
set_option maxRecDepth 100000 in
theorem lpX0_sumOfHired {p : Program} {l : Launch} {e : Env} {s : State} {m : MethodId} {args : Array Value} {below : List Frame} {meth : Method} {c : Code} {Q : State → Prop} {D : va_G} {t : Nat → Nat} {A : Nat → Prop} {cI : ClassId} {o : Nat} {ad : Nat → Nat} {u : S0} {k : Nat} (C : gC p s m args meth c cX0_sumOfHired 4 RX0 D [(cI, .int)] t A) (hh : u.2.1 ≤ 8) (hk : k = 4 ∨ k = 5 ∨ k = 6) (kk : ∀ (H : Heap) (locs : List Loc) (ls : Array Slot), va_P D vwCl (ra_w cI o ad u) H → va_D A (ra_w cI o ad u) → va_S A s.heap H locs → lv_has ls 4 [(0, .ref o), (1, .ref (ad k)), (2, .int (rf_sm (u.1 k) u.2.1)), (3, .int (nI u.2.1))] → W p l e (rm_ 0 0 0 0) s m args below meth c H locs 0 0 Q (F0 m 24 ls [])) :
    ∀ (n i : Nat), i + n = u.2.1 → ∀ (H : Heap) (locs : List Loc) (ls : Array Slot), va_P D vwCl (ra_w cI o ad u) H → va_D A (ra_w cI o ad u) → va_S A s.heap H locs → lv_has ls 4 [(0, .ref o), (1, .ref (ad k)), (2, .int (rf_sm (u.1 k) i)), (3, .int (nI i))] → W p l e (rm_ 0 0 0 0) s m args below meth c H locs 0 0 Q (F0 m 4 ls []) := by
  have hx := C.1
  have hb := C.2.1
  have hown := C.2.2.2.1
  have hts := C.2.2.2.2.1
  intro n
  induction n with
  | zero =>
    intro i hi H locs ls hP hD hS hl
    have hiN : i = u.2.1 := by omega
    refine lv_iload_n hx hb dX0_sumOfHired_4 rfl (lv_at hl 3 rfl) ?_
    refine lv_aload_n hx hb dX0_sumOfHired_5 rfl (lv_at hl 0 rfl) ?_
    refine x0_gf C hP 9 (by decide) (v := .int (nI u.2.1)) rfl rfl q66 dX0_sumOfHired_6 ?_
    refine lv_icmp_ge (tgt := 24) hx hb dX0_sumOfHired_9 (by decide) (fun c1 => ?_) (fun c1 => absurd ((nI_leI (a := u.2.1) (b := i) (by omega) (by omega)).mpr (by omega)) c1)
    subst hiN
    exact kk _ _ _ hP hD hS (lv_sub hl [0, 1, 2, 3] rfl)
  | succ n ih =>
    intro i hi H locs ls hP hD hS hl
    have hin : i < u.2.1 := by omega
    refine lv_iload_n hx hb dX0_sumOfHired_4 rfl (lv_at hl 3 rfl) ?_
    refine lv_aload_n hx hb dX0_sumOfHired_5 rfl (lv_at hl 0 rfl) ?_
    refine x0_gf C hP 9 (by decide) (v := .int (nI u.2.1)) rfl rfl q66 dX0_sumOfHired_6 ?_
    refine lv_icmp_ge (tgt := 24) hx hb dX0_sumOfHired_9 (by decide) (fun c1 => absurd c1 (fun h9 => absurd ((nI_leI (a := u.2.1) (b := i) (by omega) (by omega)).mp h9) (by omega))) (fun c1 => ?_)
    refine lv_iload_n hx hb dX0_sumOfHired_12 rfl (lv_at hl 2 rfl) ?_
    refine lv_aload_n hx hb dX0_sumOfHired_13 rfl (lv_at hl 1 rfl) ?_
    refine lv_iload_n hx hb dX0_sumOfHired_14 rfl (lv_at hl 3 rfl) ?_
    refine x0_ld C hP (k := k) (i := i) (Or.inl (by omega)) (by rcases hk with rfl | rfl | rfl <;> exact (by omega : i < 8)) rfl dX0_sumOfHired_15 ?_
    refine lv_iadd hx hb dX0_sumOfHired_16 ?_
    refine lv_topi (fun v2 ev2 => ?_)
    refine lv_istore_n (lv' := [(2, .int v2), (0, .ref o), (1, .ref (ad k)), (3, .int (nI i))]) hx hb dX0_sumOfHired_17 rfl hl (by decide) rfl (fun ls hl => ?_)
    refine lv_iinc (v := nI (i + 1)) (lv' := [(3, .int (nI (i + 1))), (2, .int v2), (0, .ref o), (1, .ref (ad k))]) hx hb dX0_sumOfHired_18 hl (k := 3) rfl (nI_1 _) (by decide) rfl (fun ls hl => ?_)
    refine lv_goto (tgt := 4) hx hb dX0_sumOfHired_21 (by decide) ?_
    subst ev2
    exact ih (i + 1) (by omega) _ _ _ hP hD hS (lv_sub hl [2, 3, 1, 0] rfl)
set_option maxHeartbeats 4000000 in
set_option maxRecDepth 100000 in
theorem mX0_sumOfHired (l : Launch) (D : va_G) (t : Nat → Nat) (cI : ClassId) (o : Nat) (ad : Nat → Nat) (sz : Nat) (u : S0) (k : Nat) (hk : k = 4 ∨ k = 5 ∨ k = 6) (hh : u.2.1 ≤ 8) : gMi l yX0_sumOfHired (rw_ yX0_sumOfHired cX0_sumOfHired 4 (some .int)) (rm_ 0 0 0 0) [.ref o, .ref (ad k)] D [(cI, .int)] t (ra_w cI o ad u) sz (fun v w' => v = rf_sm (u.1 k) u.2.1 ∧ w' = ra_w cI o ad u) := by
  refine g_of (cc := cX0_sumOfHired) (nL := 4) (rt := (some .int)) (Q := fun A => va_Qi _ (fun w' U => gQ D A w' U) A) (by decide) (Nat.le_of_ble_eq_true rfl) (fun p e s m args below meth c A ls H C hrt hnm hS hP hD hl => ?_)
  have hx := C.1
  have hb := C.2.1
  have hown := C.2.2.2.1
  have hts := C.2.2.2.2.1
  have hl : lv_has ls 4 [(0, .ref o), (1, .ref (ad k))] := hl
  refine lv_iconst (v := 0) hx hb dX0_sumOfHired_0 (by decide) ?_
  refine lv_istore_n (lv' := [(2, .int 0), (0, .ref o), (1, .ref (ad k))]) hx hb dX0_sumOfHired_1 rfl hl (by decide) rfl (fun ls hl => ?_)
  refine lv_iconst (v := 0) hx hb dX0_sumOfHired_2 (by decide) ?_
  refine lv_istore_n (lv' := [(3, .int 0), (2, .int 0), (0, .ref o), (1, .ref (ad k))]) hx hb dX0_sumOfHired_3 rfl hl (by decide) rfl (fun ls hl => ?_)
  refine lpX0_sumOfHired  C hh hk (fun H locs ls hP hD hS hl => ?_) u.2.1 0 (by omega) _ _ _ hP hD hS (lv_sub hl [2, 3, 1, 0] rfl)
  refine lv_iload_n hx hb dX0_sumOfHired_24 rfl (lv_at hl 2 rfl) ?_
  exact g_iret C hrt hP hD hS dX0_sumOfHired_25 ⟨by skip; rfl, by skip; rfl⟩
theorem kd_X0_worthOfPurse : yX0_worthOfPurse.cls = yX0_worthOfPurse.cls ∧ yX0_worthOfPurse.cls ≠ "java/lang/invoke/MethodHandle" ∧ yX0_worthOfPurse.cls ≠ "java/lang/invoke/VarHandle" ∧ (parseMethodDescriptor yX0_worthOfPurse.desc).map (fun d => d.parameters.length) = some 0 := by decide +kernel
set_option maxHeartbeats 4000000 in
set_option maxRecDepth 100000 in
theorem lpX0_worthOfPurse {p : Program} {l : Launch} {e : Env} {s : State} {m : MethodId} {args : Array Value} {below : List Frame} {meth : Method} {c : Code} {Q : State → Prop} {D : va_G} {t : Nat → Nat} {A : Nat → Prop} {cI : ClassId} {o : Nat} {ad : Nat → Nat} {u : S0} (C : gC p s m args meth c cX0_worthOfPurse 3 RX0 D [(cI, .int)] t A) (kk : ∀ (H : Heap) (locs : List Loc) (ls : Array Slot), va_P D vwCl (ra_w cI o ad u) H → va_D A (ra_w cI o ad u) → va_S A s.heap H locs → lv_has ls 3 [(0, .ref o), (1, .int (rf_sm (fun c => u.1 8 c * rt_RX0_COIN_WORTH c) 3)), (2, .int (nI 3))] → W p l e (rm_ 0 0 0 0) s m args below meth c H locs 0 0 Q (F0 m 30 ls [])) :
    ∀ (n i : Nat), i + n = 3 → ∀ (H : Heap) (locs : List Loc) (ls : Array Slot), va_P D vwCl (ra_w cI o ad u) H → va_D A (ra_w cI o ad u) → va_S A s.heap H locs → lv_has ls 3 [(0, .ref o), (1, .int (rf_sm (fun c => u.1 8 c * rt_RX0_COIN_WORTH c) i)), (2, .int (nI i))] → W p l e (rm_ 0 0 0 0) s m args below meth c H locs 0 0 Q (F0 m 4 ls []) := by
  have hx := C.1
  have hb := C.2.1
  have hown := C.2.2.2.1
  have hts := C.2.2.2.2.1
  intro n
  induction n with
  | zero =>
    intro i hi H locs ls hP hD hS hl
    have hiN : i = 3 := by omega
    refine lv_iload_n hx hb dX0_worthOfPurse_4 rfl (lv_at hl 2 rfl) ?_
    refine lv_iconst (v := 3) hx hb dX0_worthOfPurse_5 (by decide) ?_
    refine lv_icmp_ge (tgt := 30) hx hb dX0_worthOfPurse_6 (by decide) (fun c1 => ?_) (fun c1 => absurd ((nI_leI (a := 3) (b := i) (by omega) (by omega)).mpr (by omega)) c1)
    subst hiN
    exact kk _ _ _ hP hD hS (lv_sub hl [0, 1, 2] rfl)
  | succ n ih =>
    intro i hi H locs ls hP hD hS hl
    have hin : i < 3 := by omega
    refine lv_iload_n hx hb dX0_worthOfPurse_4 rfl (lv_at hl 2 rfl) ?_
    refine lv_iconst (v := 3) hx hb dX0_worthOfPurse_5 (by decide) ?_
    refine lv_icmp_ge (tgt := 30) hx hb dX0_worthOfPurse_6 (by decide) (fun c1 => absurd c1 (fun h9 => absurd ((nI_leI (a := 3) (b := i) (by omega) (by omega)).mp h9) (by omega))) (fun c1 => ?_)
    refine lv_iload_n hx hb dX0_worthOfPurse_9 rfl (lv_at hl 1 rfl) ?_
    refine lv_aload_n hx hb dX0_worthOfPurse_10 rfl (lv_at hl 0 rfl) ?_
    refine x0_gf C hP 8 (by decide) (v := .ref (ad 8)) rfl rfl q19 dX0_worthOfPurse_11 ?_
    refine lv_iload_n hx hb dX0_worthOfPurse_14 rfl (lv_at hl 2 rfl) ?_
    refine x0_ld C hP (k := 8) (i := i) (Or.inl (by decide)) hin rfl dX0_worthOfPurse_15 ?_
    refine g_gs C hS (C.2.2.2.2.2.2.2.1.2.2.2.2.1) q154 dX0_worthOfPurse_16 ?_
    refine lv_iload_n hx hb dX0_worthOfPurse_19 rfl (lv_at hl 2 rfl) ?_
    refine g_ti C hS (N := 3) (i := i) (f := rt_RX0_COIN_WORTH) C.2.2.2.2.2.2.2.1.2.2.2.2.2.1 (by decide) hin rfl dX0_worthOfPurse_20 ?_
    refine lv_imul hx hb dX0_worthOfPurse_21 ?_
    refine lv_iadd hx hb dX0_worthOfPurse_22 ?_
    refine lv_topi (fun v2 ev2 => ?_)
    refine lv_istore_n (lv' := [(1, .int v2), (0, .ref o), (2, .int (nI i))]) hx hb dX0_worthOfPurse_23 rfl hl (by decide) rfl (fun ls hl => ?_)
    refine lv_iinc (v := nI (i + 1)) (lv' := [(2, .int (nI (i + 1))), (1, .int v2), (0, .ref o)]) hx hb dX0_worthOfPurse_24 hl (k := 2) rfl (nI_1 _) (by decide) rfl (fun ls hl => ?_)
    refine lv_goto (tgt := 4) hx hb dX0_worthOfPurse_27 (by decide) ?_
    subst ev2
    exact ih (i + 1) (by omega) _ _ _ hP hD hS (lv_sub hl [2, 1, 0] rfl)
set_option maxHeartbeats 4000000 in
set_option maxRecDepth 100000 in
theorem mX0_worthOfPurse (l : Launch) (D : va_G) (t : Nat → Nat) (cI : ClassId) (o : Nat) (ad : Nat → Nat) (sz : Nat) (u : S0) : gMi l yX0_worthOfPurse (rw_ yX0_worthOfPurse cX0_worthOfPurse 3 (some .int)) (rm_ 0 0 0 0) [.ref o] D [(cI, .int)] t (ra_w cI o ad u) sz (fun v w' => v = rf_sm (fun c => u.1 8 c * rt_RX0_COIN_WORTH c) 3 ∧ w' = ra_w cI o ad u) := by
  refine g_of (cc := cX0_worthOfPurse) (nL := 3) (rt := (some .int)) (Q := fun A => va_Qi _ (fun w' U => gQ D A w' U) A) (by decide) (Nat.le_of_ble_eq_true rfl) (fun p e s m args below meth c A ls H C hrt hnm hS hP hD hl => ?_)
  have hx := C.1
  have hb := C.2.1
  have hown := C.2.2.2.1
  have hts := C.2.2.2.2.1
  have hl : lv_has ls 3 [(0, .ref o)] := hl
  refine lv_iconst (v := 0) hx hb dX0_worthOfPurse_0 (by decide) ?_
  refine lv_istore_n (lv' := [(1, .int 0), (0, .ref o)]) hx hb dX0_worthOfPurse_1 rfl hl (by decide) rfl (fun ls hl => ?_)
  refine lv_iconst (v := 0) hx hb dX0_worthOfPurse_2 (by decide) ?_
  refine lv_istore_n (lv' := [(2, .int 0), (1, .int 0), (0, .ref o)]) hx hb dX0_worthOfPurse_3 rfl hl (by decide) rfl (fun ls hl => ?_)
  refine lpX0_worthOfPurse  C  (fun H locs ls hP hD hS hl => ?_) 3 0 (by omega) _ _ _ hP hD hS (lv_sub hl [2, 1, 0] rfl)
  refine lv_iload_n hx hb dX0_worthOfPurse_30 rfl (lv_at hl 1 rfl) ?_
  exact g_iret C hrt hP hD hS dX0_worthOfPurse_31 ⟨by skip; rfl, by skip; rfl⟩
end
section
theorem kd_X0_requireIndex : yX0_requireIndex.cls ≠ "java/lang/invoke/MethodHandle" ∧ yX0_requireIndex.cls ≠ "java/lang/invoke/VarHandle" ∧ (parseMethodDescriptor yX0_requireIndex.desc).map (fun d => d.parameters.length) = some 2 := by decide +kernel
set_option maxHeartbeats 4000000 in
set_option maxRecDepth 100000 in
theorem mX0_requireIndex (l : Launch) (D : va_G) (t : Nat → Nat) (ty : List (ClassId × FieldType)) (w : va_W) (sz : Nat) (i n : Nat) (h1 : i < n) (h2 : n < 2147483648) : gMv l yX0_requireIndex (rw_ yX0_requireIndex cX0_requireIndex 2 none) (rm_ 0 0 0 0) [.int (nI i), .int (nI n)] D ty t (w) sz (fun w' => w' = w) := by
  refine g_of (cc := cX0_requireIndex) (nL := 2) (rt := none) (Q := fun A => va_Qv _ (fun w' U => gQ D A w' U) A) (by decide) (Nat.le_of_ble_eq_true rfl) (fun p e s m args below meth c A ls H C hrt hnm hS hP hD hl => ?_)
  have hx := C.1
  have hb := C.2.1
  have hown := C.2.2.2.1
  have hts := C.2.2.2.2.1
  have hl : lv_has ls 2 [(0, .int (nI i)), (1, .int (nI n))] := hl
  · refine lv_iload_n hx hb dX0_requireIndex_0 rfl (lv_at hl 0 rfl) ?_
    refine lv_if_lt (tgt := 9) hx hb dX0_requireIndex_1 (by decide) (fun c1 => absurd c1 (nI_pos (by omega))) (fun c1 => ?_)
    refine lv_iload_n hx hb dX0_requireIndex_4 rfl (lv_at hl 0 rfl) ?_
    refine lv_iload_n hx hb dX0_requireIndex_5 rfl (lv_at hl 1 rfl) ?_
    refine lv_icmp_lt (tgt := 19) hx hb dX0_requireIndex_6 (by decide) (fun c2 => ?_) (fun c2 => absurd ((nI_ltI (a := i) (b := n) (by omega) (by omega)).mpr (by omega)) c2)
    exact g_vret C hrt hP hD hS dX0_requireIndex_19 (by skip; rfl)
theorem kd_X0_requireArgument : yX0_requireArgument.cls ≠ "java/lang/invoke/MethodHandle" ∧ yX0_requireArgument.cls ≠ "java/lang/invoke/VarHandle" ∧ (parseMethodDescriptor yX0_requireArgument.desc).map (fun d => d.parameters.length) = some 3 := by decide +kernel
set_option maxHeartbeats 4000000 in
set_option maxRecDepth 100000 in
theorem mX0_requireArgument (l : Launch) (D : va_G) (t : Nat → Nat) (ty : List (ClassId × FieldType)) (w : va_W) (sz : Nat) (x0 x1 x2 : Int32) (h1 : ¬ x0 < x1) (h2 : x0 ≤ x2) : gMv l yX0_requireArgument (rw_ yX0_requireArgument cX0_requireArgument 3 none) (rm_ 0 0 0 0) [.int x0, .int x1, .int x2] D ty t (w) sz (fun w' => w' = w) := by
  refine g_of (cc := cX0_requireArgument) (nL := 3) (rt := none) (Q := fun A => va_Qv _ (fun w' U => gQ D A w' U) A) (by decide) (Nat.le_of_ble_eq_true rfl) (fun p e s m args below meth c A ls H C hrt hnm hS hP hD hl => ?_)
  have hx := C.1
  have hb := C.2.1
  have hown := C.2.2.2.1
  have hts := C.2.2.2.2.1
  have hl : lv_has ls 3 [(0, .int x0), (1, .int x1), (2, .int x2)] := hl
  · refine lv_iload_n hx hb dX0_requireArgument_0 rfl (lv_at hl 0 rfl) ?_
    refine lv_iload_n hx hb dX0_requireArgument_1 rfl (lv_at hl 1 rfl) ?_
    refine lv_icmp_lt (tgt := 10) hx hb dX0_requireArgument_2 (by decide) (fun c1 => absurd c1 h1) (fun c1 => ?_)
    refine lv_iload_n hx hb dX0_requireArgument_5 rfl (lv_at hl 0 rfl) ?_
    refine lv_iload_n hx hb dX0_requireArgument_6 rfl (lv_at hl 2 rfl) ?_
    refine lv_icmp_le (tgt := 20) hx hb dX0_requireArgument_7 (by decide) (fun c2 => ?_) (fun c2 => absurd h2 c2)
    exact g_vret C hrt hP hD hS dX0_requireArgument_20 (by skip; rfl)
theorem kd_X0_requireState : yX0_requireState.cls ≠ "java/lang/invoke/MethodHandle" ∧ yX0_requireState.cls ≠ "java/lang/invoke/VarHandle" ∧ (parseMethodDescriptor yX0_requireState.desc).map (fun d => d.parameters.length) = some 1 := by decide +kernel
set_option maxHeartbeats 4000000 in
set_option maxRecDepth 100000 in
theorem mX0_requireState (l : Launch) (D : va_G) (t : Nat → Nat) (ty : List (ClassId × FieldType)) (w : va_W) (sz : Nat) (x0 : Int32) (h1 : ¬ x0 = 0) : gMv l yX0_requireState (rw_ yX0_requireState cX0_requireState 1 none) (rm_ 0 0 0 0) [.int x0] D ty t (w) sz (fun w' => w' = w) := by
  refine g_of (cc := cX0_requireState) (nL := 1) (rt := none) (Q := fun A => va_Qv _ (fun w' U => gQ D A w' U) A) (by decide) (Nat.le_of_ble_eq_true rfl) (fun p e s m args below meth c A ls H C hrt hnm hS hP hD hl => ?_)
  have hx := C.1
  have hb := C.2.1
  have hown := C.2.2.2.1
  have hts := C.2.2.2.2.1
  have hl : lv_has ls 1 [(0, .int x0)] := hl
  · refine lv_iload_n hx hb dX0_requireState_0 rfl (lv_at hl 0 rfl) ?_
    refine lv_if_ne (tgt := 14) hx hb dX0_requireState_1 (by decide) (fun c1 => ?_) (fun c1 => absurd c1 h1)
    exact g_vret C hrt hP hD hS dX0_requireState_14 (by skip; rfl)
theorem kd_X0_requireRate : yX0_requireRate.cls ≠ "java/lang/invoke/MethodHandle" ∧ yX0_requireRate.cls ≠ "java/lang/invoke/VarHandle" ∧ (parseMethodDescriptor yX0_requireRate.desc).map (fun d => d.parameters.length) = some 2 := by decide +kernel
set_option maxHeartbeats 4000000 in
set_option maxRecDepth 100000 in
theorem mX0_requireRate (l : Launch) (D : va_G) (t : Nat → Nat) (cI : ClassId) (o : Nat) (ad : Nat → Nat) (sz : Nat) (u : S0) (k : Nat) (hk5 : k < 5) (x : Int32) (h1 : ¬ x < rt_RX0_LEAST_RATE k) (h2 : x ≤ rt_RX0_MOST_RATE k) : gMv l yX0_requireRate (rw_ yX0_requireRate cX0_requireRate 2 none) (rm_ 1 0 0 22) [.int (nI k), .int x] D [(cI, .int)] t (ra_w cI o ad u) sz (fun w' => w' = ra_w cI o ad u) := by
  refine g_of (cc := cX0_requireRate) (nL := 2) (rt := none) (Q := fun A => va_Qv _ (fun w' U => gQ D A w' U) A) (by decide) (Nat.le_of_ble_eq_true rfl) (fun p e s m args below meth c A ls H C hrt hnm hS hP hD hl => ?_)
  have hx := C.1
  have hb := C.2.1
  have hown := C.2.2.2.1
  have hts := C.2.2.2.2.1
  have hl : lv_has ls 2 [(0, .int (nI k)), (1, .int x)] := hl
  refine lv_iload_n hx hb dX0_requireRate_0 rfl (lv_at hl 0 rfl) ?_
  refine lv_iconst (v := 5) hx hb dX0_requireRate_1 (by decide) ?_
  refine g_cv (wr := []) (cells' := 0) (slots' := 0) rfl rfl C rd_nil hD hS (g_runS (wr := []) (n := 2) (As := [.int (nI k), .int 5]) C (mX0_requireIndex l D t [(cI, .int)] (ra_w cI o ad u) H.size k 5 (by omega) (by omega)) (rw_S q89 q90 q2 q91) kd_X0_requireIndex ⟨Nat.le_of_ble_eq_true rfl, Nat.le_of_ble_eq_true rfl⟩ C.2.2.2.2.2.1 hP hD hS hl.1 rfl rfl (Nat.le_of_ble_eq_true rfl) dX0_requireRate_2 ⟨Nat.le_of_ble_eq_true rfl, Nat.le_of_ble_eq_true rfl⟩) (fun w' H locs hv _ _ hP hD hS => ?_)
  subst hv
  have hD : va_D A (ra_w cI o ad u) := hD
  refine lv_iload_n hx hb dX0_requireRate_5 rfl (lv_at hl 1 rfl) ?_
  refine g_gs C hS (C.2.2.2.2.2.2.2.1.1) q87 dX0_requireRate_6 ?_
  refine lv_iload_n hx hb dX0_requireRate_9 rfl (lv_at hl 0 rfl) ?_
  refine g_ti C hS (N := 5) (i := k) (f := rt_RX0_LEAST_RATE) C.2.2.2.2.2.2.2.1.2.1 (by decide) hk5 rfl dX0_requireRate_10 ?_
  refine g_gs C hS (C.2.2.2.2.2.2.2.1.2.2.1) q88 dX0_requireRate_11 ?_
  refine lv_iload_n hx hb dX0_requireRate_14 rfl (lv_at hl 0 rfl) ?_
  refine g_ti C hS (N := 5) (i := k) (f := rt_RX0_MOST_RATE) C.2.2.2.2.2.2.2.1.2.2.2.1 (by decide) hk5 rfl dX0_requireRate_15 ?_
  refine g_cv (wr := []) (cells' := 0) (slots' := 0) rfl rfl C rd_nil hD hS (g_runS (wr := []) (n := 3) (As := [.int x, .int (rt_RX0_LEAST_RATE k), .int (rt_RX0_MOST_RATE k)]) C (mX0_requireArgument l D t [(cI, .int)] (ra_w cI o ad u) H.size x (rt_RX0_LEAST_RATE k) (rt_RX0_MOST_RATE k) h1 h2) (rw_S q67 q68 q2 q69) kd_X0_requireArgument ⟨Nat.le_of_ble_eq_true rfl, Nat.le_of_ble_eq_true rfl⟩ C.2.2.2.2.2.1 hP hD hS hl.1 rfl rfl (Nat.le_of_ble_eq_true rfl) dX0_requireRate_16 ⟨Nat.le_of_ble_eq_true rfl, Nat.le_of_ble_eq_true rfl⟩) (fun w' H locs hv _ _ hP hD hS => ?_)
  subst hv
  have hD : va_D A (ra_w cI o ad u) := hD
  exact g_vret C hrt hP hD hS dX0_requireRate_19 (by skip; rfl)
theorem kd_X0_hire : yX0_hire.cls = yX0_hire.cls ∧ yX0_hire.cls ≠ "java/lang/invoke/MethodHandle" ∧ yX0_hire.cls ≠ "java/lang/invoke/VarHandle" ∧ (parseMethodDescriptor yX0_hire.desc).map (fun d => d.parameters.length) = some 1 := by decide +kernel
set_option maxHeartbeats 4000000 in
set_option maxRecDepth 100000 in
theorem mX0_hire (l : Launch) (D : va_G) (t : Nat → Nat) (cI : ClassId) (o : Nat) (ad : Nat → Nat) (sz : Nat) (u : S0) (x : Int32) (h1 : ¬ x < 0) (h2 : x ≤ 2) (h3 : u.2.1 < 8) : gMi l yX0_hire (rw_ yX0_hire cX0_hire 2 (some .int)) (rm_ 1 0 0 22) [.ref o, .int x] D [(cI, .int)] t (ra_w cI o ad u) sz (fun v w' => v = nI u.2.1 ∧ w' = ra_w cI o ad ((ra_s u 0 u.2.1 x).1, u.2.1 + 1, u.2.2)) := by
  refine g_of (cc := cX0_hire) (nL := 2) (rt := (some .int)) (Q := fun A => va_Qi _ (fun w' U => gQ D A w' U) A) (by decide) (Nat.le_of_ble_eq_true rfl) (fun p e s m args below meth c A ls H C hrt hnm hS hP hD hl => ?_)
  have hx := C.1
  have hb := C.2.1
  have hown := C.2.2.2.1
  have hts := C.2.2.2.2.1
  have hl : lv_has ls 2 [(0, .ref o), (1, .int x)] := hl
  refine lv_iload_n hx hb dX0_hire_0 rfl (lv_at hl 1 rfl) ?_
  refine lv_iconst (v := 0) hx hb dX0_hire_1 (by decide) ?_
  refine lv_iconst (v := 2) hx hb dX0_hire_2 (by decide) ?_
  refine g_cv (wr := []) (cells' := 0) (slots' := 0) rfl rfl C rd_nil hD hS (g_runS (wr := []) (n := 3) (As := [.int x, .int 0, .int 2]) C (mX0_requireArgument l D t [(cI, .int)] (ra_w cI o ad u) H.size x 0 2 h1 h2) (rw_S q67 q68 q2 q69) kd_X0_requireArgument ⟨Nat.le_of_ble_eq_true rfl, Nat.le_of_ble_eq_true rfl⟩ C.2.2.2.2.2.1 hP hD hS hl.1 rfl rfl (Nat.le_of_ble_eq_true rfl) dX0_hire_3 ⟨Nat.le_of_ble_eq_true rfl, Nat.le_of_ble_eq_true rfl⟩) (fun w' H locs hv _ _ hP hD hS => ?_)
  subst hv
  have hD : va_D A (ra_w cI o ad u) := hD
  refine lv_aload_n hx hb dX0_hire_6 rfl (lv_at hl 0 rfl) ?_
  refine x0_gf C hP 9 (by decide) (v := .int (nI u.2.1)) rfl rfl q66 dX0_hire_7 ?_
  refine lv_bipush (v := 8) hx hb dX0_hire_10 (by decide) ?_
  refine lv_icmp_ge (tgt := 19) hx hb dX0_hire_12 (by decide) (fun c1 => absurd c1 (fun h9 => absurd ((nI_leI (a := 8) (b := u.2.1) (by omega) (by omega)).mp h9) (by omega))) (fun c1 => ?_)
  refine lv_iconst (v := 1) hx hb dX0_hire_15 (by decide) ?_
  refine lv_goto (tgt := 20) hx hb dX0_hire_16 (by decide) ?_
  refine g_cv (wr := []) (cells' := 0) (slots' := 0) rfl rfl C rd_nil hD hS (g_runS (wr := []) (n := 1) (As := [.int 1]) C (mX0_requireState l D t [(cI, .int)] (ra_w cI o ad u) H.size 1 (by decide)) (rw_S q72 q73 q2 q74) kd_X0_requireState ⟨Nat.le_of_ble_eq_true rfl, Nat.le_of_ble_eq_true rfl⟩ C.2.2.2.2.2.1 hP hD hS hl.1 rfl rfl (Nat.le_of_ble_eq_true rfl) dX0_hire_20 ⟨Nat.le_of_ble_eq_true rfl, Nat.le_of_ble_eq_true rfl⟩) (fun w' H locs hv _ _ hP hD hS => ?_)
  subst hv
  have hD : va_D A (ra_w cI o ad u) := hD
  refine lv_aload_n hx hb dX0_hire_23 rfl (lv_at hl 0 rfl) ?_
  refine x0_gf C hP 0 (by decide) (v := .ref (ad 0)) rfl rfl q11 dX0_hire_24 ?_
  refine lv_aload_n hx hb dX0_hire_27 rfl (lv_at hl 0 rfl) ?_
  refine x0_gf C hP 9 (by decide) (v := .int (nI u.2.1)) rfl rfl q66 dX0_hire_28 ?_
  refine lv_iload_n hx hb dX0_hire_31 rfl (lv_at hl 1 rfl) ?_
  refine x0_st C hP hD hS (k := 0) (i := u.2.1) (Or.inl (by decide)) h3 rfl dX0_hire_32 (fun H locs hP hD hS => ?_)
  obtain ⟨u2, eu2⟩ : ∃ z : S0, z = ra_s u 0 u.2.1 x := ⟨_, rfl⟩
  have hP : va_P D vwCl (ra_w cI o ad u2) H := by rw [eu2]; exact hP
  have hD : va_D A (ra_w cI o ad u2) := by rw [eu2]; exact hD
  refine lv_aload_n hx hb dX0_hire_33 rfl (lv_at hl 0 rfl) ?_
  refine lv_dup hx hb dX0_hire_34 rfl ?_
  refine x0_gf C hP 9 (by decide) (v := .int (nI u2.2.1)) rfl rfl q66 dX0_hire_35 ?_
  refine lv_iconst (v := 1) hx hb dX0_hire_38 (by decide) ?_
  refine lv_iadd hx hb dX0_hire_39 ?_
  refine g_top (nI_1 u2.2.1) ?_
  refine x0_ph C hP hD hS (u2.2.1 + 1) q66 dX0_hire_40 (fun H locs hP hD hS => ?_)
  obtain ⟨u3, eu3⟩ : ∃ z : S0, z = (u2.1, u2.2.1 + 1, u2.2.2) := ⟨_, rfl⟩
  have hP : va_P D vwCl (ra_w cI o ad u3) H := by rw [eu3]; exact hP
  have hD : va_D A (ra_w cI o ad u3) := by rw [eu3]; exact hD
  refine lv_aload_n hx hb dX0_hire_43 rfl (lv_at hl 0 rfl) ?_
  refine x0_gf C hP 9 (by decide) (v := .int (nI u3.2.1)) rfl rfl q66 dX0_hire_44 ?_
  refine lv_iconst (v := 1) hx hb dX0_hire_47 (by decide) ?_
  refine lv_isub hx hb dX0_hire_48 ?_
  exact g_iret C hrt hP hD hS dX0_hire_49 ⟨by subst eu3; subst eu2; exact nI_pred _, by subst eu3; subst eu2; rfl⟩
theorem kd_X0_setRate : yX0_setRate.cls = yX0_setRate.cls ∧ yX0_setRate.cls ≠ "java/lang/invoke/MethodHandle" ∧ yX0_setRate.cls ≠ "java/lang/invoke/VarHandle" ∧ (parseMethodDescriptor yX0_setRate.desc).map (fun d => d.parameters.length) = some 2 := by decide +kernel
set_option maxHeartbeats 4000000 in
set_option maxRecDepth 100000 in
theorem mX0_setRate (l : Launch) (D : va_G) (t : Nat → Nat) (cI : ClassId) (o : Nat) (ad : Nat → Nat) (sz : Nat) (u : S0) (k : Nat) (hk5 : k < 5) (x : Int32) (h1 : ¬ x < rt_RX0_LEAST_RATE k) (h2 : x ≤ rt_RX0_MOST_RATE k) : gMi l yX0_setRate (rw_ yX0_setRate cX0_setRate 4 (some .int)) (rm_ 2 0 0 43) [.ref o, .int (nI k), .int x] D [(cI, .int)] t (ra_w cI o ad u) sz (fun v w' => v = u.1 7 k ∧ w' = ra_w cI o ad (ra_s u 7 k x)) := by
  refine g_of (cc := cX0_setRate) (nL := 4) (rt := (some .int)) (Q := fun A => va_Qi _ (fun w' U => gQ D A w' U) A) (by decide) (Nat.le_of_ble_eq_true rfl) (fun p e s m args below meth c A ls H C hrt hnm hS hP hD hl => ?_)
  have hx := C.1
  have hb := C.2.1
  have hown := C.2.2.2.1
  have hts := C.2.2.2.2.1
  have hl : lv_has ls 4 [(0, .ref o), (1, .int (nI k)), (2, .int x)] := hl
  refine lv_iload_n hx hb dX0_setRate_0 rfl (lv_at hl 1 rfl) ?_
  refine lv_iload_n hx hb dX0_setRate_1 rfl (lv_at hl 2 rfl) ?_
  refine g_cv (wr := []) (cells' := 0) (slots' := 0) rfl rfl C rd_nil hD hS (g_runS (wr := []) (n := 2) (As := [.int (nI k), .int x]) C (mX0_requireRate l D t cI o ad H.size u k hk5 x h1 h2) (rw_S q84 q85 q2 q86) kd_X0_requireRate ⟨Nat.le_of_ble_eq_true rfl, Nat.le_of_ble_eq_true rfl⟩ C.2.2.2.2.2.1 hP hD hS hl.1 rfl rfl (Nat.le_of_ble_eq_true rfl) dX0_setRate_2 ⟨Nat.le_of_ble_eq_true rfl, Nat.le_of_ble_eq_true rfl⟩) (fun w' H locs hv _ _ hP hD hS => ?_)
  subst hv
  have hD : va_D A (ra_w cI o ad u) := hD
  refine lv_aload_n hx hb dX0_setRate_5 rfl (lv_at hl 0 rfl) ?_
  refine x0_gf C hP 7 (by decide) (v := .ref (ad 7)) rfl rfl q18 dX0_setRate_6 ?_
  refine lv_iload_n hx hb dX0_setRate_9 rfl (lv_at hl 1 rfl) ?_
  refine x0_ld C hP (k := 7) (i := k) (Or.inl (by decide)) hk5 rfl dX0_setRate_10 ?_
  refine lv_topi (fun v1 ev1 => ?_)
  refine lv_istore_n (lv' := [(3, .int v1), (0, .ref o), (1, .int (nI k)), (2, .int x)]) hx hb dX0_setRate_11 rfl hl (by decide) rfl (fun ls hl => ?_)
  refine lv_aload_n hx hb dX0_setRate_12 rfl (lv_at hl 1 rfl) ?_
  refine x0_gf C hP 7 (by decide) (v := .ref (ad 7)) rfl rfl q18 dX0_setRate_13 ?_
  refine lv_iload_n hx hb dX0_setRate_16 rfl (lv_at hl 2 rfl) ?_
  refine lv_iload_n hx hb dX0_setRate_17 rfl (lv_at hl 3 rfl) ?_
  refine x0_st C hP hD hS (k := 7) (i := k) (Or.inl (by decide)) hk5 rfl dX0_setRate_18 (fun H locs hP hD hS => ?_)
  obtain ⟨u2, eu2⟩ : ∃ z : S0, z = ra_s u 7 k x := ⟨_, rfl⟩
  have hP : va_P D vwCl (ra_w cI o ad u2) H := by rw [eu2]; exact hP
  have hD : va_D A (ra_w cI o ad u2) := by rw [eu2]; exact hD
  refine lv_iload_n hx hb dX0_setRate_19 rfl (lv_at hl 0 rfl) ?_
  exact g_iret C hrt hP hD hS dX0_setRate_20 ⟨by subst eu2; subst ev1; rfl, by subst eu2; subst ev1; rfl⟩
theorem kd_X0_fill : yX0_fill.cls = yX0_fill.cls ∧ yX0_fill.cls ≠ "java/lang/invoke/MethodHandle" ∧ yX0_fill.cls ≠ "java/lang/invoke/VarHandle" ∧ (parseMethodDescriptor yX0_fill.desc).map (fun d => d.parameters.length) = some 2 := by decide +kernel
set_option maxHeartbeats 4000000 in
set_option maxRecDepth 100000 in
theorem mX0_fill (l : Launch) (D : va_G) (t : Nat → Nat) (cI : ClassId) (o : Nat) (ad : Nat → Nat) (sz : Nat) (u : S0) (k : Nat) (hk3 : k < 3) (x : Int32) (h1 : ¬ x < 1) (h2 : x ≤ 500) : gMi l yX0_fill (rw_ yX0_fill cX0_fill 3 (some .int)) (rm_ 1 0 0 22) [.ref o, .int (nI k), .int x] D [(cI, .int)] t (ra_w cI o ad u) sz (fun v w' => v = u.1 8 k + x ∧ w' = ra_w cI o ad (ra_s u 8 k (u.1 8 k + x))) := by
  refine g_of (cc := cX0_fill) (nL := 3) (rt := (some .int)) (Q := fun A => va_Qi _ (fun w' U => gQ D A w' U) A) (by decide) (Nat.le_of_ble_eq_true rfl) (fun p e s m args below meth c A ls H C hrt hnm hS hP hD hl => ?_)
  have hx := C.1
  have hb := C.2.1
  have hown := C.2.2.2.1
  have hts := C.2.2.2.2.1
  have hl : lv_has ls 3 [(0, .ref o), (1, .int (nI k)), (2, .int x)] := hl
  refine lv_iload_n hx hb dX0_fill_0 rfl (lv_at hl 1 rfl) ?_
  refine lv_iconst (v := 3) hx hb dX0_fill_1 (by decide) ?_
  refine g_cv (wr := []) (cells' := 0) (slots' := 0) rfl rfl C rd_nil hD hS (g_runS (wr := []) (n := 2) (As := [.int (nI k), .int 3]) C (mX0_requireIndex l D t [(cI, .int)] (ra_w cI o ad u) H.size k 3 (by omega) (by omega)) (rw_S q89 q90 q2 q91) kd_X0_requireIndex ⟨Nat.le_of_ble_eq_true rfl, Nat.le_of_ble_eq_true rfl⟩ C.2.2.2.2.2.1 hP hD hS hl.1 rfl rfl (Nat.le_of_ble_eq_true rfl) dX0_fill_2 ⟨Nat.le_of_ble_eq_true rfl, Nat.le_of_ble_eq_true rfl⟩) (fun w' H locs hv _ _ hP hD hS => ?_)
  subst hv
  have hD : va_D A (ra_w cI o ad u) := hD
  refine lv_iload_n hx hb dX0_fill_5 rfl (lv_at hl 2 rfl) ?_
  refine lv_iconst (v := 1) hx hb dX0_fill_6 (by decide) ?_
  refine lv_sipush (v := 500) hx hb dX0_fill_7 (by decide) ?_
  refine g_cv (wr := []) (cells' := 0) (slots' := 0) rfl rfl C rd_nil hD hS (g_runS (wr := []) (n := 3) (As := [.int x, .int 1, .int 500]) C (mX0_requireArgument l D t [(cI, .int)] (ra_w cI o ad u) H.size x 1 500 h1 h2) (rw_S q67 q68 q2 q69) kd_X0_requireArgument ⟨Nat.le_of_ble_eq_true rfl, Nat.le_of_ble_eq_true rfl⟩ C.2.2.2.2.2.1 hP hD hS hl.1 rfl rfl (Nat.le_of_ble_eq_true rfl) dX0_fill_10 ⟨Nat.le_of_ble_eq_true rfl, Nat.le_of_ble_eq_true rfl⟩) (fun w' H locs hv _ _ hP hD hS => ?_)
  subst hv
  have hD : va_D A (ra_w cI o ad u) := hD
  refine lv_aload_n hx hb dX0_fill_13 rfl (lv_at hl 0 rfl) ?_
  refine x0_gf C hP 8 (by decide) (v := .ref (ad 8)) rfl rfl q19 dX0_fill_14 ?_
  refine lv_iload_n hx hb dX0_fill_17 rfl (lv_at hl 1 rfl) ?_
  refine lv_dup2_11 hx hb dX0_fill_18 rfl rfl ?_
  refine x0_ld C hP (k := 8) (i := k) (Or.inl (by decide)) hk3 rfl dX0_fill_19 ?_
  refine lv_iload_n hx hb dX0_fill_20 rfl (lv_at hl 2 rfl) ?_
  refine lv_iadd hx hb dX0_fill_21 ?_
  refine x0_st C hP hD hS (k := 8) (i := k) (Or.inl (by decide)) hk3 rfl dX0_fill_22 (fun H locs hP hD hS => ?_)
  obtain ⟨u1, eu1⟩ : ∃ z : S0, z = ra_s u 8 k ((u.1 8 k) + x) := ⟨_, rfl⟩
  have hP : va_P D vwCl (ra_w cI o ad u1) H := by rw [eu1]; exact hP
  have hD : va_D A (ra_w cI o ad u1) := by rw [eu1]; exact hD
  refine lv_aload_n hx hb dX0_fill_23 rfl (lv_at hl 0 rfl) ?_
  refine x0_gf C hP 8 (by decide) (v := .ref (ad 8)) rfl rfl q19 dX0_fill_24 ?_
  refine lv_iload_n hx hb dX0_fill_27 rfl (lv_at hl 1 rfl) ?_
  refine x0_ld C hP (k := 8) (i := k) (Or.inl (by decide)) hk3 rfl dX0_fill_28 ?_
  exact g_iret C hrt hP hD hS dX0_fill_29 ⟨by subst eu1; exact ra_sS, by subst eu1; rfl⟩
theorem kd_X0_bind : yX0_bind.cls = yX0_bind.cls ∧ yX0_bind.cls ≠ "java/lang/invoke/MethodHandle" ∧ yX0_bind.cls ≠ "java/lang/invoke/VarHandle" ∧ (parseMethodDescriptor yX0_bind.desc).map (fun d => d.parameters.length) = some 2 := by decide +kernel
set_option maxHeartbeats 4000000 in
set_option maxRecDepth 100000 in
theorem mX0_bind (l : Launch) (D : va_G) (t : Nat → Nat) (cI : ClassId) (o : Nat) (ad : Nat → Nat) (sz : Nat) (u : S0) (hh : u.2.1 ≤ 8) (r : Nat) (hr : r < u.2.1) (x : Int32) (h1 : ¬ x < 1) (h2 : x ≤ 999) : gMi l yX0_bind (rw_ yX0_bind cX0_bind 3 (some .int)) (rm_ 1 0 0 22) [.ref o, .int (nI r), .int x] D [(cI, .int)] t (ra_w cI o ad u) sz (fun v w' => v = u.1 1 r + x ∧ w' = ra_w cI o ad (ra_s u 1 r (u.1 1 r + x))) := by
  refine g_of (cc := cX0_bind) (nL := 3) (rt := (some .int)) (Q := fun A => va_Qi _ (fun w' U => gQ D A w' U) A) (by decide) (Nat.le_of_ble_eq_true rfl) (fun p e s m args below meth c A ls H C hrt hnm hS hP hD hl => ?_)
  have hx := C.1
  have hb := C.2.1
  have hown := C.2.2.2.1
  have hts := C.2.2.2.2.1
  have hl : lv_has ls 3 [(0, .ref o), (1, .int (nI r)), (2, .int x)] := hl
  refine lv_iload_n hx hb dX0_bind_0 rfl (lv_at hl 1 rfl) ?_
  refine lv_aload_n hx hb dX0_bind_1 rfl (lv_at hl 0 rfl) ?_
  refine x0_gf C hP 9 (by decide) (v := .int (nI u.2.1)) rfl rfl q66 dX0_bind_2 ?_
  refine g_cv (wr := []) (cells' := 0) (slots' := 0) rfl rfl C rd_nil hD hS (g_runS (wr := []) (n := 2) (As := [.int (nI r), .int (nI u.2.1)]) C (mX0_requireIndex l D t [(cI, .int)] (ra_w cI o ad u) H.size r u.2.1 (by omega) (by omega)) (rw_S q89 q90 q2 q91) kd_X0_requireIndex ⟨Nat.le_of_ble_eq_true rfl, Nat.le_of_ble_eq_true rfl⟩ C.2.2.2.2.2.1 hP hD hS hl.1 rfl rfl (Nat.le_of_ble_eq_true rfl) dX0_bind_5 ⟨Nat.le_of_ble_eq_true rfl, Nat.le_of_ble_eq_true rfl⟩) (fun w' H locs hv _ _ hP hD hS => ?_)
  subst hv
  have hD : va_D A (ra_w cI o ad u) := hD
  refine lv_iload_n hx hb dX0_bind_8 rfl (lv_at hl 2 rfl) ?_
  refine lv_iconst (v := 1) hx hb dX0_bind_9 (by decide) ?_
  refine lv_sipush (v := 999) hx hb dX0_bind_10 (by decide) ?_
  refine g_cv (wr := []) (cells' := 0) (slots' := 0) rfl rfl C rd_nil hD hS (g_runS (wr := []) (n := 3) (As := [.int x, .int 1, .int 999]) C (mX0_requireArgument l D t [(cI, .int)] (ra_w cI o ad u) H.size x 1 999 h1 h2) (rw_S q67 q68 q2 q69) kd_X0_requireArgument ⟨Nat.le_of_ble_eq_true rfl, Nat.le_of_ble_eq_true rfl⟩ C.2.2.2.2.2.1 hP hD hS hl.1 rfl rfl (Nat.le_of_ble_eq_true rfl) dX0_bind_13 ⟨Nat.le_of_ble_eq_true rfl, Nat.le_of_ble_eq_true rfl⟩) (fun w' H locs hv _ _ hP hD hS => ?_)
  subst hv
  have hD : va_D A (ra_w cI o ad u) := hD
  refine lv_aload_n hx hb dX0_bind_16 rfl (lv_at hl 0 rfl) ?_
  refine x0_gf C hP 1 (by decide) (v := .ref (ad 1)) rfl rfl q12 dX0_bind_17 ?_
  refine lv_iload_n hx hb dX0_bind_20 rfl (lv_at hl 1 rfl) ?_
  refine lv_dup2_11 hx hb dX0_bind_21 rfl rfl ?_
  refine x0_ld C hP (k := 1) (i := r) (Or.inl (by decide)) (show r < 8 by omega) rfl dX0_bind_22 ?_
  refine lv_iload_n hx hb dX0_bind_23 rfl (lv_at hl 2 rfl) ?_
  refine lv_iadd hx hb dX0_bind_24 ?_
  refine x0_st C hP hD hS (k := 1) (i := r) (Or.inl (by decide)) (show r < 8 by omega) rfl dX0_bind_25 (fun H locs hP hD hS => ?_)
  obtain ⟨u1, eu1⟩ : ∃ z : S0, z = ra_s u 1 r ((u.1 1 r) + x) := ⟨_, rfl⟩
  have hP : va_P D vwCl (ra_w cI o ad u1) H := by rw [eu1]; exact hP
  have hD : va_D A (ra_w cI o ad u1) := by rw [eu1]; exact hD
  refine lv_aload_n hx hb dX0_bind_26 rfl (lv_at hl 0 rfl) ?_
  refine x0_gf C hP 1 (by decide) (v := .ref (ad 1)) rfl rfl q12 dX0_bind_27 ?_
  refine lv_iload_n hx hb dX0_bind_30 rfl (lv_at hl 1 rfl) ?_
  refine x0_ld C hP (k := 1) (i := r) (Or.inl (by decide)) (show r < 8 by omega) rfl dX0_bind_31 ?_
  exact g_iret C hrt hP hD hS dX0_bind_32 ⟨by subst eu1; exact ra_sS, by subst eu1; rfl⟩
theorem kd_X0_lend : yX0_lend.cls = yX0_lend.cls ∧ yX0_lend.cls ≠ "java/lang/invoke/MethodHandle" ∧ yX0_lend.cls ≠ "java/lang/invoke/VarHandle" ∧ (parseMethodDescriptor yX0_lend.desc).map (fun d => d.parameters.length) = some 2 := by decide +kernel
set_option maxHeartbeats 4000000 in
set_option maxRecDepth 100000 in
theorem mX0_lend (l : Launch) (D : va_G) (t : Nat → Nat) (cI : ClassId) (o : Nat) (ad : Nat → Nat) (sz : Nat) (u : S0) (hh : u.2.1 ≤ 8) (r : Nat) (hr : r < u.2.1) (x : Int32) (h1 : ¬ x < 1) (h2 : x ≤ 2000) (h3 : ¬ 5000 < u.1 4 r + x) : gMi l yX0_lend (rw_ yX0_lend cX0_lend 3 (some .int)) (rm_ 1 0 0 22) [.ref o, .int (nI r), .int x] D [(cI, .int)] t (ra_w cI o ad u) sz (fun v w' => v = u.1 4 r + x ∧ w' = ra_w cI o ad (ra_s u 4 r (u.1 4 r + x))) := by
  refine g_of (cc := cX0_lend) (nL := 3) (rt := (some .int)) (Q := fun A => va_Qi _ (fun w' U => gQ D A w' U) A) (by decide) (Nat.le_of_ble_eq_true rfl) (fun p e s m args below meth c A ls H C hrt hnm hS hP hD hl => ?_)
  have hx := C.1
  have hb := C.2.1
  have hown := C.2.2.2.1
  have hts := C.2.2.2.2.1
  have hl : lv_has ls 3 [(0, .ref o), (1, .int (nI r)), (2, .int x)] := hl
  refine lv_iload_n hx hb dX0_lend_0 rfl (lv_at hl 1 rfl) ?_
  refine lv_aload_n hx hb dX0_lend_1 rfl (lv_at hl 0 rfl) ?_
  refine x0_gf C hP 9 (by decide) (v := .int (nI u.2.1)) rfl rfl q66 dX0_lend_2 ?_
  refine g_cv (wr := []) (cells' := 0) (slots' := 0) rfl rfl C rd_nil hD hS (g_runS (wr := []) (n := 2) (As := [.int (nI r), .int (nI u.2.1)]) C (mX0_requireIndex l D t [(cI, .int)] (ra_w cI o ad u) H.size r u.2.1 (by omega) (by omega)) (rw_S q89 q90 q2 q91) kd_X0_requireIndex ⟨Nat.le_of_ble_eq_true rfl, Nat.le_of_ble_eq_true rfl⟩ C.2.2.2.2.2.1 hP hD hS hl.1 rfl rfl (Nat.le_of_ble_eq_true rfl) dX0_lend_5 ⟨Nat.le_of_ble_eq_true rfl, Nat.le_of_ble_eq_true rfl⟩) (fun w' H locs hv _ _ hP hD hS => ?_)
  subst hv
  have hD : va_D A (ra_w cI o ad u) := hD
  refine lv_iload_n hx hb dX0_lend_8 rfl (lv_at hl 2 rfl) ?_
  refine lv_iconst (v := 1) hx hb dX0_lend_9 (by decide) ?_
  refine lv_sipush (v := 2000) hx hb dX0_lend_10 (by decide) ?_
  refine g_cv (wr := []) (cells' := 0) (slots' := 0) rfl rfl C rd_nil hD hS (g_runS (wr := []) (n := 3) (As := [.int x, .int 1, .int 2000]) C (mX0_requireArgument l D t [(cI, .int)] (ra_w cI o ad u) H.size x 1 2000 h1 h2) (rw_S q67 q68 q2 q69) kd_X0_requireArgument ⟨Nat.le_of_ble_eq_true rfl, Nat.le_of_ble_eq_true rfl⟩ C.2.2.2.2.2.1 hP hD hS hl.1 rfl rfl (Nat.le_of_ble_eq_true rfl) dX0_lend_13 ⟨Nat.le_of_ble_eq_true rfl, Nat.le_of_ble_eq_true rfl⟩) (fun w' H locs hv _ _ hP hD hS => ?_)
  subst hv
  have hD : va_D A (ra_w cI o ad u) := hD
  refine lv_aload_n hx hb dX0_lend_16 rfl (lv_at hl 0 rfl) ?_
  refine x0_gf C hP 4 (by decide) (v := .ref (ad 4)) rfl rfl q15 dX0_lend_17 ?_
  refine lv_iload_n hx hb dX0_lend_20 rfl (lv_at hl 1 rfl) ?_
  refine x0_ld C hP (k := 4) (i := r) (Or.inl (by decide)) (show r < 8 by omega) rfl dX0_lend_21 ?_
  refine lv_iload_n hx hb dX0_lend_22 rfl (lv_at hl 2 rfl) ?_
  refine lv_iadd hx hb dX0_lend_23 ?_
  refine lv_sipush (v := 5000) hx hb dX0_lend_24 (by decide) ?_
  refine lv_icmp_gt (tgt := 34) hx hb dX0_lend_27 (by decide) (fun c1 => absurd c1 h3) (fun c1 => ?_)
  refine lv_iconst (v := 1) hx hb dX0_lend_30 (by decide) ?_
  refine lv_goto (tgt := 35) hx hb dX0_lend_31 (by decide) ?_
  refine g_cv (wr := []) (cells' := 0) (slots' := 0) rfl rfl C rd_nil hD hS (g_runS (wr := []) (n := 1) (As := [.int 1]) C (mX0_requireState l D t [(cI, .int)] (ra_w cI o ad u) H.size 1 (by decide)) (rw_S q72 q73 q2 q74) kd_X0_requireState ⟨Nat.le_of_ble_eq_true rfl, Nat.le_of_ble_eq_true rfl⟩ C.2.2.2.2.2.1 hP hD hS hl.1 rfl rfl (Nat.le_of_ble_eq_true rfl) dX0_lend_35 ⟨Nat.le_of_ble_eq_true rfl, Nat.le_of_ble_eq_true rfl⟩) (fun w' H locs hv _ _ hP hD hS => ?_)
  subst hv
  have hD : va_D A (ra_w cI o ad u) := hD
  refine lv_aload_n hx hb dX0_lend_38 rfl (lv_at hl 0 rfl) ?_
  refine x0_gf C hP 4 (by decide) (v := .ref (ad 4)) rfl rfl q15 dX0_lend_39 ?_
  refine lv_iload_n hx hb dX0_lend_42 rfl (lv_at hl 1 rfl) ?_
  refine lv_dup2_11 hx hb dX0_lend_43 rfl rfl ?_
  refine x0_ld C hP (k := 4) (i := r) (Or.inl (by decide)) (show r < 8 by omega) rfl dX0_lend_44 ?_
  refine lv_iload_n hx hb dX0_lend_45 rfl (lv_at hl 2 rfl) ?_
  refine lv_iadd hx hb dX0_lend_46 ?_
  refine x0_st C hP hD hS (k := 4) (i := r) (Or.inl (by decide)) (show r < 8 by omega) rfl dX0_lend_47 (fun H locs hP hD hS => ?_)
  obtain ⟨u2, eu2⟩ : ∃ z : S0, z = ra_s u 4 r ((u.1 4 r) + x) := ⟨_, rfl⟩
  have hP : va_P D vwCl (ra_w cI o ad u2) H := by rw [eu2]; exact hP
  have hD : va_D A (ra_w cI o ad u2) := by rw [eu2]; exact hD
  refine lv_aload_n hx hb dX0_lend_48 rfl (lv_at hl 0 rfl) ?_
  refine x0_gf C hP 4 (by decide) (v := .ref (ad 4)) rfl rfl q15 dX0_lend_49 ?_
  refine lv_iload_n hx hb dX0_lend_52 rfl (lv_at hl 1 rfl) ?_
  refine x0_ld C hP (k := 4) (i := r) (Or.inl (by decide)) (show r < 8 by omega) rfl dX0_lend_53 ?_
  exact g_iret C hrt hP hD hS dX0_lend_54 ⟨by subst eu2; exact ra_sS, by subst eu2; rfl⟩
theorem kd_X0_work : yX0_work.cls = yX0_work.cls ∧ yX0_work.cls ≠ "java/lang/invoke/MethodHandle" ∧ yX0_work.cls ≠ "java/lang/invoke/VarHandle" ∧ (parseMethodDescriptor yX0_work.desc).map (fun d => d.parameters.length) = some 3 := by decide +kernel
set_option maxHeartbeats 4000000 in
set_option maxRecDepth 100000 in
theorem mX0_work (l : Launch) (D : va_G) (t : Nat → Nat) (cI : ClassId) (o : Nat) (ad : Nat → Nat) (sz : Nat) (u : S0) (hh : u.2.1 ≤ 8) (r : Nat) (hr : r < u.2.1) (x b : Int32) (h1 : ¬ x < 0) (h2 : x ≤ 16) (h3 : ¬ 99 < u.1 2 r + x) : gMi l yX0_work (rw_ yX0_work cX0_work 4 (some .int)) (rm_ 1 0 0 22) [.ref o, .int (nI r), .int x, .int b] D [(cI, .int)] t (ra_w cI o ad u) sz (fun v w' => v = u.1 2 r + x ∧ w' = ra_w cI o ad (rf_wk u r x b)) := by
  refine g_of (cc := cX0_work) (nL := 4) (rt := (some .int)) (Q := fun A => va_Qi _ (fun w' U => gQ D A w' U) A) (by decide) (Nat.le_of_ble_eq_true rfl) (fun p e s m args below meth c A ls H C hrt hnm hS hP hD hl => ?_)
  have hx := C.1
  have hb := C.2.1
  have hown := C.2.2.2.1
  have hts := C.2.2.2.2.1
  have hl : lv_has ls 4 [(0, .ref o), (1, .int (nI r)), (2, .int x), (3, .int b)] := hl
  refine lv_iload_n hx hb dX0_work_0 rfl (lv_at hl 1 rfl) ?_
  refine lv_aload_n hx hb dX0_work_1 rfl (lv_at hl 0 rfl) ?_
  refine x0_gf C hP 9 (by decide) (v := .int (nI u.2.1)) rfl rfl q66 dX0_work_2 ?_
  refine g_cv (wr := []) (cells' := 0) (slots' := 0) rfl rfl C rd_nil hD hS (g_runS (wr := []) (n := 2) (As := [.int (nI r), .int (nI u.2.1)]) C (mX0_requireIndex l D t [(cI, .int)] (ra_w cI o ad u) H.size r u.2.1 (by omega) (by omega)) (rw_S q89 q90 q2 q91) kd_X0_requireIndex ⟨Nat.le_of_ble_eq_true rfl, Nat.le_of_ble_eq_true rfl⟩ C.2.2.2.2.2.1 hP hD hS hl.1 rfl rfl (Nat.le_of_ble_eq_true rfl) dX0_work_5 ⟨Nat.le_of_ble_eq_true rfl, Nat.le_of_ble_eq_true rfl⟩) (fun w' H locs hv _ _ hP hD hS => ?_)
  subst hv
  have hD : va_D A (ra_w cI o ad u) := hD
  refine lv_iload_n hx hb dX0_work_8 rfl (lv_at hl 2 rfl) ?_
  refine lv_iconst (v := 0) hx hb dX0_work_9 (by decide) ?_
  refine lv_bipush (v := 16) hx hb dX0_work_10 (by decide) ?_
  refine g_cv (wr := []) (cells' := 0) (slots' := 0) rfl rfl C rd_nil hD hS (g_runS (wr := []) (n := 3) (As := [.int x, .int 0, .int 16]) C (mX0_requireArgument l D t [(cI, .int)] (ra_w cI o ad u) H.size x 0 16 h1 h2) (rw_S q67 q68 q2 q69) kd_X0_requireArgument ⟨Nat.le_of_ble_eq_true rfl, Nat.le_of_ble_eq_true rfl⟩ C.2.2.2.2.2.1 hP hD hS hl.1 rfl rfl (Nat.le_of_ble_eq_true rfl) dX0_work_12 ⟨Nat.le_of_ble_eq_true rfl, Nat.le_of_ble_eq_true rfl⟩) (fun w' H locs hv _ _ hP hD hS => ?_)
  subst hv
  have hD : va_D A (ra_w cI o ad u) := hD
  refine lv_aload_n hx hb dX0_work_15 rfl (lv_at hl 0 rfl) ?_
  refine x0_gf C hP 2 (by decide) (v := .ref (ad 2)) rfl rfl q13 dX0_work_16 ?_
  refine lv_iload_n hx hb dX0_work_19 rfl (lv_at hl 1 rfl) ?_
  refine x0_ld C hP (k := 2) (i := r) (Or.inl (by decide)) (show r < 8 by omega) rfl dX0_work_20 ?_
  refine lv_iload_n hx hb dX0_work_21 rfl (lv_at hl 2 rfl) ?_
  refine lv_iadd hx hb dX0_work_22 ?_
  refine lv_bipush (v := 99) hx hb dX0_work_23 (by decide) ?_
  refine lv_icmp_gt (tgt := 32) hx hb dX0_work_25 (by decide) (fun c1 => absurd c1 h3) (fun c1 => ?_)
  refine lv_iconst (v := 1) hx hb dX0_work_28 (by decide) ?_
  refine lv_goto (tgt := 33) hx hb dX0_work_29 (by decide) ?_
  refine g_cv (wr := []) (cells' := 0) (slots' := 0) rfl rfl C rd_nil hD hS (g_runS (wr := []) (n := 1) (As := [.int 1]) C (mX0_requireState l D t [(cI, .int)] (ra_w cI o ad u) H.size 1 (by decide)) (rw_S q72 q73 q2 q74) kd_X0_requireState ⟨Nat.le_of_ble_eq_true rfl, Nat.le_of_ble_eq_true rfl⟩ C.2.2.2.2.2.1 hP hD hS hl.1 rfl rfl (Nat.le_of_ble_eq_true rfl) dX0_work_33 ⟨Nat.le_of_ble_eq_true rfl, Nat.le_of_ble_eq_true rfl⟩) (fun w' H locs hv _ _ hP hD hS => ?_)
  subst hv
  have hD : va_D A (ra_w cI o ad u) := hD
  refine lv_aload_n hx hb dX0_work_36 rfl (lv_at hl 0 rfl) ?_
  refine x0_gf C hP 2 (by decide) (v := .ref (ad 2)) rfl rfl q13 dX0_work_37 ?_
  refine lv_iload_n hx hb dX0_work_40 rfl (lv_at hl 1 rfl) ?_
  refine lv_dup2_11 hx hb dX0_work_41 rfl rfl ?_
  refine x0_ld C hP (k := 2) (i := r) (Or.inl (by decide)) (show r < 8 by omega) rfl dX0_work_42 ?_
  refine lv_iload_n hx hb dX0_work_43 rfl (lv_at hl 2 rfl) ?_
  refine lv_iadd hx hb dX0_work_44 ?_
  refine x0_st C hP hD hS (k := 2) (i := r) (Or.inl (by decide)) (show r < 8 by omega) rfl dX0_work_45 (fun H locs hP hD hS => ?_)
  obtain ⟨u2, eu2⟩ : ∃ z : S0, z = ra_s u 2 r ((u.1 2 r) + x) := ⟨_, rfl⟩
  have hP : va_P D vwCl (ra_w cI o ad u2) H := by rw [eu2]; exact hP
  have hD : va_D A (ra_w cI o ad u2) := by rw [eu2]; exact hD
  refine lv_iload_n hx hb dX0_work_46 rfl (lv_at hl 3 rfl) ?_
  refine lv_if_eq (tgt := 60) hx hb dX0_work_47 (by decide) (fun c3 => ?_) (fun c3 => ?_)
  · refine lv_aload_n hx hb dX0_work_60 rfl (lv_at hl 0 rfl) ?_
    refine x0_gf C hP 2 (by decide) (v := .ref (ad 2)) rfl rfl q13 dX0_work_61 ?_
    refine lv_iload_n hx hb dX0_work_64 rfl (lv_at hl 1 rfl) ?_
    refine x0_ld C hP (k := 2) (i := r) (Or.inl (by decide)) (show r < 8 by omega) rfl dX0_work_65 ?_
    exact g_iret C hrt hP hD hS dX0_work_66 ⟨by subst eu2; exact ra_sS, by subst eu2; rw [rf_wk, if_pos c3]⟩
  · refine lv_aload_n hx hb dX0_work_50 rfl (lv_at hl 0 rfl) ?_
    refine x0_gf C hP 3 (by decide) (v := .ref (ad 3)) rfl rfl q14 dX0_work_51 ?_
    refine lv_iload_n hx hb dX0_work_54 rfl (lv_at hl 1 rfl) ?_
    refine lv_dup2_11 hx hb dX0_work_55 rfl rfl ?_
    refine x0_ld C hP (k := 3) (i := r) (Or.inl (by decide)) (show r < 8 by omega) rfl dX0_work_56 ?_
    refine lv_iconst (v := 1) hx hb dX0_work_57 (by decide) ?_
    refine lv_iadd hx hb dX0_work_58 ?_
    refine x0_st C hP hD hS (k := 3) (i := r) (Or.inl (by decide)) (show r < 8 by omega) rfl dX0_work_59 (fun H locs hP hD hS => ?_)
    obtain ⟨u4, eu4⟩ : ∃ z : S0, z = ra_s u2 3 r ((u2.1 3 r) + 1) := ⟨_, rfl⟩
    have hP : va_P D vwCl (ra_w cI o ad u4) H := by rw [eu4]; exact hP
    have hD : va_D A (ra_w cI o ad u4) := by rw [eu4]; exact hD
    refine lv_aload_n hx hb dX0_work_60 rfl (lv_at hl 0 rfl) ?_
    refine x0_gf C hP 2 (by decide) (v := .ref (ad 2)) rfl rfl q13 dX0_work_61 ?_
    refine lv_iload_n hx hb dX0_work_64 rfl (lv_at hl 1 rfl) ?_
    refine x0_ld C hP (k := 2) (i := r) (Or.inl (by decide)) (show r < 8 by omega) rfl dX0_work_65 ?_
    exact g_iret C hrt hP hD hS dX0_work_66 ⟨by subst eu4; subst eu2; exact (congrFun (ra_sN (by decide)) r).trans ra_sS, by subst eu4; subst eu2; rw [rf_wk, if_neg c3]⟩
theorem kd_X0_pay : yX0_pay.cls = yX0_pay.cls ∧ yX0_pay.cls ≠ "java/lang/invoke/MethodHandle" ∧ yX0_pay.cls ≠ "java/lang/invoke/VarHandle" ∧ (parseMethodDescriptor yX0_pay.desc).map (fun d => d.parameters.length) = some 0 := by decide +kernel
set_option maxHeartbeats 4000000 in
set_option maxRecDepth 100000 in
theorem lpX0_pay {p : Program} {l : Launch} {e : Env} {s : State} {m : MethodId} {args : Array Value} {below : List Frame} {meth : Method} {c : Code} {Q : State → Prop} {D : va_G} {t : Nat → Nat} {A : Nat → Prop} {cI : ClassId} {o : Nat} {ad : Nat → Nat} {u : S0} (C : gC p s m args meth c cX0_pay 3 RX0 D [(cI, .int)] t A) (hh : u.2.1 ≤ 8) (kk : ∀ (H : Heap) (locs : List Loc) (ls : Array Slot), va_P D vwCl (ra_w cI o ad ((rf_py u u.2.1).2)) H → va_D A (ra_w cI o ad ((rf_py u u.2.1).2)) → va_S A s.heap H locs → lv_has ls 3 [(0, .ref o), (1, .int ((rf_py u u.2.1).1)), (2, .int (nI u.2.1))] → W p l e (rm_ 6 0 0 134) s m args below meth c H locs 0 0 Q (F0 m 26 ls [])) :
    ∀ (n i : Nat), i + n = u.2.1 → ∀ (H : Heap) (locs : List Loc) (ls : Array Slot), va_P D vwCl (ra_w cI o ad ((rf_py u i).2)) H → va_D A (ra_w cI o ad ((rf_py u i).2)) → va_S A s.heap H locs → lv_has ls 3 [(0, .ref o), (1, .int ((rf_py u i).1)), (2, .int (nI i))] → W p l e (rm_ 6 0 0 134) s m args below meth c H locs 0 0 Q (F0 m 4 ls []) := by
  have hx := C.1
  have hb := C.2.1
  have hown := C.2.2.2.1
  have hts := C.2.2.2.2.1
  intro n
  induction n with
  | zero =>
    intro i hi H locs ls hP hD hS hl
    have hiN : i = u.2.1 := by omega
    refine lv_iload_n hx hb dX0_pay_4 rfl (lv_at hl 2 rfl) ?_
    refine lv_aload_n hx hb dX0_pay_5 rfl (lv_at hl 0 rfl) ?_
    refine x0_gf C hP 9 (by decide) (v := .int (nI (((rf_py u i).2).2.1))) rfl rfl q66 dX0_pay_6 ?_
    refine g_top (congrArg (fun z => nI z.1) (rf_py2 u i)) ?_
    refine lv_icmp_ge (tgt := 26) hx hb dX0_pay_9 (by decide) (fun c1 => ?_) (fun c1 => absurd ((nI_leI (a := u.2.1) (b := i) (by omega) (by omega)).mpr (by omega)) c1)
    subst hiN
    exact kk _ _ _ hP hD hS (lv_sub hl [0, 1, 2] rfl)
  | succ n ih =>
    intro i hi H locs ls hP hD hS hl
    have hin : i < u.2.1 := by omega
    refine lv_iload_n hx hb dX0_pay_4 rfl (lv_at hl 2 rfl) ?_
    refine lv_aload_n hx hb dX0_pay_5 rfl (lv_at hl 0 rfl) ?_
    refine x0_gf C hP 9 (by decide) (v := .int (nI (((rf_py u i).2).2.1))) rfl rfl q66 dX0_pay_6 ?_
    refine g_top (congrArg (fun z => nI z.1) (rf_py2 u i)) ?_
    refine lv_icmp_ge (tgt := 26) hx hb dX0_pay_9 (by decide) (fun c1 => absurd c1 (fun h9 => absurd ((nI_leI (a := u.2.1) (b := i) (by omega) (by omega)).mp h9) (by omega))) (fun c1 => ?_)
    refine lv_iload_n hx hb dX0_pay_12 rfl (lv_at hl 1 rfl) ?_
    refine lv_aload_n hx hb dX0_pay_13 rfl (lv_at hl 0 rfl) ?_
    refine lv_iload_n hx hb dX0_pay_14 rfl (lv_at hl 2 rfl) ?_
    refine g_ci (wr := []) (cells' := 0) (slots' := 0) rfl rfl C rd_nil hD hS (g_runV (wr := []) (n := 1) C (mX0_settle l D t cI o ad H.size ((rf_py u i).2) i (by omega)) (rw_V q111 q112 q113 q2 q114) kd_X0_settle ⟨Nat.le_of_ble_eq_true rfl, Nat.le_of_ble_eq_true rfl⟩ (ci := 0) rfl rfl rfl C.2.2.2.2.2.1 hP hD hS hl.1 rfl rfl (Nat.le_of_ble_eq_true rfl) dX0_pay_15 ⟨Nat.le_of_ble_eq_true rfl, Nat.le_of_ble_eq_true rfl⟩) (fun v w' H locs hv _ _ hP hD hS => ?_)
    obtain ⟨rfl, rfl⟩ := hv
    have hD : va_D A (ra_w cI o ad (rf_st ((rf_py u i).2) i)) := hD
    obtain ⟨u2, eu2⟩ : ∃ z : S0, z = rf_st ((rf_py u i).2) i := ⟨_, rfl⟩
    have hP : va_P D vwCl (ra_w cI o ad u2) H := by rw [eu2]; exact hP
    have hD : va_D A (ra_w cI o ad u2) := by rw [eu2]; exact hD
    refine lv_iadd hx hb dX0_pay_18 ?_
    refine lv_topi (fun v3 ev3 => ?_)
    refine lv_istore_n (lv' := [(1, .int v3), (0, .ref o), (2, .int (nI i))]) hx hb dX0_pay_19 rfl hl (by decide) rfl (fun ls hl => ?_)
    refine lv_iinc (v := nI (i + 1)) (lv' := [(2, .int (nI (i + 1))), (1, .int v3), (0, .ref o)]) hx hb dX0_pay_20 hl (k := 2) rfl (nI_1 _) (by decide) rfl (fun ls hl => ?_)
    refine lv_goto (tgt := 4) hx hb dX0_pay_23 (by decide) ?_
    subst ev3; subst eu2
    exact ih (i + 1) (by omega) _ _ _ hP hD hS (lv_sub hl [2, 1, 0] rfl)
set_option maxHeartbeats 4000000 in
set_option maxRecDepth 100000 in
theorem mX0_pay (l : Launch) (D : va_G) (t : Nat → Nat) (cI : ClassId) (o : Nat) (ad : Nat → Nat) (sz : Nat) (u : S0) (hh : u.2.1 ≤ 8) : gMi l yX0_pay (rw_ yX0_pay cX0_pay 3 (some .int)) (rm_ 6 0 0 134) [.ref o] D [(cI, .int)] t (ra_w cI o ad u) sz (fun v w' => v = (rf_py u u.2.1).1 ∧ w' = ra_w cI o ad ((rf_py u u.2.1).2.1, (rf_py u u.2.1).2.2.1, (rf_py u u.2.1).2.2.2 + 1)) := by
  refine g_of (cc := cX0_pay) (nL := 3) (rt := (some .int)) (Q := fun A => va_Qi _ (fun w' U => gQ D A w' U) A) (by decide) (Nat.le_of_ble_eq_true rfl) (fun p e s m args below meth c A ls H C hrt hnm hS hP hD hl => ?_)
  have hx := C.1
  have hb := C.2.1
  have hown := C.2.2.2.1
  have hts := C.2.2.2.2.1
  have hl : lv_has ls 3 [(0, .ref o)] := hl
  refine lv_iconst (v := 0) hx hb dX0_pay_0 (by decide) ?_
  refine lv_istore_n (lv' := [(1, .int 0), (0, .ref o)]) hx hb dX0_pay_1 rfl hl (by decide) rfl (fun ls hl => ?_)
  refine lv_iconst (v := 0) hx hb dX0_pay_2 (by decide) ?_
  refine lv_istore_n (lv' := [(2, .int 0), (1, .int 0), (0, .ref o)]) hx hb dX0_pay_3 rfl hl (by decide) rfl (fun ls hl => ?_)
  refine lpX0_pay  C hh (fun H locs ls hP hD hS hl => ?_) u.2.1 0 (by omega) _ _ _ hP hD hS (lv_sub hl [2, 1, 0] rfl)
  refine lv_aload_n hx hb dX0_pay_26 rfl (lv_at hl 0 rfl) ?_
  refine lv_dup hx hb dX0_pay_27 rfl ?_
  refine x0_gf C hP 10 (by decide) (v := .int (((rf_py u u.2.1).2).2.2)) rfl rfl q110 dX0_pay_28 ?_
  refine lv_iconst (v := 1) hx hb dX0_pay_31 (by decide) ?_
  refine lv_iadd hx hb dX0_pay_32 ?_
  refine x0_pw C hP hD hS q110 dX0_pay_33 (fun H locs hP hD hS => ?_)
  obtain ⟨u1, eu1⟩ : ∃ z : S0, z = (((rf_py u u.2.1).2).1, ((rf_py u u.2.1).2).2.1, (((rf_py u u.2.1).2).2.2) + 1) := ⟨_, rfl⟩
  have hP : va_P D vwCl (ra_w cI o ad u1) H := by rw [eu1]; exact hP
  have hD : va_D A (ra_w cI o ad u1) := by rw [eu1]; exact hD
  refine lv_iload_n hx hb dX0_pay_36 rfl (lv_at hl 1 rfl) ?_
  exact g_iret C hrt hP hD hS dX0_pay_37 ⟨by subst eu1; rfl, by subst eu1; rfl⟩
theorem kd_X0_told : yX0_told.cls = yX0_told.cls ∧ yX0_told.cls ≠ "java/lang/invoke/MethodHandle" ∧ yX0_told.cls ≠ "java/lang/invoke/VarHandle" ∧ (parseMethodDescriptor yX0_told.desc).map (fun d => d.parameters.length) = some 2 := by decide +kernel
set_option maxHeartbeats 4000000 in
set_option maxRecDepth 100000 in
theorem mX0_told (l : Launch) (D : va_G) (t : Nat → Nat) (cI : ClassId) (o : Nat) (ad : Nat → Nat) (sz : Nat) (u : S0) (hh : u.2.1 ≤ 8) (r : Nat) (hr : r < u.2.1) (k : Nat) (hk8 : k < 8) : gMi l yX0_told (rw_ yX0_told cX0_told 3 (some .int)) (rm_ 2 0 0 45) [.ref o, .int (nI r), .int (nI k)] D [(cI, .int)] t (ra_w cI o ad u) sz (fun v w' => v = rf_told u r k ∧ w' = ra_w cI o ad u) := by
  refine g_of (cc := cX0_told) (nL := 3) (rt := (some .int)) (Q := fun A => va_Qi _ (fun w' U => gQ D A w' U) A) (by decide) (Nat.le_of_ble_eq_true rfl) (fun p e s m args below meth c A ls H C hrt hnm hS hP hD hl => ?_)
  have hx := C.1
  have hb := C.2.1
  have hown := C.2.2.2.1
  have hts := C.2.2.2.2.1
  have hl : lv_has ls 3 [(0, .ref o), (1, .int (nI r)), (2, .int (nI k))] := hl
  have hk9 : k = 0 ∨ k = 1 ∨ k = 2 ∨ k = 3 ∨ k = 4 ∨ k = 5 ∨ k = 6 ∨ k = 7 := by omega
  rcases hk9 with rfl | rfl | rfl | rfl | rfl | rfl | rfl | rfl
  · have hl : lv_has ls 3 [(0, .ref o), (1, .int (nI r)), (2, .int (nI 0))] := hl
    refine lv_iload_n hx hb dX0_told_0 rfl (lv_at hl 1 rfl) ?_
    refine lv_aload_n hx hb dX0_told_1 rfl (lv_at hl 0 rfl) ?_
    refine x0_gf C hP 9 (by decide) (v := .int (nI u.2.1)) rfl rfl q66 dX0_told_2 ?_
    refine g_cv (wr := []) (cells' := 0) (slots' := 0) rfl rfl C rd_nil hD hS (g_runS (wr := []) (n := 2) (As := [.int (nI r), .int (nI u.2.1)]) C (mX0_requireIndex l D t [(cI, .int)] (ra_w cI o ad u) H.size r u.2.1 (by omega) (by omega)) (rw_S q89 q90 q2 q91) kd_X0_requireIndex ⟨Nat.le_of_ble_eq_true rfl, Nat.le_of_ble_eq_true rfl⟩ C.2.2.2.2.2.1 hP hD hS hl.1 rfl rfl (Nat.le_of_ble_eq_true rfl) dX0_told_5 ⟨Nat.le_of_ble_eq_true rfl, Nat.le_of_ble_eq_true rfl⟩) (fun w' H locs hv _ _ hP hD hS => ?_)
    subst hv
    have hD : va_D A (ra_w cI o ad u) := hD
    refine lv_iload_n hx hb dX0_told_8 rfl (lv_at hl 2 rfl) ?_
    refine lv_bipush (v := 8) hx hb dX0_told_9 (by decide) ?_
    refine g_cv (wr := []) (cells' := 0) (slots' := 0) rfl rfl C rd_nil hD hS (g_runS (wr := []) (n := 2) (As := [.int (nI 0), .int 8]) C (mX0_requireIndex l D t [(cI, .int)] (ra_w cI o ad u) H.size 0 8 (by omega) (by omega)) (rw_S q89 q90 q2 q91) kd_X0_requireIndex ⟨Nat.le_of_ble_eq_true rfl, Nat.le_of_ble_eq_true rfl⟩ C.2.2.2.2.2.1 hP hD hS hl.1 rfl rfl (Nat.le_of_ble_eq_true rfl) dX0_told_11 ⟨Nat.le_of_ble_eq_true rfl, Nat.le_of_ble_eq_true rfl⟩) (fun w' H locs hv _ _ hP hD hS => ?_)
    subst hv
    have hD : va_D A (ra_w cI o ad u) := hD
    refine lv_iload_n hx hb dX0_told_14 rfl (lv_at hl 2 rfl) ?_
    refine lv_tableIn (off := 41) (tgt := 56) hx hb dX0_told_15 (by decide) (by decide) rfl (by decide) ?_
    refine lv_aload_n hx hb dX0_told_56 rfl (lv_at hl 0 rfl) ?_
    refine x0_gf C hP 0 (by decide) (v := .ref (ad 0)) rfl rfl q11 dX0_told_57 ?_
    refine lv_iload_n hx hb dX0_told_60 rfl (lv_at hl 1 rfl) ?_
    refine x0_ld C hP (k := 0) (i := r) (Or.inl (by decide)) (show r < 8 by omega) rfl dX0_told_61 ?_
    exact g_iret C hrt hP hD hS dX0_told_62 ⟨by skip; rfl, by skip; rfl⟩
  · have hl : lv_has ls 3 [(0, .ref o), (1, .int (nI r)), (2, .int (nI 1))] := hl
    refine lv_iload_n hx hb dX0_told_0 rfl (lv_at hl 1 rfl) ?_
    refine lv_aload_n hx hb dX0_told_1 rfl (lv_at hl 0 rfl) ?_
    refine x0_gf C hP 9 (by decide) (v := .int (nI u.2.1)) rfl rfl q66 dX0_told_2 ?_
    refine g_cv (wr := []) (cells' := 0) (slots' := 0) rfl rfl C rd_nil hD hS (g_runS (wr := []) (n := 2) (As := [.int (nI r), .int (nI u.2.1)]) C (mX0_requireIndex l D t [(cI, .int)] (ra_w cI o ad u) H.size r u.2.1 (by omega) (by omega)) (rw_S q89 q90 q2 q91) kd_X0_requireIndex ⟨Nat.le_of_ble_eq_true rfl, Nat.le_of_ble_eq_true rfl⟩ C.2.2.2.2.2.1 hP hD hS hl.1 rfl rfl (Nat.le_of_ble_eq_true rfl) dX0_told_5 ⟨Nat.le_of_ble_eq_true rfl, Nat.le_of_ble_eq_true rfl⟩) (fun w' H locs hv _ _ hP hD hS => ?_)
    subst hv
    have hD : va_D A (ra_w cI o ad u) := hD
    refine lv_iload_n hx hb dX0_told_8 rfl (lv_at hl 2 rfl) ?_
    refine lv_bipush (v := 8) hx hb dX0_told_9 (by decide) ?_
    refine g_cv (wr := []) (cells' := 0) (slots' := 0) rfl rfl C rd_nil hD hS (g_runS (wr := []) (n := 2) (As := [.int (nI 1), .int 8]) C (mX0_requireIndex l D t [(cI, .int)] (ra_w cI o ad u) H.size 1 8 (by omega) (by omega)) (rw_S q89 q90 q2 q91) kd_X0_requireIndex ⟨Nat.le_of_ble_eq_true rfl, Nat.le_of_ble_eq_true rfl⟩ C.2.2.2.2.2.1 hP hD hS hl.1 rfl rfl (Nat.le_of_ble_eq_true rfl) dX0_told_11 ⟨Nat.le_of_ble_eq_true rfl, Nat.le_of_ble_eq_true rfl⟩) (fun w' H locs hv _ _ hP hD hS => ?_)
    subst hv
    have hD : va_D A (ra_w cI o ad u) := hD
    refine lv_iload_n hx hb dX0_told_14 rfl (lv_at hl 2 rfl) ?_
    refine lv_tableIn (off := 48) (tgt := 63) hx hb dX0_told_15 (by decide) (by decide) rfl (by decide) ?_
    refine lv_aload_n hx hb dX0_told_63 rfl (lv_at hl 0 rfl) ?_
    refine x0_gf C hP 1 (by decide) (v := .ref (ad 1)) rfl rfl q12 dX0_told_64 ?_
    refine lv_iload_n hx hb dX0_told_67 rfl (lv_at hl 1 rfl) ?_
    refine x0_ld C hP (k := 1) (i := r) (Or.inl (by decide)) (show r < 8 by omega) rfl dX0_told_68 ?_
    exact g_iret C hrt hP hD hS dX0_told_69 ⟨by skip; rfl, by skip; rfl⟩
  · have hl : lv_has ls 3 [(0, .ref o), (1, .int (nI r)), (2, .int (nI 2))] := hl
    refine lv_iload_n hx hb dX0_told_0 rfl (lv_at hl 1 rfl) ?_
    refine lv_aload_n hx hb dX0_told_1 rfl (lv_at hl 0 rfl) ?_
    refine x0_gf C hP 9 (by decide) (v := .int (nI u.2.1)) rfl rfl q66 dX0_told_2 ?_
    refine g_cv (wr := []) (cells' := 0) (slots' := 0) rfl rfl C rd_nil hD hS (g_runS (wr := []) (n := 2) (As := [.int (nI r), .int (nI u.2.1)]) C (mX0_requireIndex l D t [(cI, .int)] (ra_w cI o ad u) H.size r u.2.1 (by omega) (by omega)) (rw_S q89 q90 q2 q91) kd_X0_requireIndex ⟨Nat.le_of_ble_eq_true rfl, Nat.le_of_ble_eq_true rfl⟩ C.2.2.2.2.2.1 hP hD hS hl.1 rfl rfl (Nat.le_of_ble_eq_true rfl) dX0_told_5 ⟨Nat.le_of_ble_eq_true rfl, Nat.le_of_ble_eq_true rfl⟩) (fun w' H locs hv _ _ hP hD hS => ?_)
    subst hv
    have hD : va_D A (ra_w cI o ad u) := hD
    refine lv_iload_n hx hb dX0_told_8 rfl (lv_at hl 2 rfl) ?_
    refine lv_bipush (v := 8) hx hb dX0_told_9 (by decide) ?_
    refine g_cv (wr := []) (cells' := 0) (slots' := 0) rfl rfl C rd_nil hD hS (g_runS (wr := []) (n := 2) (As := [.int (nI 2), .int 8]) C (mX0_requireIndex l D t [(cI, .int)] (ra_w cI o ad u) H.size 2 8 (by omega) (by omega)) (rw_S q89 q90 q2 q91) kd_X0_requireIndex ⟨Nat.le_of_ble_eq_true rfl, Nat.le_of_ble_eq_true rfl⟩ C.2.2.2.2.2.1 hP hD hS hl.1 rfl rfl (Nat.le_of_ble_eq_true rfl) dX0_told_11 ⟨Nat.le_of_ble_eq_true rfl, Nat.le_of_ble_eq_true rfl⟩) (fun w' H locs hv _ _ hP hD hS => ?_)
    subst hv
    have hD : va_D A (ra_w cI o ad u) := hD
    refine lv_iload_n hx hb dX0_told_14 rfl (lv_at hl 2 rfl) ?_
    refine lv_tableIn (off := 55) (tgt := 70) hx hb dX0_told_15 (by decide) (by decide) rfl (by decide) ?_
    refine lv_aload_n hx hb dX0_told_70 rfl (lv_at hl 0 rfl) ?_
    refine x0_gf C hP 2 (by decide) (v := .ref (ad 2)) rfl rfl q13 dX0_told_71 ?_
    refine lv_iload_n hx hb dX0_told_74 rfl (lv_at hl 1 rfl) ?_
    refine x0_ld C hP (k := 2) (i := r) (Or.inl (by decide)) (show r < 8 by omega) rfl dX0_told_75 ?_
    exact g_iret C hrt hP hD hS dX0_told_76 ⟨by skip; rfl, by skip; rfl⟩
  · have hl : lv_has ls 3 [(0, .ref o), (1, .int (nI r)), (2, .int (nI 3))] := hl
    refine lv_iload_n hx hb dX0_told_0 rfl (lv_at hl 1 rfl) ?_
    refine lv_aload_n hx hb dX0_told_1 rfl (lv_at hl 0 rfl) ?_
    refine x0_gf C hP 9 (by decide) (v := .int (nI u.2.1)) rfl rfl q66 dX0_told_2 ?_
    refine g_cv (wr := []) (cells' := 0) (slots' := 0) rfl rfl C rd_nil hD hS (g_runS (wr := []) (n := 2) (As := [.int (nI r), .int (nI u.2.1)]) C (mX0_requireIndex l D t [(cI, .int)] (ra_w cI o ad u) H.size r u.2.1 (by omega) (by omega)) (rw_S q89 q90 q2 q91) kd_X0_requireIndex ⟨Nat.le_of_ble_eq_true rfl, Nat.le_of_ble_eq_true rfl⟩ C.2.2.2.2.2.1 hP hD hS hl.1 rfl rfl (Nat.le_of_ble_eq_true rfl) dX0_told_5 ⟨Nat.le_of_ble_eq_true rfl, Nat.le_of_ble_eq_true rfl⟩) (fun w' H locs hv _ _ hP hD hS => ?_)
    subst hv
    have hD : va_D A (ra_w cI o ad u) := hD
    refine lv_iload_n hx hb dX0_told_8 rfl (lv_at hl 2 rfl) ?_
    refine lv_bipush (v := 8) hx hb dX0_told_9 (by decide) ?_
    refine g_cv (wr := []) (cells' := 0) (slots' := 0) rfl rfl C rd_nil hD hS (g_runS (wr := []) (n := 2) (As := [.int (nI 3), .int 8]) C (mX0_requireIndex l D t [(cI, .int)] (ra_w cI o ad u) H.size 3 8 (by omega) (by omega)) (rw_S q89 q90 q2 q91) kd_X0_requireIndex ⟨Nat.le_of_ble_eq_true rfl, Nat.le_of_ble_eq_true rfl⟩ C.2.2.2.2.2.1 hP hD hS hl.1 rfl rfl (Nat.le_of_ble_eq_true rfl) dX0_told_11 ⟨Nat.le_of_ble_eq_true rfl, Nat.le_of_ble_eq_true rfl⟩) (fun w' H locs hv _ _ hP hD hS => ?_)
    subst hv
    have hD : va_D A (ra_w cI o ad u) := hD
    refine lv_iload_n hx hb dX0_told_14 rfl (lv_at hl 2 rfl) ?_
    refine lv_tableIn (off := 62) (tgt := 77) hx hb dX0_told_15 (by decide) (by decide) rfl (by decide) ?_
    refine lv_aload_n hx hb dX0_told_77 rfl (lv_at hl 0 rfl) ?_
    refine x0_gf C hP 3 (by decide) (v := .ref (ad 3)) rfl rfl q14 dX0_told_78 ?_
    refine lv_iload_n hx hb dX0_told_81 rfl (lv_at hl 1 rfl) ?_
    refine x0_ld C hP (k := 3) (i := r) (Or.inl (by decide)) (show r < 8 by omega) rfl dX0_told_82 ?_
    exact g_iret C hrt hP hD hS dX0_told_83 ⟨by skip; rfl, by skip; rfl⟩
  · have hl : lv_has ls 3 [(0, .ref o), (1, .int (nI r)), (2, .int (nI 4))] := hl
    refine lv_iload_n hx hb dX0_told_0 rfl (lv_at hl 1 rfl) ?_
    refine lv_aload_n hx hb dX0_told_1 rfl (lv_at hl 0 rfl) ?_
    refine x0_gf C hP 9 (by decide) (v := .int (nI u.2.1)) rfl rfl q66 dX0_told_2 ?_
    refine g_cv (wr := []) (cells' := 0) (slots' := 0) rfl rfl C rd_nil hD hS (g_runS (wr := []) (n := 2) (As := [.int (nI r), .int (nI u.2.1)]) C (mX0_requireIndex l D t [(cI, .int)] (ra_w cI o ad u) H.size r u.2.1 (by omega) (by omega)) (rw_S q89 q90 q2 q91) kd_X0_requireIndex ⟨Nat.le_of_ble_eq_true rfl, Nat.le_of_ble_eq_true rfl⟩ C.2.2.2.2.2.1 hP hD hS hl.1 rfl rfl (Nat.le_of_ble_eq_true rfl) dX0_told_5 ⟨Nat.le_of_ble_eq_true rfl, Nat.le_of_ble_eq_true rfl⟩) (fun w' H locs hv _ _ hP hD hS => ?_)
    subst hv
    have hD : va_D A (ra_w cI o ad u) := hD
    refine lv_iload_n hx hb dX0_told_8 rfl (lv_at hl 2 rfl) ?_
    refine lv_bipush (v := 8) hx hb dX0_told_9 (by decide) ?_
    refine g_cv (wr := []) (cells' := 0) (slots' := 0) rfl rfl C rd_nil hD hS (g_runS (wr := []) (n := 2) (As := [.int (nI 4), .int 8]) C (mX0_requireIndex l D t [(cI, .int)] (ra_w cI o ad u) H.size 4 8 (by omega) (by omega)) (rw_S q89 q90 q2 q91) kd_X0_requireIndex ⟨Nat.le_of_ble_eq_true rfl, Nat.le_of_ble_eq_true rfl⟩ C.2.2.2.2.2.1 hP hD hS hl.1 rfl rfl (Nat.le_of_ble_eq_true rfl) dX0_told_11 ⟨Nat.le_of_ble_eq_true rfl, Nat.le_of_ble_eq_true rfl⟩) (fun w' H locs hv _ _ hP hD hS => ?_)
    subst hv
    have hD : va_D A (ra_w cI o ad u) := hD
    refine lv_iload_n hx hb dX0_told_14 rfl (lv_at hl 2 rfl) ?_
    refine lv_tableIn (off := 69) (tgt := 84) hx hb dX0_told_15 (by decide) (by decide) rfl (by decide) ?_
    refine lv_aload_n hx hb dX0_told_84 rfl (lv_at hl 0 rfl) ?_
    refine x0_gf C hP 4 (by decide) (v := .ref (ad 4)) rfl rfl q15 dX0_told_85 ?_
    refine lv_iload_n hx hb dX0_told_88 rfl (lv_at hl 1 rfl) ?_
    refine x0_ld C hP (k := 4) (i := r) (Or.inl (by decide)) (show r < 8 by omega) rfl dX0_told_89 ?_
    exact g_iret C hrt hP hD hS dX0_told_90 ⟨by skip; rfl, by skip; rfl⟩
  · have hl : lv_has ls 3 [(0, .ref o), (1, .int (nI r)), (2, .int (nI 5))] := hl
    refine lv_iload_n hx hb dX0_told_0 rfl (lv_at hl 1 rfl) ?_
    refine lv_aload_n hx hb dX0_told_1 rfl (lv_at hl 0 rfl) ?_
    refine x0_gf C hP 9 (by decide) (v := .int (nI u.2.1)) rfl rfl q66 dX0_told_2 ?_
    refine g_cv (wr := []) (cells' := 0) (slots' := 0) rfl rfl C rd_nil hD hS (g_runS (wr := []) (n := 2) (As := [.int (nI r), .int (nI u.2.1)]) C (mX0_requireIndex l D t [(cI, .int)] (ra_w cI o ad u) H.size r u.2.1 (by omega) (by omega)) (rw_S q89 q90 q2 q91) kd_X0_requireIndex ⟨Nat.le_of_ble_eq_true rfl, Nat.le_of_ble_eq_true rfl⟩ C.2.2.2.2.2.1 hP hD hS hl.1 rfl rfl (Nat.le_of_ble_eq_true rfl) dX0_told_5 ⟨Nat.le_of_ble_eq_true rfl, Nat.le_of_ble_eq_true rfl⟩) (fun w' H locs hv _ _ hP hD hS => ?_)
    subst hv
    have hD : va_D A (ra_w cI o ad u) := hD
    refine lv_iload_n hx hb dX0_told_8 rfl (lv_at hl 2 rfl) ?_
    refine lv_bipush (v := 8) hx hb dX0_told_9 (by decide) ?_
    refine g_cv (wr := []) (cells' := 0) (slots' := 0) rfl rfl C rd_nil hD hS (g_runS (wr := []) (n := 2) (As := [.int (nI 5), .int 8]) C (mX0_requireIndex l D t [(cI, .int)] (ra_w cI o ad u) H.size 5 8 (by omega) (by omega)) (rw_S q89 q90 q2 q91) kd_X0_requireIndex ⟨Nat.le_of_ble_eq_true rfl, Nat.le_of_ble_eq_true rfl⟩ C.2.2.2.2.2.1 hP hD hS hl.1 rfl rfl (Nat.le_of_ble_eq_true rfl) dX0_told_11 ⟨Nat.le_of_ble_eq_true rfl, Nat.le_of_ble_eq_true rfl⟩) (fun w' H locs hv _ _ hP hD hS => ?_)
    subst hv
    have hD : va_D A (ra_w cI o ad u) := hD
    refine lv_iload_n hx hb dX0_told_14 rfl (lv_at hl 2 rfl) ?_
    refine lv_tableIn (off := 76) (tgt := 91) hx hb dX0_told_15 (by decide) (by decide) rfl (by decide) ?_
    refine lv_aload_n hx hb dX0_told_91 rfl (lv_at hl 0 rfl) ?_
    refine x0_gf C hP 5 (by decide) (v := .ref (ad 5)) rfl rfl q16 dX0_told_92 ?_
    refine lv_iload_n hx hb dX0_told_95 rfl (lv_at hl 1 rfl) ?_
    refine x0_ld C hP (k := 5) (i := r) (Or.inl (by decide)) (show r < 8 by omega) rfl dX0_told_96 ?_
    exact g_iret C hrt hP hD hS dX0_told_97 ⟨by skip; rfl, by skip; rfl⟩
  · have hl : lv_has ls 3 [(0, .ref o), (1, .int (nI r)), (2, .int (nI 6))] := hl
    refine lv_iload_n hx hb dX0_told_0 rfl (lv_at hl 1 rfl) ?_
    refine lv_aload_n hx hb dX0_told_1 rfl (lv_at hl 0 rfl) ?_
    refine x0_gf C hP 9 (by decide) (v := .int (nI u.2.1)) rfl rfl q66 dX0_told_2 ?_
    refine g_cv (wr := []) (cells' := 0) (slots' := 0) rfl rfl C rd_nil hD hS (g_runS (wr := []) (n := 2) (As := [.int (nI r), .int (nI u.2.1)]) C (mX0_requireIndex l D t [(cI, .int)] (ra_w cI o ad u) H.size r u.2.1 (by omega) (by omega)) (rw_S q89 q90 q2 q91) kd_X0_requireIndex ⟨Nat.le_of_ble_eq_true rfl, Nat.le_of_ble_eq_true rfl⟩ C.2.2.2.2.2.1 hP hD hS hl.1 rfl rfl (Nat.le_of_ble_eq_true rfl) dX0_told_5 ⟨Nat.le_of_ble_eq_true rfl, Nat.le_of_ble_eq_true rfl⟩) (fun w' H locs hv _ _ hP hD hS => ?_)
    subst hv
    have hD : va_D A (ra_w cI o ad u) := hD
    refine lv_iload_n hx hb dX0_told_8 rfl (lv_at hl 2 rfl) ?_
    refine lv_bipush (v := 8) hx hb dX0_told_9 (by decide) ?_
    refine g_cv (wr := []) (cells' := 0) (slots' := 0) rfl rfl C rd_nil hD hS (g_runS (wr := []) (n := 2) (As := [.int (nI 6), .int 8]) C (mX0_requireIndex l D t [(cI, .int)] (ra_w cI o ad u) H.size 6 8 (by omega) (by omega)) (rw_S q89 q90 q2 q91) kd_X0_requireIndex ⟨Nat.le_of_ble_eq_true rfl, Nat.le_of_ble_eq_true rfl⟩ C.2.2.2.2.2.1 hP hD hS hl.1 rfl rfl (Nat.le_of_ble_eq_true rfl) dX0_told_11 ⟨Nat.le_of_ble_eq_true rfl, Nat.le_of_ble_eq_true rfl⟩) (fun w' H locs hv _ _ hP hD hS => ?_)
    subst hv
    have hD : va_D A (ra_w cI o ad u) := hD
    refine lv_iload_n hx hb dX0_told_14 rfl (lv_at hl 2 rfl) ?_
    refine lv_tableIn (off := 83) (tgt := 98) hx hb dX0_told_15 (by decide) (by decide) rfl (by decide) ?_
    refine lv_aload_n hx hb dX0_told_98 rfl (lv_at hl 0 rfl) ?_
    refine x0_gf C hP 6 (by decide) (v := .ref (ad 6)) rfl rfl q17 dX0_told_99 ?_
    refine lv_iload_n hx hb dX0_told_102 rfl (lv_at hl 1 rfl) ?_
    refine x0_ld C hP (k := 6) (i := r) (Or.inl (by decide)) (show r < 8 by omega) rfl dX0_told_103 ?_
    exact g_iret C hrt hP hD hS dX0_told_104 ⟨by skip; rfl, by skip; rfl⟩
  · have hl : lv_has ls 3 [(0, .ref o), (1, .int (nI r)), (2, .int (nI 7))] := hl
    refine lv_iload_n hx hb dX0_told_0 rfl (lv_at hl 1 rfl) ?_
    refine lv_aload_n hx hb dX0_told_1 rfl (lv_at hl 0 rfl) ?_
    refine x0_gf C hP 9 (by decide) (v := .int (nI u.2.1)) rfl rfl q66 dX0_told_2 ?_
    refine g_cv (wr := []) (cells' := 0) (slots' := 0) rfl rfl C rd_nil hD hS (g_runS (wr := []) (n := 2) (As := [.int (nI r), .int (nI u.2.1)]) C (mX0_requireIndex l D t [(cI, .int)] (ra_w cI o ad u) H.size r u.2.1 (by omega) (by omega)) (rw_S q89 q90 q2 q91) kd_X0_requireIndex ⟨Nat.le_of_ble_eq_true rfl, Nat.le_of_ble_eq_true rfl⟩ C.2.2.2.2.2.1 hP hD hS hl.1 rfl rfl (Nat.le_of_ble_eq_true rfl) dX0_told_5 ⟨Nat.le_of_ble_eq_true rfl, Nat.le_of_ble_eq_true rfl⟩) (fun w' H locs hv _ _ hP hD hS => ?_)
    subst hv
    have hD : va_D A (ra_w cI o ad u) := hD
    refine lv_iload_n hx hb dX0_told_8 rfl (lv_at hl 2 rfl) ?_
    refine lv_bipush (v := 8) hx hb dX0_told_9 (by decide) ?_
    refine g_cv (wr := []) (cells' := 0) (slots' := 0) rfl rfl C rd_nil hD hS (g_runS (wr := []) (n := 2) (As := [.int (nI 7), .int 8]) C (mX0_requireIndex l D t [(cI, .int)] (ra_w cI o ad u) H.size 7 8 (by omega) (by omega)) (rw_S q89 q90 q2 q91) kd_X0_requireIndex ⟨Nat.le_of_ble_eq_true rfl, Nat.le_of_ble_eq_true rfl⟩ C.2.2.2.2.2.1 hP hD hS hl.1 rfl rfl (Nat.le_of_ble_eq_true rfl) dX0_told_11 ⟨Nat.le_of_ble_eq_true rfl, Nat.le_of_ble_eq_true rfl⟩) (fun w' H locs hv _ _ hP hD hS => ?_)
    subst hv
    have hD : va_D A (ra_w cI o ad u) := hD
    refine lv_iload_n hx hb dX0_told_14 rfl (lv_at hl 2 rfl) ?_
    refine lv_tableOut (tgt := 105) hx hb dX0_told_15 (by decide) (by decide) ?_
    refine lv_aload_n hx hb dX0_told_105 rfl (lv_at hl 0 rfl) ?_
    refine lv_iload_n hx hb dX0_told_106 rfl (lv_at hl 1 rfl) ?_
    refine g_ci (wr := []) (cells' := 0) (slots' := 0) rfl rfl C rd_nil hD hS (g_runV (wr := []) (n := 1) C (mX0_hoursThatCount l D t cI o ad H.size u r (show r < 8 by omega)) (rw_V q139 q140 q141 q2 q142) kd_X0_hoursThatCount ⟨Nat.le_of_ble_eq_true rfl, Nat.le_of_ble_eq_true rfl⟩ (ci := 0) rfl rfl rfl C.2.2.2.2.2.1 hP hD hS hl.1 rfl rfl (Nat.le_of_ble_eq_true rfl) dX0_told_107 ⟨Nat.le_of_ble_eq_true rfl, Nat.le_of_ble_eq_true rfl⟩) (fun v w' H locs hv _ _ hP hD hS => ?_)
    obtain ⟨rfl, rfl⟩ := hv
    have hD : va_D A (ra_w cI o ad u) := hD
    exact g_iret C hrt hP hD hS dX0_told_110 ⟨by skip; rfl, by skip; rfl⟩
theorem kd_X0_wage : yX0_wage.cls = yX0_wage.cls ∧ yX0_wage.cls ≠ "java/lang/invoke/MethodHandle" ∧ yX0_wage.cls ≠ "java/lang/invoke/VarHandle" ∧ (parseMethodDescriptor yX0_wage.desc).map (fun d => d.parameters.length) = some 2 := by decide +kernel
set_option maxHeartbeats 4000000 in
set_option maxRecDepth 100000 in
theorem mX0_wage (l : Launch) (D : va_G) (t : Nat → Nat) (cI : ClassId) (o : Nat) (ad : Nat → Nat) (sz : Nat) (u : S0) (hh : u.2.1 ≤ 8) (r : Nat) (hr : r < u.2.1) (k : Nat) (hk6 : k < 6) : gMi l yX0_wage (rw_ yX0_wage cX0_wage 3 (some .int)) (rm_ 6 0 0 132) [.ref o, .int (nI r), .int (nI k)] D [(cI, .int)] t (ra_w cI o ad u) sz (fun v w' => v = rf_wage u r k ∧ w' = ra_w cI o ad u) := by
  refine g_of (cc := cX0_wage) (nL := 3) (rt := (some .int)) (Q := fun A => va_Qi _ (fun w' U => gQ D A w' U) A) (by decide) (Nat.le_of_ble_eq_true rfl) (fun p e s m args below meth c A ls H C hrt hnm hS hP hD hl => ?_)
  have hx := C.1
  have hb := C.2.1
  have hown := C.2.2.2.1
  have hts := C.2.2.2.2.1
  have hl : lv_has ls 3 [(0, .ref o), (1, .int (nI r)), (2, .int (nI k))] := hl
  have hk9 : k = 0 ∨ k = 1 ∨ k = 2 ∨ k = 3 ∨ k = 4 ∨ k = 5 := by omega
  rcases hk9 with rfl | rfl | rfl | rfl | rfl | rfl
  · have hl : lv_has ls 3 [(0, .ref o), (1, .int (nI r)), (2, .int (nI 0))] := hl
    refine lv_iload_n hx hb dX0_wage_0 rfl (lv_at hl 1 rfl) ?_
    refine lv_aload_n hx hb dX0_wage_1 rfl (lv_at hl 0 rfl) ?_
    refine x0_gf C hP 9 (by decide) (v := .int (nI u.2.1)) rfl rfl q66 dX0_wage_2 ?_
    refine g_cv (wr := []) (cells' := 0) (slots' := 0) rfl rfl C rd_nil hD hS (g_runS (wr := []) (n := 2) (As := [.int (nI r), .int (nI u.2.1)]) C (mX0_requireIndex l D t [(cI, .int)] (ra_w cI o ad u) H.size r u.2.1 (by omega) (by omega)) (rw_S q89 q90 q2 q91) kd_X0_requireIndex ⟨Nat.le_of_ble_eq_true rfl, Nat.le_of_ble_eq_true rfl⟩ C.2.2.2.2.2.1 hP hD hS hl.1 rfl rfl (Nat.le_of_ble_eq_true rfl) dX0_wage_5 ⟨Nat.le_of_ble_eq_true rfl, Nat.le_of_ble_eq_true rfl⟩) (fun w' H locs hv _ _ hP hD hS => ?_)
    subst hv
    have hD : va_D A (ra_w cI o ad u) := hD
    refine lv_iload_n hx hb dX0_wage_8 rfl (lv_at hl 2 rfl) ?_
    refine lv_bipush (v := 6) hx hb dX0_wage_9 (by decide) ?_
    refine g_cv (wr := []) (cells' := 0) (slots' := 0) rfl rfl C rd_nil hD hS (g_runS (wr := []) (n := 2) (As := [.int (nI 0), .int 6]) C (mX0_requireIndex l D t [(cI, .int)] (ra_w cI o ad u) H.size 0 6 (by omega) (by omega)) (rw_S q89 q90 q2 q91) kd_X0_requireIndex ⟨Nat.le_of_ble_eq_true rfl, Nat.le_of_ble_eq_true rfl⟩ C.2.2.2.2.2.1 hP hD hS hl.1 rfl rfl (Nat.le_of_ble_eq_true rfl) dX0_wage_11 ⟨Nat.le_of_ble_eq_true rfl, Nat.le_of_ble_eq_true rfl⟩) (fun w' H locs hv _ _ hP hD hS => ?_)
    subst hv
    have hD : va_D A (ra_w cI o ad u) := hD
    refine lv_iload_n hx hb dX0_wage_14 rfl (lv_at hl 2 rfl) ?_
    refine lv_tableIn (off := 33) (tgt := 48) hx hb dX0_wage_15 (by decide) (by decide) rfl (by decide) ?_
    refine lv_aload_n hx hb dX0_wage_48 rfl (lv_at hl 0 rfl) ?_
    refine lv_iload_n hx hb dX0_wage_49 rfl (lv_at hl 1 rfl) ?_
    refine lv_aload_n hx hb dX0_wage_50 rfl (lv_at hl 0 rfl) ?_
    refine x0_gf C hP 7 (by decide) (v := .ref (ad 7)) rfl rfl q18 dX0_wage_51 ?_
    refine g_ci (wr := []) (cells' := 0) (slots' := 0) rfl rfl C rd_nil hD hS (g_runV (wr := []) (n := 2) C (mX0_wageByPieces l D t cI o ad H.size u 7 (Or.inl rfl) r (show r < 8 by omega)) (rw_V q127 q128 q129 q2 q130) kd_X0_wageByPieces ⟨Nat.le_of_ble_eq_true rfl, Nat.le_of_ble_eq_true rfl⟩ (ci := 0) rfl rfl rfl C.2.2.2.2.2.1 hP hD hS hl.1 rfl rfl (Nat.le_of_ble_eq_true rfl) dX0_wage_54 ⟨Nat.le_of_ble_eq_true rfl, Nat.le_of_ble_eq_true rfl⟩) (fun v w' H locs hv _ _ hP hD hS => ?_)
    obtain ⟨rfl, rfl⟩ := hv
    have hD : va_D A (ra_w cI o ad u) := hD
    exact g_iret C hrt hP hD hS dX0_wage_57 ⟨by skip; rfl, by skip; rfl⟩
  · have hl : lv_has ls 3 [(0, .ref o), (1, .int (nI r)), (2, .int (nI 1))] := hl
    refine lv_iload_n hx hb dX0_wage_0 rfl (lv_at hl 1 rfl) ?_
    refine lv_aload_n hx hb dX0_wage_1 rfl (lv_at hl 0 rfl) ?_
    refine x0_gf C hP 9 (by decide) (v := .int (nI u.2.1)) rfl rfl q66 dX0_wage_2 ?_
    refine g_cv (wr := []) (cells' := 0) (slots' := 0) rfl rfl C rd_nil hD hS (g_runS (wr := []) (n := 2) (As := [.int (nI r), .int (nI u.2.1)]) C (mX0_requireIndex l D t [(cI, .int)] (ra_w cI o ad u) H.size r u.2.1 (by omega) (by omega)) (rw_S q89 q90 q2 q91) kd_X0_requireIndex ⟨Nat.le_of_ble_eq_true rfl, Nat.le_of_ble_eq_true rfl⟩ C.2.2.2.2.2.1 hP hD hS hl.1 rfl rfl (Nat.le_of_ble_eq_true rfl) dX0_wage_5 ⟨Nat.le_of_ble_eq_true rfl, Nat.le_of_ble_eq_true rfl⟩) (fun w' H locs hv _ _ hP hD hS => ?_)
    subst hv
    have hD : va_D A (ra_w cI o ad u) := hD
    refine lv_iload_n hx hb dX0_wage_8 rfl (lv_at hl 2 rfl) ?_
    refine lv_bipush (v := 6) hx hb dX0_wage_9 (by decide) ?_
    refine g_cv (wr := []) (cells' := 0) (slots' := 0) rfl rfl C rd_nil hD hS (g_runS (wr := []) (n := 2) (As := [.int (nI 1), .int 6]) C (mX0_requireIndex l D t [(cI, .int)] (ra_w cI o ad u) H.size 1 6 (by omega) (by omega)) (rw_S q89 q90 q2 q91) kd_X0_requireIndex ⟨Nat.le_of_ble_eq_true rfl, Nat.le_of_ble_eq_true rfl⟩ C.2.2.2.2.2.1 hP hD hS hl.1 rfl rfl (Nat.le_of_ble_eq_true rfl) dX0_wage_11 ⟨Nat.le_of_ble_eq_true rfl, Nat.le_of_ble_eq_true rfl⟩) (fun w' H locs hv _ _ hP hD hS => ?_)
    subst hv
    have hD : va_D A (ra_w cI o ad u) := hD
    refine lv_iload_n hx hb dX0_wage_14 rfl (lv_at hl 2 rfl) ?_
    refine lv_tableIn (off := 43) (tgt := 58) hx hb dX0_wage_15 (by decide) (by decide) rfl (by decide) ?_
    refine lv_aload_n hx hb dX0_wage_58 rfl (lv_at hl 0 rfl) ?_
    refine lv_iload_n hx hb dX0_wage_59 rfl (lv_at hl 1 rfl) ?_
    refine lv_aload_n hx hb dX0_wage_60 rfl (lv_at hl 0 rfl) ?_
    refine x0_gf C hP 7 (by decide) (v := .ref (ad 7)) rfl rfl q18 dX0_wage_61 ?_
    refine g_ci (wr := []) (cells' := 0) (slots' := 0) rfl rfl C rd_nil hD hS (g_runV (wr := []) (n := 2) C (mX0_wageByHours l D t cI o ad H.size u 7 (Or.inl rfl) r (show r < 8 by omega)) (rw_V q135 q136 q137 q2 q138) kd_X0_wageByHours ⟨Nat.le_of_ble_eq_true rfl, Nat.le_of_ble_eq_true rfl⟩ (ci := 0) rfl rfl rfl C.2.2.2.2.2.1 hP hD hS hl.1 rfl rfl (Nat.le_of_ble_eq_true rfl) dX0_wage_64 ⟨Nat.le_of_ble_eq_true rfl, Nat.le_of_ble_eq_true rfl⟩) (fun v w' H locs hv _ _ hP hD hS => ?_)
    obtain ⟨rfl, rfl⟩ := hv
    have hD : va_D A (ra_w cI o ad u) := hD
    exact g_iret C hrt hP hD hS dX0_wage_67 ⟨by skip; rfl, by skip; rfl⟩
  · have hl : lv_has ls 3 [(0, .ref o), (1, .int (nI r)), (2, .int (nI 2))] := hl
    refine lv_iload_n hx hb dX0_wage_0 rfl (lv_at hl 1 rfl) ?_
    refine lv_aload_n hx hb dX0_wage_1 rfl (lv_at hl 0 rfl) ?_
    refine x0_gf C hP 9 (by decide) (v := .int (nI u.2.1)) rfl rfl q66 dX0_wage_2 ?_
    refine g_cv (wr := []) (cells' := 0) (slots' := 0) rfl rfl C rd_nil hD hS (g_runS (wr := []) (n := 2) (As := [.int (nI r), .int (nI u.2.1)]) C (mX0_requireIndex l D t [(cI, .int)] (ra_w cI o ad u) H.size r u.2.1 (by omega) (by omega)) (rw_S q89 q90 q2 q91) kd_X0_requireIndex ⟨Nat.le_of_ble_eq_true rfl, Nat.le_of_ble_eq_true rfl⟩ C.2.2.2.2.2.1 hP hD hS hl.1 rfl rfl (Nat.le_of_ble_eq_true rfl) dX0_wage_5 ⟨Nat.le_of_ble_eq_true rfl, Nat.le_of_ble_eq_true rfl⟩) (fun w' H locs hv _ _ hP hD hS => ?_)
    subst hv
    have hD : va_D A (ra_w cI o ad u) := hD
    refine lv_iload_n hx hb dX0_wage_8 rfl (lv_at hl 2 rfl) ?_
    refine lv_bipush (v := 6) hx hb dX0_wage_9 (by decide) ?_
    refine g_cv (wr := []) (cells' := 0) (slots' := 0) rfl rfl C rd_nil hD hS (g_runS (wr := []) (n := 2) (As := [.int (nI 2), .int 6]) C (mX0_requireIndex l D t [(cI, .int)] (ra_w cI o ad u) H.size 2 6 (by omega) (by omega)) (rw_S q89 q90 q2 q91) kd_X0_requireIndex ⟨Nat.le_of_ble_eq_true rfl, Nat.le_of_ble_eq_true rfl⟩ C.2.2.2.2.2.1 hP hD hS hl.1 rfl rfl (Nat.le_of_ble_eq_true rfl) dX0_wage_11 ⟨Nat.le_of_ble_eq_true rfl, Nat.le_of_ble_eq_true rfl⟩) (fun w' H locs hv _ _ hP hD hS => ?_)
    subst hv
    have hD : va_D A (ra_w cI o ad u) := hD
    refine lv_iload_n hx hb dX0_wage_14 rfl (lv_at hl 2 rfl) ?_
    refine lv_tableIn (off := 53) (tgt := 68) hx hb dX0_wage_15 (by decide) (by decide) rfl (by decide) ?_
    refine lv_aload_n hx hb dX0_wage_68 rfl (lv_at hl 0 rfl) ?_
    refine lv_iload_n hx hb dX0_wage_69 rfl (lv_at hl 1 rfl) ?_
    refine lv_aload_n hx hb dX0_wage_70 rfl (lv_at hl 0 rfl) ?_
    refine x0_gf C hP 7 (by decide) (v := .ref (ad 7)) rfl rfl q18 dX0_wage_71 ?_
    refine g_ci (wr := []) (cells' := 0) (slots' := 0) rfl rfl C rd_nil hD hS (g_runV (wr := []) (n := 2) C (mX0_weekWage l D t cI o ad H.size u 7 (Or.inl rfl) r (show r < 8 by omega)) (rw_V q119 q120 q121 q2 q122) kd_X0_weekWage ⟨Nat.le_of_ble_eq_true rfl, Nat.le_of_ble_eq_true rfl⟩ (ci := 0) rfl rfl rfl C.2.2.2.2.2.1 hP hD hS hl.1 rfl rfl (Nat.le_of_ble_eq_true rfl) dX0_wage_74 ⟨Nat.le_of_ble_eq_true rfl, Nat.le_of_ble_eq_true rfl⟩) (fun v w' H locs hv _ _ hP hD hS => ?_)
    obtain ⟨rfl, rfl⟩ := hv
    have hD : va_D A (ra_w cI o ad u) := hD
    exact g_iret C hrt hP hD hS dX0_wage_77 ⟨by skip; rfl, by skip; rfl⟩
  · have hl : lv_has ls 3 [(0, .ref o), (1, .int (nI r)), (2, .int (nI 3))] := hl
    refine lv_iload_n hx hb dX0_wage_0 rfl (lv_at hl 1 rfl) ?_
    refine lv_aload_n hx hb dX0_wage_1 rfl (lv_at hl 0 rfl) ?_
    refine x0_gf C hP 9 (by decide) (v := .int (nI u.2.1)) rfl rfl q66 dX0_wage_2 ?_
    refine g_cv (wr := []) (cells' := 0) (slots' := 0) rfl rfl C rd_nil hD hS (g_runS (wr := []) (n := 2) (As := [.int (nI r), .int (nI u.2.1)]) C (mX0_requireIndex l D t [(cI, .int)] (ra_w cI o ad u) H.size r u.2.1 (by omega) (by omega)) (rw_S q89 q90 q2 q91) kd_X0_requireIndex ⟨Nat.le_of_ble_eq_true rfl, Nat.le_of_ble_eq_true rfl⟩ C.2.2.2.2.2.1 hP hD hS hl.1 rfl rfl (Nat.le_of_ble_eq_true rfl) dX0_wage_5 ⟨Nat.le_of_ble_eq_true rfl, Nat.le_of_ble_eq_true rfl⟩) (fun w' H locs hv _ _ hP hD hS => ?_)
    subst hv
    have hD : va_D A (ra_w cI o ad u) := hD
    refine lv_iload_n hx hb dX0_wage_8 rfl (lv_at hl 2 rfl) ?_
    refine lv_bipush (v := 6) hx hb dX0_wage_9 (by decide) ?_
    refine g_cv (wr := []) (cells' := 0) (slots' := 0) rfl rfl C rd_nil hD hS (g_runS (wr := []) (n := 2) (As := [.int (nI 3), .int 6]) C (mX0_requireIndex l D t [(cI, .int)] (ra_w cI o ad u) H.size 3 6 (by omega) (by omega)) (rw_S q89 q90 q2 q91) kd_X0_requireIndex ⟨Nat.le_of_ble_eq_true rfl, Nat.le_of_ble_eq_true rfl⟩ C.2.2.2.2.2.1 hP hD hS hl.1 rfl rfl (Nat.le_of_ble_eq_true rfl) dX0_wage_11 ⟨Nat.le_of_ble_eq_true rfl, Nat.le_of_ble_eq_true rfl⟩) (fun w' H locs hv _ _ hP hD hS => ?_)
    subst hv
    have hD : va_D A (ra_w cI o ad u) := hD
    refine lv_iload_n hx hb dX0_wage_14 rfl (lv_at hl 2 rfl) ?_
    refine lv_tableIn (off := 63) (tgt := 78) hx hb dX0_wage_15 (by decide) (by decide) rfl (by decide) ?_
    refine lv_aload_n hx hb dX0_wage_78 rfl (lv_at hl 0 rfl) ?_
    refine lv_iload_n hx hb dX0_wage_79 rfl (lv_at hl 1 rfl) ?_
    refine g_ci (wr := []) (cells' := 0) (slots' := 0) rfl rfl C rd_nil hD hS (g_runV (wr := []) (n := 1) C (mX0_coming l D t cI o ad H.size u r (show r < 8 by omega)) (rw_V q115 q116 q117 q2 q118) kd_X0_coming ⟨Nat.le_of_ble_eq_true rfl, Nat.le_of_ble_eq_true rfl⟩ (ci := 0) rfl rfl rfl C.2.2.2.2.2.1 hP hD hS hl.1 rfl rfl (Nat.le_of_ble_eq_true rfl) dX0_wage_80 ⟨Nat.le_of_ble_eq_true rfl, Nat.le_of_ble_eq_true rfl⟩) (fun v w' H locs hv _ _ hP hD hS => ?_)
    obtain ⟨rfl, rfl⟩ := hv
    have hD : va_D A (ra_w cI o ad u) := hD
    exact g_iret C hrt hP hD hS dX0_wage_83 ⟨by skip; rfl, by skip; rfl⟩
  · have hl : lv_has ls 3 [(0, .ref o), (1, .int (nI r)), (2, .int (nI 4))] := hl
    refine lv_iload_n hx hb dX0_wage_0 rfl (lv_at hl 1 rfl) ?_
    refine lv_aload_n hx hb dX0_wage_1 rfl (lv_at hl 0 rfl) ?_
    refine x0_gf C hP 9 (by decide) (v := .int (nI u.2.1)) rfl rfl q66 dX0_wage_2 ?_
    refine g_cv (wr := []) (cells' := 0) (slots' := 0) rfl rfl C rd_nil hD hS (g_runS (wr := []) (n := 2) (As := [.int (nI r), .int (nI u.2.1)]) C (mX0_requireIndex l D t [(cI, .int)] (ra_w cI o ad u) H.size r u.2.1 (by omega) (by omega)) (rw_S q89 q90 q2 q91) kd_X0_requireIndex ⟨Nat.le_of_ble_eq_true rfl, Nat.le_of_ble_eq_true rfl⟩ C.2.2.2.2.2.1 hP hD hS hl.1 rfl rfl (Nat.le_of_ble_eq_true rfl) dX0_wage_5 ⟨Nat.le_of_ble_eq_true rfl, Nat.le_of_ble_eq_true rfl⟩) (fun w' H locs hv _ _ hP hD hS => ?_)
    subst hv
    have hD : va_D A (ra_w cI o ad u) := hD
    refine lv_iload_n hx hb dX0_wage_8 rfl (lv_at hl 2 rfl) ?_
    refine lv_bipush (v := 6) hx hb dX0_wage_9 (by decide) ?_
    refine g_cv (wr := []) (cells' := 0) (slots' := 0) rfl rfl C rd_nil hD hS (g_runS (wr := []) (n := 2) (As := [.int (nI 4), .int 6]) C (mX0_requireIndex l D t [(cI, .int)] (ra_w cI o ad u) H.size 4 6 (by omega) (by omega)) (rw_S q89 q90 q2 q91) kd_X0_requireIndex ⟨Nat.le_of_ble_eq_true rfl, Nat.le_of_ble_eq_true rfl⟩ C.2.2.2.2.2.1 hP hD hS hl.1 rfl rfl (Nat.le_of_ble_eq_true rfl) dX0_wage_11 ⟨Nat.le_of_ble_eq_true rfl, Nat.le_of_ble_eq_true rfl⟩) (fun w' H locs hv _ _ hP hD hS => ?_)
    subst hv
    have hD : va_D A (ra_w cI o ad u) := hD
    refine lv_iload_n hx hb dX0_wage_14 rfl (lv_at hl 2 rfl) ?_
    refine lv_tableIn (off := 69) (tgt := 84) hx hb dX0_wage_15 (by decide) (by decide) rfl (by decide) ?_
    refine lv_aload_n hx hb dX0_wage_84 rfl (lv_at hl 0 rfl) ?_
    refine lv_aload_n hx hb dX0_wage_85 rfl (lv_at hl 0 rfl) ?_
    refine x0_gf C hP 4 (by decide) (v := .ref (ad 4)) rfl rfl q15 dX0_wage_86 ?_
    refine lv_iload_n hx hb dX0_wage_89 rfl (lv_at hl 1 rfl) ?_
    refine x0_ld C hP (k := 4) (i := r) (Or.inl (by decide)) (show r < 8 by omega) rfl dX0_wage_90 ?_
    refine lv_aload_n hx hb dX0_wage_91 rfl (lv_at hl 0 rfl) ?_
    refine lv_iload_n hx hb dX0_wage_92 rfl (lv_at hl 1 rfl) ?_
    refine g_ci (wr := []) (cells' := 0) (slots' := 0) rfl rfl C rd_nil hD hS (g_runV (wr := []) (n := 1) C (mX0_coming l D t cI o ad H.size u r (show r < 8 by omega)) (rw_V q115 q116 q117 q2 q118) kd_X0_coming ⟨Nat.le_of_ble_eq_true rfl, Nat.le_of_ble_eq_true rfl⟩ (ci := 0) rfl rfl rfl C.2.2.2.2.2.1 hP hD hS hl.1 rfl rfl (Nat.le_of_ble_eq_true rfl) dX0_wage_93 ⟨Nat.le_of_ble_eq_true rfl, Nat.le_of_ble_eq_true rfl⟩) (fun v w' H locs hv _ _ hP hD hS => ?_)
    obtain ⟨rfl, rfl⟩ := hv
    have hD : va_D A (ra_w cI o ad u) := hD
    refine g_ci (wr := []) (cells' := 0) (slots' := 0) rfl rfl C rd_nil hD hS (g_runV (wr := []) (n := 2) C (mX0_takenBack l D t cI o ad H.size u (u.1 4 r) (rf_cm u r)) (rw_V q143 q144 q145 q2 q146) kd_X0_takenBack ⟨Nat.le_of_ble_eq_true rfl, Nat.le_of_ble_eq_true rfl⟩ (ci := 0) rfl rfl rfl C.2.2.2.2.2.1 hP hD hS hl.1 rfl rfl (Nat.le_of_ble_eq_true rfl) dX0_wage_96 ⟨Nat.le_of_ble_eq_true rfl, Nat.le_of_ble_eq_true rfl⟩) (fun v w' H locs hv _ _ hP hD hS => ?_)
    obtain ⟨rfl, rfl⟩ := hv
    have hD : va_D A (ra_w cI o ad u) := hD
    exact g_iret C hrt hP hD hS dX0_wage_99 ⟨by skip; rfl, by skip; rfl⟩
  · have hl : lv_has ls 3 [(0, .ref o), (1, .int (nI r)), (2, .int (nI 5))] := hl
    refine lv_iload_n hx hb dX0_wage_0 rfl (lv_at hl 1 rfl) ?_
    refine lv_aload_n hx hb dX0_wage_1 rfl (lv_at hl 0 rfl) ?_
    refine x0_gf C hP 9 (by decide) (v := .int (nI u.2.1)) rfl rfl q66 dX0_wage_2 ?_
    refine g_cv (wr := []) (cells' := 0) (slots' := 0) rfl rfl C rd_nil hD hS (g_runS (wr := []) (n := 2) (As := [.int (nI r), .int (nI u.2.1)]) C (mX0_requireIndex l D t [(cI, .int)] (ra_w cI o ad u) H.size r u.2.1 (by omega) (by omega)) (rw_S q89 q90 q2 q91) kd_X0_requireIndex ⟨Nat.le_of_ble_eq_true rfl, Nat.le_of_ble_eq_true rfl⟩ C.2.2.2.2.2.1 hP hD hS hl.1 rfl rfl (Nat.le_of_ble_eq_true rfl) dX0_wage_5 ⟨Nat.le_of_ble_eq_true rfl, Nat.le_of_ble_eq_true rfl⟩) (fun w' H locs hv _ _ hP hD hS => ?_)
    subst hv
    have hD : va_D A (ra_w cI o ad u) := hD
    refine lv_iload_n hx hb dX0_wage_8 rfl (lv_at hl 2 rfl) ?_
    refine lv_bipush (v := 6) hx hb dX0_wage_9 (by decide) ?_
    refine g_cv (wr := []) (cells' := 0) (slots' := 0) rfl rfl C rd_nil hD hS (g_runS (wr := []) (n := 2) (As := [.int (nI 5), .int 6]) C (mX0_requireIndex l D t [(cI, .int)] (ra_w cI o ad u) H.size 5 6 (by omega) (by omega)) (rw_S q89 q90 q2 q91) kd_X0_requireIndex ⟨Nat.le_of_ble_eq_true rfl, Nat.le_of_ble_eq_true rfl⟩ C.2.2.2.2.2.1 hP hD hS hl.1 rfl rfl (Nat.le_of_ble_eq_true rfl) dX0_wage_11 ⟨Nat.le_of_ble_eq_true rfl, Nat.le_of_ble_eq_true rfl⟩) (fun w' H locs hv _ _ hP hD hS => ?_)
    subst hv
    have hD : va_D A (ra_w cI o ad u) := hD
    refine lv_iload_n hx hb dX0_wage_14 rfl (lv_at hl 2 rfl) ?_
    refine lv_tableOut (tgt := 100) hx hb dX0_wage_15 (by decide) (by decide) ?_
    refine lv_aload_n hx hb dX0_wage_100 rfl (lv_at hl 0 rfl) ?_
    refine lv_iload_n hx hb dX0_wage_101 rfl (lv_at hl 1 rfl) ?_
    refine g_ci (wr := []) (cells' := 0) (slots' := 0) rfl rfl C rd_nil hD hS (g_runV (wr := []) (n := 1) C (mX0_restToPay l D t cI o ad H.size u r (show r < 8 by omega)) (rw_V q215 q216 q217 q2 q218) kd_X0_restToPay ⟨Nat.le_of_ble_eq_true rfl, Nat.le_of_ble_eq_true rfl⟩ (ci := 0) rfl rfl rfl C.2.2.2.2.2.1 hP hD hS hl.1 rfl rfl (Nat.le_of_ble_eq_true rfl) dX0_wage_102 ⟨Nat.le_of_ble_eq_true rfl, Nat.le_of_ble_eq_true rfl⟩) (fun v w' H locs hv _ _ hP hD hS => ?_)
    obtain ⟨rfl, rfl⟩ := hv
    have hD : va_D A (ra_w cI o ad u) := hD
    exact g_iret C hrt hP hD hS dX0_wage_105 ⟨by skip; rfl, by skip; rfl⟩
theorem kd_X0_count : yX0_count.cls = yX0_count.cls ∧ yX0_count.cls ≠ "java/lang/invoke/MethodHandle" ∧ yX0_count.cls ≠ "java/lang/invoke/VarHandle" ∧ (parseMethodDescriptor yX0_count.desc).map (fun d => d.parameters.length) = some 1 := by decide +kernel
set_option maxHeartbeats 4000000 in
set_option maxRecDepth 100000 in
theorem mX0_count (l : Launch) (D : va_G) (t : Nat → Nat) (cI : ClassId) (o : Nat) (ad : Nat → Nat) (sz : Nat) (u : S0) (hh : u.2.1 ≤ 8) (k : Nat) (hk7 : k < 7) : gMi l yX0_count (rw_ yX0_count cX0_count 2 (some .int)) (rm_ 5 0 0 112) [.ref o, .int (nI k)] D [(cI, .int)] t (ra_w cI o ad u) sz (fun v w' => v = rf_cnt u k ∧ w' = ra_w cI o ad u) := by
  refine g_of (cc := cX0_count) (nL := 2) (rt := (some .int)) (Q := fun A => va_Qi _ (fun w' U => gQ D A w' U) A) (by decide) (Nat.le_of_ble_eq_true rfl) (fun p e s m args below meth c A ls H C hrt hnm hS hP hD hl => ?_)
  have hx := C.1
  have hb := C.2.1
  have hown := C.2.2.2.1
  have hts := C.2.2.2.2.1
  have hl : lv_has ls 2 [(0, .ref o), (1, .int (nI k))] := hl
  have hk9 : k = 0 ∨ k = 1 ∨ k = 2 ∨ k = 3 ∨ k = 4 ∨ k = 5 ∨ k = 6 := by omega
  rcases hk9 with rfl | rfl | rfl | rfl | rfl | rfl | rfl
  · have hl : lv_has ls 2 [(0, .ref o), (1, .int (nI 0))] := hl
    refine lv_iload_n hx hb dX0_count_0 rfl (lv_at hl 1 rfl) ?_
    refine lv_bipush (v := 7) hx hb dX0_count_1 (by decide) ?_
    refine g_cv (wr := []) (cells' := 0) (slots' := 0) rfl rfl C rd_nil hD hS (g_runS (wr := []) (n := 2) (As := [.int (nI 0), .int 7]) C (mX0_requireIndex l D t [(cI, .int)] (ra_w cI o ad u) H.size 0 7 (by omega) (by omega)) (rw_S q89 q90 q2 q91) kd_X0_requireIndex ⟨Nat.le_of_ble_eq_true rfl, Nat.le_of_ble_eq_true rfl⟩ C.2.2.2.2.2.1 hP hD hS hl.1 rfl rfl (Nat.le_of_ble_eq_true rfl) dX0_count_3 ⟨Nat.le_of_ble_eq_true rfl, Nat.le_of_ble_eq_true rfl⟩) (fun w' H locs hv _ _ hP hD hS => ?_)
    subst hv
    have hD : va_D A (ra_w cI o ad u) := hD
    refine lv_iload_n hx hb dX0_count_6 rfl (lv_at hl 1 rfl) ?_
    refine lv_tableIn (off := 37) (tgt := 44) hx hb dX0_count_7 (by decide) (by decide) rfl (by decide) ?_
    refine lv_aload_n hx hb dX0_count_44 rfl (lv_at hl 0 rfl) ?_
    refine x0_gf C hP 10 (by decide) (v := .int u.2.2) rfl rfl q110 dX0_count_45 ?_
    exact g_iret C hrt hP hD hS dX0_count_48 ⟨by skip; rfl, by skip; rfl⟩
  · have hl : lv_has ls 2 [(0, .ref o), (1, .int (nI 1))] := hl
    refine lv_iload_n hx hb dX0_count_0 rfl (lv_at hl 1 rfl) ?_
    refine lv_bipush (v := 7) hx hb dX0_count_1 (by decide) ?_
    refine g_cv (wr := []) (cells' := 0) (slots' := 0) rfl rfl C rd_nil hD hS (g_runS (wr := []) (n := 2) (As := [.int (nI 1), .int 7]) C (mX0_requireIndex l D t [(cI, .int)] (ra_w cI o ad u) H.size 1 7 (by omega) (by omega)) (rw_S q89 q90 q2 q91) kd_X0_requireIndex ⟨Nat.le_of_ble_eq_true rfl, Nat.le_of_ble_eq_true rfl⟩ C.2.2.2.2.2.1 hP hD hS hl.1 rfl rfl (Nat.le_of_ble_eq_true rfl) dX0_count_3 ⟨Nat.le_of_ble_eq_true rfl, Nat.le_of_ble_eq_true rfl⟩) (fun w' H locs hv _ _ hP hD hS => ?_)
    subst hv
    have hD : va_D A (ra_w cI o ad u) := hD
    refine lv_iload_n hx hb dX0_count_6 rfl (lv_at hl 1 rfl) ?_
    refine lv_tableIn (off := 42) (tgt := 49) hx hb dX0_count_7 (by decide) (by decide) rfl (by decide) ?_
    refine lv_aload_n hx hb dX0_count_49 rfl (lv_at hl 0 rfl) ?_
    refine x0_gf C hP 9 (by decide) (v := .int (nI u.2.1)) rfl rfl q66 dX0_count_50 ?_
    exact g_iret C hrt hP hD hS dX0_count_53 ⟨by skip; rfl, by skip; rfl⟩
  · have hl : lv_has ls 2 [(0, .ref o), (1, .int (nI 2))] := hl
    refine lv_iload_n hx hb dX0_count_0 rfl (lv_at hl 1 rfl) ?_
    refine lv_bipush (v := 7) hx hb dX0_count_1 (by decide) ?_
    refine g_cv (wr := []) (cells' := 0) (slots' := 0) rfl rfl C rd_nil hD hS (g_runS (wr := []) (n := 2) (As := [.int (nI 2), .int 7]) C (mX0_requireIndex l D t [(cI, .int)] (ra_w cI o ad u) H.size 2 7 (by omega) (by omega)) (rw_S q89 q90 q2 q91) kd_X0_requireIndex ⟨Nat.le_of_ble_eq_true rfl, Nat.le_of_ble_eq_true rfl⟩ C.2.2.2.2.2.1 hP hD hS hl.1 rfl rfl (Nat.le_of_ble_eq_true rfl) dX0_count_3 ⟨Nat.le_of_ble_eq_true rfl, Nat.le_of_ble_eq_true rfl⟩) (fun w' H locs hv _ _ hP hD hS => ?_)
    subst hv
    have hD : va_D A (ra_w cI o ad u) := hD
    refine lv_iload_n hx hb dX0_count_6 rfl (lv_at hl 1 rfl) ?_
    refine lv_tableIn (off := 47) (tgt := 54) hx hb dX0_count_7 (by decide) (by decide) rfl (by decide) ?_
    refine lv_aload_n hx hb dX0_count_54 rfl (lv_at hl 0 rfl) ?_
    refine lv_aload_n hx hb dX0_count_55 rfl (lv_at hl 0 rfl) ?_
    refine x0_gf C hP 4 (by decide) (v := .ref (ad 4)) rfl rfl q15 dX0_count_56 ?_
    refine g_ci (wr := []) (cells' := 0) (slots' := 0) rfl rfl C rd_nil hD hS (g_runV (wr := []) (n := 1) C (mX0_sumOfHired l D t cI o ad H.size u 4 (by decide) hh) (rw_V q196 q197 q198 q2 q199) kd_X0_sumOfHired ⟨Nat.le_of_ble_eq_true rfl, Nat.le_of_ble_eq_true rfl⟩ (ci := 0) rfl rfl rfl C.2.2.2.2.2.1 hP hD hS hl.1 rfl rfl (Nat.le_of_ble_eq_true rfl) dX0_count_59 ⟨Nat.le_of_ble_eq_true rfl, Nat.le_of_ble_eq_true rfl⟩) (fun v w' H locs hv _ _ hP hD hS => ?_)
    obtain ⟨rfl, rfl⟩ := hv
    have hD : va_D A (ra_w cI o ad u) := hD
    exact g_iret C hrt hP hD hS dX0_count_62 ⟨by skip; rfl, by skip; rfl⟩
  · have hl : lv_has ls 2 [(0, .ref o), (1, .int (nI 3))] := hl
    refine lv_iload_n hx hb dX0_count_0 rfl (lv_at hl 1 rfl) ?_
    refine lv_bipush (v := 7) hx hb dX0_count_1 (by decide) ?_
    refine g_cv (wr := []) (cells' := 0) (slots' := 0) rfl rfl C rd_nil hD hS (g_runS (wr := []) (n := 2) (As := [.int (nI 3), .int 7]) C (mX0_requireIndex l D t [(cI, .int)] (ra_w cI o ad u) H.size 3 7 (by omega) (by omega)) (rw_S q89 q90 q2 q91) kd_X0_requireIndex ⟨Nat.le_of_ble_eq_true rfl, Nat.le_of_ble_eq_true rfl⟩ C.2.2.2.2.2.1 hP hD hS hl.1 rfl rfl (Nat.le_of_ble_eq_true rfl) dX0_count_3 ⟨Nat.le_of_ble_eq_true rfl, Nat.le_of_ble_eq_true rfl⟩) (fun w' H locs hv _ _ hP hD hS => ?_)
    subst hv
    have hD : va_D A (ra_w cI o ad u) := hD
    refine lv_iload_n hx hb dX0_count_6 rfl (lv_at hl 1 rfl) ?_
    refine lv_tableIn (off := 56) (tgt := 63) hx hb dX0_count_7 (by decide) (by decide) rfl (by decide) ?_
    refine lv_aload_n hx hb dX0_count_63 rfl (lv_at hl 0 rfl) ?_
    refine lv_aload_n hx hb dX0_count_64 rfl (lv_at hl 0 rfl) ?_
    refine x0_gf C hP 5 (by decide) (v := .ref (ad 5)) rfl rfl q16 dX0_count_65 ?_
    refine g_ci (wr := []) (cells' := 0) (slots' := 0) rfl rfl C rd_nil hD hS (g_runV (wr := []) (n := 1) C (mX0_sumOfHired l D t cI o ad H.size u 5 (by decide) hh) (rw_V q196 q197 q198 q2 q199) kd_X0_sumOfHired ⟨Nat.le_of_ble_eq_true rfl, Nat.le_of_ble_eq_true rfl⟩ (ci := 0) rfl rfl rfl C.2.2.2.2.2.1 hP hD hS hl.1 rfl rfl (Nat.le_of_ble_eq_true rfl) dX0_count_68 ⟨Nat.le_of_ble_eq_true rfl, Nat.le_of_ble_eq_true rfl⟩) (fun v w' H locs hv _ _ hP hD hS => ?_)
    obtain ⟨rfl, rfl⟩ := hv
    have hD : va_D A (ra_w cI o ad u) := hD
    exact g_iret C hrt hP hD hS dX0_count_71 ⟨by skip; rfl, by skip; rfl⟩
  · have hl : lv_has ls 2 [(0, .ref o), (1, .int (nI 4))] := hl
    refine lv_iload_n hx hb dX0_count_0 rfl (lv_at hl 1 rfl) ?_
    refine lv_bipush (v := 7) hx hb dX0_count_1 (by decide) ?_
    refine g_cv (wr := []) (cells' := 0) (slots' := 0) rfl rfl C rd_nil hD hS (g_runS (wr := []) (n := 2) (As := [.int (nI 4), .int 7]) C (mX0_requireIndex l D t [(cI, .int)] (ra_w cI o ad u) H.size 4 7 (by omega) (by omega)) (rw_S q89 q90 q2 q91) kd_X0_requireIndex ⟨Nat.le_of_ble_eq_true rfl, Nat.le_of_ble_eq_true rfl⟩ C.2.2.2.2.2.1 hP hD hS hl.1 rfl rfl (Nat.le_of_ble_eq_true rfl) dX0_count_3 ⟨Nat.le_of_ble_eq_true rfl, Nat.le_of_ble_eq_true rfl⟩) (fun w' H locs hv _ _ hP hD hS => ?_)
    subst hv
    have hD : va_D A (ra_w cI o ad u) := hD
    refine lv_iload_n hx hb dX0_count_6 rfl (lv_at hl 1 rfl) ?_
    refine lv_tableIn (off := 65) (tgt := 72) hx hb dX0_count_7 (by decide) (by decide) rfl (by decide) ?_
    refine lv_aload_n hx hb dX0_count_72 rfl (lv_at hl 0 rfl) ?_
    refine g_ci (wr := []) (cells' := 0) (slots' := 0) rfl rfl C rd_nil hD hS (g_runV (wr := []) (n := 0) C (mX0_worthOfPurse l D t cI o ad H.size u) (rw_V q200 q201 q202 q2 q203) kd_X0_worthOfPurse ⟨Nat.le_of_ble_eq_true rfl, Nat.le_of_ble_eq_true rfl⟩ (ci := 0) rfl rfl rfl C.2.2.2.2.2.1 hP hD hS hl.1 rfl rfl (Nat.le_of_ble_eq_true rfl) dX0_count_73 ⟨Nat.le_of_ble_eq_true rfl, Nat.le_of_ble_eq_true rfl⟩) (fun v w' H locs hv _ _ hP hD hS => ?_)
    obtain ⟨rfl, rfl⟩ := hv
    have hD : va_D A (ra_w cI o ad u) := hD
    exact g_iret C hrt hP hD hS dX0_count_76 ⟨by skip; rfl, by skip; rfl⟩
  · have hl : lv_has ls 2 [(0, .ref o), (1, .int (nI 5))] := hl
    refine lv_iload_n hx hb dX0_count_0 rfl (lv_at hl 1 rfl) ?_
    refine lv_bipush (v := 7) hx hb dX0_count_1 (by decide) ?_
    refine g_cv (wr := []) (cells' := 0) (slots' := 0) rfl rfl C rd_nil hD hS (g_runS (wr := []) (n := 2) (As := [.int (nI 5), .int 7]) C (mX0_requireIndex l D t [(cI, .int)] (ra_w cI o ad u) H.size 5 7 (by omega) (by omega)) (rw_S q89 q90 q2 q91) kd_X0_requireIndex ⟨Nat.le_of_ble_eq_true rfl, Nat.le_of_ble_eq_true rfl⟩ C.2.2.2.2.2.1 hP hD hS hl.1 rfl rfl (Nat.le_of_ble_eq_true rfl) dX0_count_3 ⟨Nat.le_of_ble_eq_true rfl, Nat.le_of_ble_eq_true rfl⟩) (fun w' H locs hv _ _ hP hD hS => ?_)
    subst hv
    have hD : va_D A (ra_w cI o ad u) := hD
    refine lv_iload_n hx hb dX0_count_6 rfl (lv_at hl 1 rfl) ?_
    refine lv_tableIn (off := 70) (tgt := 77) hx hb dX0_count_7 (by decide) (by decide) rfl (by decide) ?_
    refine lv_aload_n hx hb dX0_count_77 rfl (lv_at hl 0 rfl) ?_
    refine lv_aload_n hx hb dX0_count_78 rfl (lv_at hl 0 rfl) ?_
    refine x0_gf C hP 7 (by decide) (v := .ref (ad 7)) rfl rfl q18 dX0_count_79 ?_
    refine g_ci (wr := []) (cells' := 0) (slots' := 0) rfl rfl C rd_nil hD hS (g_runV (wr := []) (n := 1) C (mX0_allWages l D t cI o ad H.size u 7 (Or.inl rfl) hh) (rw_V q204 q205 q206 q2 q207) kd_X0_allWages ⟨Nat.le_of_ble_eq_true rfl, Nat.le_of_ble_eq_true rfl⟩ (ci := 0) rfl rfl rfl C.2.2.2.2.2.1 hP hD hS hl.1 rfl rfl (Nat.le_of_ble_eq_true rfl) dX0_count_82 ⟨Nat.le_of_ble_eq_true rfl, Nat.le_of_ble_eq_true rfl⟩) (fun v w' H locs hv _ _ hP hD hS => ?_)
    obtain ⟨rfl, rfl⟩ := hv
    have hD : va_D A (ra_w cI o ad u) := hD
    exact g_iret C hrt hP hD hS dX0_count_85 ⟨by skip; rfl, by skip; rfl⟩
  · have hl : lv_has ls 2 [(0, .ref o), (1, .int (nI 6))] := hl
    refine lv_iload_n hx hb dX0_count_0 rfl (lv_at hl 1 rfl) ?_
    refine lv_bipush (v := 7) hx hb dX0_count_1 (by decide) ?_
    refine g_cv (wr := []) (cells' := 0) (slots' := 0) rfl rfl C rd_nil hD hS (g_runS (wr := []) (n := 2) (As := [.int (nI 6), .int 7]) C (mX0_requireIndex l D t [(cI, .int)] (ra_w cI o ad u) H.size 6 7 (by omega) (by omega)) (rw_S q89 q90 q2 q91) kd_X0_requireIndex ⟨Nat.le_of_ble_eq_true rfl, Nat.le_of_ble_eq_true rfl⟩ C.2.2.2.2.2.1 hP hD hS hl.1 rfl rfl (Nat.le_of_ble_eq_true rfl) dX0_count_3 ⟨Nat.le_of_ble_eq_true rfl, Nat.le_of_ble_eq_true rfl⟩) (fun w' H locs hv _ _ hP hD hS => ?_)
    subst hv
    have hD : va_D A (ra_w cI o ad u) := hD
    refine lv_iload_n hx hb dX0_count_6 rfl (lv_at hl 1 rfl) ?_
    refine lv_tableOut (tgt := 86) hx hb dX0_count_7 (by decide) (by decide) ?_
    refine lv_aload_n hx hb dX0_count_86 rfl (lv_at hl 0 rfl) ?_
    refine lv_aload_n hx hb dX0_count_87 rfl (lv_at hl 0 rfl) ?_
    refine x0_gf C hP 6 (by decide) (v := .ref (ad 6)) rfl rfl q17 dX0_count_88 ?_
    refine g_ci (wr := []) (cells' := 0) (slots' := 0) rfl rfl C rd_nil hD hS (g_runV (wr := []) (n := 1) C (mX0_sumOfHired l D t cI o ad H.size u 6 (by decide) hh) (rw_V q196 q197 q198 q2 q199) kd_X0_sumOfHired ⟨Nat.le_of_ble_eq_true rfl, Nat.le_of_ble_eq_true rfl⟩ (ci := 0) rfl rfl rfl C.2.2.2.2.2.1 hP hD hS hl.1 rfl rfl (Nat.le_of_ble_eq_true rfl) dX0_count_91 ⟨Nat.le_of_ble_eq_true rfl, Nat.le_of_ble_eq_true rfl⟩) (fun v w' H locs hv _ _ hP hD hS => ?_)
    obtain ⟨rfl, rfl⟩ := hv
    have hD : va_D A (ra_w cI o ad u) := hD
    exact g_iret C hrt hP hD hS dX0_count_94 ⟨by skip; rfl, by skip; rfl⟩
theorem kd_X0_chest : yX0_chest.cls = yX0_chest.cls ∧ yX0_chest.cls ≠ "java/lang/invoke/MethodHandle" ∧ yX0_chest.cls ≠ "java/lang/invoke/VarHandle" ∧ (parseMethodDescriptor yX0_chest.desc).map (fun d => d.parameters.length) = some 1 := by decide +kernel
set_option maxHeartbeats 4000000 in
set_option maxRecDepth 100000 in
theorem mX0_chest (l : Launch) (D : va_G) (t : Nat → Nat) (cI : ClassId) (o : Nat) (ad : Nat → Nat) (sz : Nat) (u : S0) (k : Nat) (hk : k < 3) : gMi l yX0_chest (rw_ yX0_chest cX0_chest 2 (some .int)) (rm_ 1 0 0 21) [.ref o, .int (nI k)] D [(cI, .int)] t (ra_w cI o ad u) sz (fun v w' => v = u.1 8 k ∧ w' = ra_w cI o ad u) := by
  refine g_of (cc := cX0_chest) (nL := 2) (rt := (some .int)) (Q := fun A => va_Qi _ (fun w' U => gQ D A w' U) A) (by decide) (Nat.le_of_ble_eq_true rfl) (fun p e s m args below meth c A ls H C hrt hnm hS hP hD hl => ?_)
  have hx := C.1
  have hb := C.2.1
  have hown := C.2.2.2.1
  have hts := C.2.2.2.2.1
  have hl : lv_has ls 2 [(0, .ref o), (1, .int (nI k))] := hl
  refine lv_iload_n hx hb dX0_chest_0 rfl (lv_at hl 1 rfl) ?_
  refine lv_iconst (v := 3) hx hb dX0_chest_1 (by decide) ?_
  refine g_cv (wr := []) (cells' := 0) (slots' := 0) rfl rfl C rd_nil hD hS (g_runS (wr := []) (n := 2) (As := [.int (nI k), .int 3]) C (mX0_requireIndex l D t [(cI, .int)] (ra_w cI o ad u) H.size k 3 (by omega) (by omega)) (rw_S q89 q90 q2 q91) kd_X0_requireIndex ⟨Nat.le_of_ble_eq_true rfl, Nat.le_of_ble_eq_true rfl⟩ C.2.2.2.2.2.1 hP hD hS hl.1 rfl rfl (Nat.le_of_ble_eq_true rfl) dX0_chest_2 ⟨Nat.le_of_ble_eq_true rfl, Nat.le_of_ble_eq_true rfl⟩) (fun w' H locs hv _ _ hP hD hS => ?_)
  subst hv
  have hD : va_D A (ra_w cI o ad u) := hD
  refine lv_aload_n hx hb dX0_chest_5 rfl (lv_at hl 0 rfl) ?_
  refine x0_gf C hP 8 (by decide) (v := .ref (ad 8)) rfl rfl q19 dX0_chest_6 ?_
  refine lv_iload_n hx hb dX0_chest_9 rfl (lv_at hl 1 rfl) ?_
  refine x0_ld C hP (k := 8) (i := k) (Or.inl (by decide)) hk rfl dX0_chest_10 ?_
  exact g_iret C hrt hP hD hS dX0_chest_11 ⟨by skip; rfl, by skip; rfl⟩
theorem kd_X0_rate : yX0_rate.cls = yX0_rate.cls ∧ yX0_rate.cls ≠ "java/lang/invoke/MethodHandle" ∧ yX0_rate.cls ≠ "java/lang/invoke/VarHandle" ∧ (parseMethodDescriptor yX0_rate.desc).map (fun d => d.parameters.length) = some 1 := by decide +kernel
set_option maxHeartbeats 4000000 in
set_option maxRecDepth 100000 in
theorem mX0_rate (l : Launch) (D : va_G) (t : Nat → Nat) (cI : ClassId) (o : Nat) (ad : Nat → Nat) (sz : Nat) (u : S0) (k : Nat) (hk : k < 5) : gMi l yX0_rate (rw_ yX0_rate cX0_rate 2 (some .int)) (rm_ 1 0 0 21) [.ref o, .int (nI k)] D [(cI, .int)] t (ra_w cI o ad u) sz (fun v w' => v = u.1 7 k ∧ w' = ra_w cI o ad u) := by
  refine g_of (cc := cX0_rate) (nL := 2) (rt := (some .int)) (Q := fun A => va_Qi _ (fun w' U => gQ D A w' U) A) (by decide) (Nat.le_of_ble_eq_true rfl) (fun p e s m args below meth c A ls H C hrt hnm hS hP hD hl => ?_)
  have hx := C.1
  have hb := C.2.1
  have hown := C.2.2.2.1
  have hts := C.2.2.2.2.1
  have hl : lv_has ls 2 [(0, .ref o), (1, .int (nI k))] := hl
  refine lv_iload_n hx hb dX0_rate_0 rfl (lv_at hl 1 rfl) ?_
  refine lv_iconst (v := 5) hx hb dX0_rate_1 (by decide) ?_
  refine g_cv (wr := []) (cells' := 0) (slots' := 0) rfl rfl C rd_nil hD hS (g_runS (wr := []) (n := 2) (As := [.int (nI k), .int 5]) C (mX0_requireIndex l D t [(cI, .int)] (ra_w cI o ad u) H.size k 5 (by omega) (by omega)) (rw_S q89 q90 q2 q91) kd_X0_requireIndex ⟨Nat.le_of_ble_eq_true rfl, Nat.le_of_ble_eq_true rfl⟩ C.2.2.2.2.2.1 hP hD hS hl.1 rfl rfl (Nat.le_of_ble_eq_true rfl) dX0_rate_2 ⟨Nat.le_of_ble_eq_true rfl, Nat.le_of_ble_eq_true rfl⟩) (fun w' H locs hv _ _ hP hD hS => ?_)
  subst hv
  have hD : va_D A (ra_w cI o ad u) := hD
  refine lv_aload_n hx hb dX0_rate_5 rfl (lv_at hl 0 rfl) ?_
  refine x0_gf C hP 7 (by decide) (v := .ref (ad 7)) rfl rfl q18 dX0_rate_6 ?_
  refine lv_iload_n hx hb dX0_rate_9 rfl (lv_at hl 1 rfl) ?_
  refine x0_ld C hP (k := 7) (i := k) (Or.inl (by decide)) hk rfl dX0_rate_10 ?_
  exact g_iret C hrt hP hD hS dX0_rate_11 ⟨by skip; rfl, by skip; rfl⟩
theorem kd_X0_coins : yX0_coins.cls = yX0_coins.cls ∧ yX0_coins.cls ≠ "java/lang/invoke/MethodHandle" ∧ yX0_coins.cls ≠ "java/lang/invoke/VarHandle" ∧ (parseMethodDescriptor yX0_coins.desc).map (fun d => d.parameters.length) = some 2 := by decide +kernel
set_option maxHeartbeats 4000000 in
set_option maxRecDepth 100000 in
theorem lpX0_coins {p : Program} {l : Launch} {e : Env} {s : State} {m : MethodId} {args : Array Value} {below : List Frame} {meth : Method} {c : Code} {Q : State → Prop} {D : va_G} {t : Nat → Nat} {A : Nat → Prop} {cI : ClassId} {o : Nat} {ad : Nat → Nat} {u : S0} {r k : Nat} (C : gC p s m args meth c cX0_coins 4 RX0 D [(cI, .int)] t A) (hr8 : r < 8) (kk : ∀ (H : Heap) (locs : List Loc) (ls : Array Slot), va_P D vwCl (ra_w cI o ad (rf_ci (rf_cp u 8 12 3) (r + 1))) H → va_D A (ra_w cI o ad (rf_ci (rf_cp u 8 12 3) (r + 1))) → va_S A s.heap H locs → lv_has ls 4 [(0, .ref o), (1, .int (nI r)), (2, .int (nI k)), (3, .int (nI (r + 1)))] → W p l e (rm_ 6 0 0 132) s m args below meth c H locs 0 0 Q (F0 m 52 ls [])) :
    ∀ (n i : Nat), i + n = (r + 1) → ∀ (H : Heap) (locs : List Loc) (ls : Array Slot), va_P D vwCl (ra_w cI o ad (rf_ci (rf_cp u 8 12 3) i)) H → va_D A (ra_w cI o ad (rf_ci (rf_cp u 8 12 3) i)) → va_S A s.heap H locs → lv_has ls 4 [(0, .ref o), (1, .int (nI r)), (2, .int (nI k)), (3, .int (nI i))] → W p l e (rm_ 6 0 0 132) s m args below meth c H locs 0 0 Q (F0 m 27 ls []) := by
  have hx := C.1
  have hb := C.2.1
  have hown := C.2.2.2.1
  have hts := C.2.2.2.2.1
  intro n
  induction n with
  | zero =>
    intro i hi H locs ls hP hD hS hl
    have hiN : i = (r + 1) := by omega
    refine lv_iload_n hx hb dX0_coins_27 rfl (lv_at hl 3 rfl) ?_
    refine lv_iload_n hx hb dX0_coins_28 rfl (lv_at hl 1 rfl) ?_
    refine lv_icmp_gt (tgt := 52) hx hb dX0_coins_29 (by decide) (fun c1 => ?_) (fun c1 => absurd ((nI_ltI (a := r) (b := i) (by omega) (by omega)).mpr (by omega)) c1)
    subst hiN
    exact kk _ _ _ hP hD hS (lv_sub hl [0, 1, 2, 3] rfl)
  | succ n ih =>
    intro i hi H locs ls hP hD hS hl
    have hin : i < (r + 1) := by omega
    refine lv_iload_n hx hb dX0_coins_27 rfl (lv_at hl 3 rfl) ?_
    refine lv_iload_n hx hb dX0_coins_28 rfl (lv_at hl 1 rfl) ?_
    refine lv_icmp_gt (tgt := 52) hx hb dX0_coins_29 (by decide) (fun c1 => absurd c1 (fun h9 => absurd ((nI_ltI (a := r) (b := i) (by omega) (by omega)).mp h9) (by omega))) (fun c1 => ?_)
    refine lv_aload_n hx hb dX0_coins_32 rfl (lv_at hl 0 rfl) ?_
    refine lv_aload_n hx hb dX0_coins_33 rfl (lv_at hl 0 rfl) ?_
    refine x0_gf C hP 12 (by decide) (v := .ref (ad 12)) rfl rfl q21 dX0_coins_34 ?_
    refine lv_aload_n hx hb dX0_coins_37 rfl (lv_at hl 0 rfl) ?_
    refine lv_iload_n hx hb dX0_coins_38 rfl (lv_at hl 3 rfl) ?_
    refine g_ci (wr := []) (cells' := 0) (slots' := 0) rfl rfl C rd_nil hD hS (g_runV (wr := []) (n := 1) C (mX0_restToPay l D t cI o ad H.size (rf_ci (rf_cp u 8 12 3) i) i (by omega)) (rw_V q215 q216 q217 q2 q218) kd_X0_restToPay ⟨Nat.le_of_ble_eq_true rfl, Nat.le_of_ble_eq_true rfl⟩ (ci := 0) rfl rfl rfl C.2.2.2.2.2.1 hP hD hS hl.1 rfl rfl (Nat.le_of_ble_eq_true rfl) dX0_coins_39 ⟨Nat.le_of_ble_eq_true rfl, Nat.le_of_ble_eq_true rfl⟩) (fun v w' H locs hv _ _ hP hD hS => ?_)
    obtain ⟨rfl, rfl⟩ := hv
    have hD : va_D A (ra_w cI o ad (rf_ci (rf_cp u 8 12 3) i)) := hD
    refine g_ci (wr := []) (cells' := 0) (slots' := 0) rfl rfl C rd_nil hD hS (g_runV (wr := []) (n := 2) C (mX0_handOut l D t cI o ad H.size (rf_ci (rf_cp u 8 12 3) i) 12 (Or.inr rfl) (rf_re (rf_ci (rf_cp u 8 12 3) i) i)) (rw_V q150 q151 q152 q2 q153) kd_X0_handOut ⟨Nat.le_of_ble_eq_true rfl, Nat.le_of_ble_eq_true rfl⟩ (ci := 0) rfl rfl rfl C.2.2.2.2.2.1 hP hD hS hl.1 rfl rfl (Nat.le_of_ble_eq_true rfl) dX0_coins_42 ⟨Nat.le_of_ble_eq_true rfl, Nat.le_of_ble_eq_true rfl⟩) (fun v w' H locs hv _ _ hP hD hS => ?_)
    obtain ⟨rfl, rfl⟩ := hv
    have hD : va_D A (ra_w cI o ad (rf_hs (rf_ci (rf_cp u 8 12 3) i) 12 (rf_re (rf_ci (rf_cp u 8 12 3) i) i))) := hD
    obtain ⟨u2, eu2⟩ : ∃ z : S0, z = rf_hs (rf_ci (rf_cp u 8 12 3) i) 12 (rf_re (rf_ci (rf_cp u 8 12 3) i) i) := ⟨_, rfl⟩
    have hP : va_P D vwCl (ra_w cI o ad u2) H := by rw [eu2]; exact hP
    have hD : va_D A (ra_w cI o ad u2) := by rw [eu2]; exact hD
    refine lv_pop hx hb dX0_coins_45 rfl ?_
    refine lv_iinc (v := nI (i + 1)) (lv' := [(3, .int (nI (i + 1))), (0, .ref o), (1, .int (nI r)), (2, .int (nI k))]) hx hb dX0_coins_46 hl (k := 3) rfl (nI_1 _) (by decide) rfl (fun ls hl => ?_)
    refine lv_goto (tgt := 27) hx hb dX0_coins_49 (by decide) ?_
    subst eu2
    exact ih (i + 1) (by omega) _ _ _ hP hD hS (lv_sub hl [1, 2, 3, 0] rfl)
set_option maxHeartbeats 4000000 in
set_option maxRecDepth 100000 in
theorem mX0_coins (l : Launch) (D : va_G) (t : Nat → Nat) (cI : ClassId) (o : Nat) (ad : Nat → Nat) (sz : Nat) (u : S0) (hh : u.2.1 ≤ 8) (r : Nat) (hr : r < u.2.1) (k : Nat) (hk3 : k < 3) : gMi l yX0_coins (rw_ yX0_coins cX0_coins 4 (some .int)) (rm_ 6 0 0 132) [.ref o, .int (nI r), .int (nI k)] D [(cI, .int)] t (ra_w cI o ad u) sz (fun v w' => v = rf_co u r k ∧ w' = ra_w cI o ad (rf_cs u r)) := by
  refine g_of (cc := cX0_coins) (nL := 4) (rt := (some .int)) (Q := fun A => va_Qi _ (fun w' U => gQ D A w' U) A) (by decide) (Nat.le_of_ble_eq_true rfl) (fun p e s m args below meth c A ls H C hrt hnm hS hP hD hl => ?_)
  have hx := C.1
  have hb := C.2.1
  have hown := C.2.2.2.1
  have hts := C.2.2.2.2.1
  have hl : lv_has ls 4 [(0, .ref o), (1, .int (nI r)), (2, .int (nI k))] := hl
  refine lv_iload_n hx hb dX0_coins_0 rfl (lv_at hl 1 rfl) ?_
  refine lv_aload_n hx hb dX0_coins_1 rfl (lv_at hl 0 rfl) ?_
  refine x0_gf C hP 9 (by decide) (v := .int (nI u.2.1)) rfl rfl q66 dX0_coins_2 ?_
  refine g_cv (wr := []) (cells' := 0) (slots' := 0) rfl rfl C rd_nil hD hS (g_runS (wr := []) (n := 2) (As := [.int (nI r), .int (nI u.2.1)]) C (mX0_requireIndex l D t [(cI, .int)] (ra_w cI o ad u) H.size r u.2.1 (by omega) (by omega)) (rw_S q89 q90 q2 q91) kd_X0_requireIndex ⟨Nat.le_of_ble_eq_true rfl, Nat.le_of_ble_eq_true rfl⟩ C.2.2.2.2.2.1 hP hD hS hl.1 rfl rfl (Nat.le_of_ble_eq_true rfl) dX0_coins_5 ⟨Nat.le_of_ble_eq_true rfl, Nat.le_of_ble_eq_true rfl⟩) (fun w' H locs hv _ _ hP hD hS => ?_)
  subst hv
  have hD : va_D A (ra_w cI o ad u) := hD
  refine lv_iload_n hx hb dX0_coins_8 rfl (lv_at hl 2 rfl) ?_
  refine lv_iconst (v := 3) hx hb dX0_coins_9 (by decide) ?_
  refine g_cv (wr := []) (cells' := 0) (slots' := 0) rfl rfl C rd_nil hD hS (g_runS (wr := []) (n := 2) (As := [.int (nI k), .int 3]) C (mX0_requireIndex l D t [(cI, .int)] (ra_w cI o ad u) H.size k 3 (by omega) (by omega)) (rw_S q89 q90 q2 q91) kd_X0_requireIndex ⟨Nat.le_of_ble_eq_true rfl, Nat.le_of_ble_eq_true rfl⟩ C.2.2.2.2.2.1 hP hD hS hl.1 rfl rfl (Nat.le_of_ble_eq_true rfl) dX0_coins_10 ⟨Nat.le_of_ble_eq_true rfl, Nat.le_of_ble_eq_true rfl⟩) (fun w' H locs hv _ _ hP hD hS => ?_)
  subst hv
  have hD : va_D A (ra_w cI o ad u) := hD
  refine lv_aload_n hx hb dX0_coins_13 rfl (lv_at hl 0 rfl) ?_
  refine x0_gf C hP 8 (by decide) (v := .ref (ad 8)) rfl rfl q19 dX0_coins_14 ?_
  refine lv_aload_n hx hb dX0_coins_17 rfl (lv_at hl 0 rfl) ?_
  refine x0_gf C hP 12 (by decide) (v := .ref (ad 12)) rfl rfl q21 dX0_coins_18 ?_
  refine lv_iconst (v := 3) hx hb dX0_coins_21 (by decide) ?_
  refine g_cv (wr := []) (cells' := 0) (slots' := 0) rfl rfl C rd_nil hD hS (g_runS (wr := []) (n := 3) (As := [.ref (ad 8), .ref (ad 12), .int 3]) C (mX0_copyRow l D t cI o ad H.size u 8 12 3 (Or.inl (by decide)) (Or.inr ⟨by decide, by decide⟩) (by decide) (by decide) (by decide)) (rw_S q212 q213 q2 q214) kd_X0_copyRow ⟨Nat.le_of_ble_eq_true rfl, Nat.le_of_ble_eq_true rfl⟩ C.2.2.2.2.2.1 hP hD hS hl.1 rfl rfl (Nat.le_of_ble_eq_true rfl) dX0_coins_22 ⟨Nat.le_of_ble_eq_true rfl, Nat.le_of_ble_eq_true rfl⟩) (fun w' H locs hv _ _ hP hD hS => ?_)
  subst hv
  have hD : va_D A (ra_w cI o ad (rf_cp u 8 12 3)) := hD
  obtain ⟨u1, eu1⟩ : ∃ z : S0, z = rf_cp u 8 12 3 := ⟨_, rfl⟩
  have hP : va_P D vwCl (ra_w cI o ad u1) H := by rw [eu1]; exact hP
  have hD : va_D A (ra_w cI o ad u1) := by rw [eu1]; exact hD
  refine lv_iconst (v := 0) hx hb dX0_coins_25 (by decide) ?_
  refine lv_istore_n (lv' := [(3, .int 0), (0, .ref o), (1, .int (nI r)), (2, .int (nI k))]) hx hb dX0_coins_26 rfl hl (by decide) rfl (fun ls hl => ?_)
  subst eu1
  refine lpX0_coins  C (by omega) (fun H locs ls hP hD hS hl => ?_) (r + 1) 0 (by omega) _ _ _ hP hD hS (lv_sub hl [1, 2, 3, 0] rfl)
  refine lv_aload_n hx hb dX0_coins_52 rfl (lv_at hl 0 rfl) ?_
  refine x0_gf C hP 13 (by decide) (v := .ref (ad 13)) rfl rfl q22 dX0_coins_53 ?_
  refine lv_iload_n hx hb dX0_coins_56 rfl (lv_at hl 2 rfl) ?_
  refine x0_ld C hP (k := 13) (i := k) (Or.inr ⟨by decide, by decide⟩) hk3 rfl dX0_coins_57 ?_
  exact g_iret C hrt hP hD hS dX0_coins_58 ⟨by skip; rfl, by skip; rfl⟩
theorem kd_X0_lacks : yX0_lacks.cls = yX0_lacks.cls ∧ yX0_lacks.cls ≠ "java/lang/invoke/MethodHandle" ∧ yX0_lacks.cls ≠ "java/lang/invoke/VarHandle" ∧ (parseMethodDescriptor yX0_lacks.desc).map (fun d => d.parameters.length) = some 0 := by decide +kernel
set_option maxHeartbeats 4000000 in
set_option maxRecDepth 100000 in
theorem lpX0_lacks {p : Program} {l : Launch} {e : Env} {s : State} {m : MethodId} {args : Array Value} {below : List Frame} {meth : Method} {c : Code} {Q : State → Prop} {D : va_G} {t : Nat → Nat} {A : Nat → Prop} {cI : ClassId} {o : Nat} {ad : Nat → Nat} {u : S0} (C : gC p s m args meth c cX0_lacks 4 RX0 D [(cI, .int)] t A) (hh : u.2.1 ≤ 8) (kk : ∀ (H : Heap) (locs : List Loc) (ls : Array Slot), va_P D vwCl (ra_w cI o ad ((rf_lk (rf_cp u 8 12 3) u.2.1).2)) H → va_D A (ra_w cI o ad ((rf_lk (rf_cp u 8 12 3) u.2.1).2)) → va_S A s.heap H locs → lv_has ls 4 [(0, .ref o), (1, .int ((rf_lk (rf_cp u 8 12 3) u.2.1).1)), (2, .int (nI u.2.1))] → W p l e (rm_ 6 0 0 132) s m args below meth c H locs 0 0 Q (F0 m 52 ls [])) :
    ∀ (n i : Nat), i + n = u.2.1 → ∀ (H : Heap) (locs : List Loc) (ls : Array Slot), va_P D vwCl (ra_w cI o ad ((rf_lk (rf_cp u 8 12 3) i).2)) H → va_D A (ra_w cI o ad ((rf_lk (rf_cp u 8 12 3) i).2)) → va_S A s.heap H locs → lv_has ls 4 [(0, .ref o), (1, .int ((rf_lk (rf_cp u 8 12 3) i).1)), (2, .int (nI i))] → W p l e (rm_ 6 0 0 132) s m args below meth c H locs 0 0 Q (F0 m 16 ls []) := by
  have hx := C.1
  have hb := C.2.1
  have hown := C.2.2.2.1
  have hts := C.2.2.2.2.1
  intro n
  induction n with
  | zero =>
    intro i hi H locs ls hP hD hS hl
    have hiN : i = u.2.1 := by omega
    refine lv_iload_n hx hb dX0_lacks_16 rfl (lv_at hl 2 rfl) ?_
    refine lv_aload_n hx hb dX0_lacks_17 rfl (lv_at hl 0 rfl) ?_
    refine x0_gf C hP 9 (by decide) (v := .int (nI (((rf_lk (rf_cp u 8 12 3) i).2).2.1))) rfl rfl q66 dX0_lacks_18 ?_
    refine g_top (congrArg (fun z => nI z.1) ((rf_lk2 _ _).trans (rf_cp2 u 8 12 3))) ?_
    refine lv_icmp_ge (tgt := 52) hx hb dX0_lacks_21 (by decide) (fun c1 => ?_) (fun c1 => absurd ((nI_leI (a := u.2.1) (b := i) (by omega) (by omega)).mpr (by omega)) c1)
    subst hiN
    exact kk _ _ _ hP hD hS (lv_sub hl [0, 1, 2] rfl)
  | succ n ih =>
    intro i hi H locs ls hP hD hS hl
    have hin : i < u.2.1 := by omega
    refine lv_iload_n hx hb dX0_lacks_16 rfl (lv_at hl 2 rfl) ?_
    refine lv_aload_n hx hb dX0_lacks_17 rfl (lv_at hl 0 rfl) ?_
    refine x0_gf C hP 9 (by decide) (v := .int (nI (((rf_lk (rf_cp u 8 12 3) i).2).2.1))) rfl rfl q66 dX0_lacks_18 ?_
    refine g_top (congrArg (fun z => nI z.1) ((rf_lk2 _ _).trans (rf_cp2 u 8 12 3))) ?_
    refine lv_icmp_ge (tgt := 52) hx hb dX0_lacks_21 (by decide) (fun c1 => absurd c1 (fun h9 => absurd ((nI_leI (a := u.2.1) (b := i) (by omega) (by omega)).mp h9) (by omega))) (fun c1 => ?_)
    refine lv_aload_n hx hb dX0_lacks_24 rfl (lv_at hl 0 rfl) ?_
    refine lv_iload_n hx hb dX0_lacks_25 rfl (lv_at hl 2 rfl) ?_
    refine g_ci (wr := []) (cells' := 0) (slots' := 0) rfl rfl C rd_nil hD hS (g_runV (wr := []) (n := 1) C (mX0_restToPay l D t cI o ad H.size ((rf_lk (rf_cp u 8 12 3) i).2) i (by omega)) (rw_V q215 q216 q217 q2 q218) kd_X0_restToPay ⟨Nat.le_of_ble_eq_true rfl, Nat.le_of_ble_eq_true rfl⟩ (ci := 0) rfl rfl rfl C.2.2.2.2.2.1 hP hD hS hl.1 rfl rfl (Nat.le_of_ble_eq_true rfl) dX0_lacks_26 ⟨Nat.le_of_ble_eq_true rfl, Nat.le_of_ble_eq_true rfl⟩) (fun v w' H locs hv _ _ hP hD hS => ?_)
    obtain ⟨rfl, rfl⟩ := hv
    have hD : va_D A (ra_w cI o ad ((rf_lk (rf_cp u 8 12 3) i).2)) := hD
    refine lv_topi (fun v2 ev2 => ?_)
    refine lv_istore_n (lv' := [(3, .int v2), (0, .ref o), (1, .int ((rf_lk (rf_cp u 8 12 3) i).1)), (2, .int (nI i))]) hx hb dX0_lacks_29 rfl hl (by decide) rfl (fun ls hl => ?_)
    refine lv_iload_n hx hb dX0_lacks_30 rfl (lv_at hl 2 rfl) ?_
    refine lv_iload_n hx hb dX0_lacks_31 rfl (lv_at hl 0 rfl) ?_
    refine lv_aload_n hx hb dX0_lacks_32 rfl (lv_at hl 1 rfl) ?_
    refine lv_aload_n hx hb dX0_lacks_33 rfl (lv_at hl 1 rfl) ?_
    refine x0_gf C hP 12 (by decide) (v := .ref (ad 12)) rfl rfl q21 dX0_lacks_34 ?_
    refine lv_iload_n hx hb dX0_lacks_37 rfl (lv_at hl 0 rfl) ?_
    refine g_ci (wr := []) (cells' := 0) (slots' := 0) rfl rfl C rd_nil hD hS (g_runV (wr := []) (n := 2) C (mX0_handOut l D t cI o ad H.size ((rf_lk (rf_cp u 8 12 3) i).2) 12 (Or.inr rfl) v2) (rw_V q150 q151 q152 q2 q153) kd_X0_handOut ⟨Nat.le_of_ble_eq_true rfl, Nat.le_of_ble_eq_true rfl⟩ (ci := 0) rfl rfl rfl C.2.2.2.2.2.1 hP hD hS hl.1 rfl rfl (Nat.le_of_ble_eq_true rfl) dX0_lacks_38 ⟨Nat.le_of_ble_eq_true rfl, Nat.le_of_ble_eq_true rfl⟩) (fun v w' H locs hv _ _ hP hD hS => ?_)
    obtain ⟨rfl, rfl⟩ := hv
    have hD : va_D A (ra_w cI o ad (rf_hs ((rf_lk (rf_cp u 8 12 3) i).2) 12 v2)) := hD
    obtain ⟨u3, eu3⟩ : ∃ z : S0, z = rf_hs ((rf_lk (rf_cp u 8 12 3) i).2) 12 v2 := ⟨_, rfl⟩
    have hP : va_P D vwCl (ra_w cI o ad u3) H := by rw [eu3]; exact hP
    have hD : va_D A (ra_w cI o ad u3) := by rw [eu3]; exact hD
    refine lv_isub hx hb dX0_lacks_41 ?_
    refine lv_iconst (v := 4) hx hb dX0_lacks_42 (by decide) ?_
    refine lv_idiv hx hb dX0_lacks_43 (by decide) ?_
    refine lv_iadd hx hb dX0_lacks_44 ?_
    refine lv_topi (fun v4 ev4 => ?_)
    refine lv_istore_n (lv' := [(1, .int v4), (3, .int v2), (0, .ref o), (2, .int (nI i))]) hx hb dX0_lacks_45 rfl hl (by decide) rfl (fun ls hl => ?_)
    refine lv_iinc (v := nI (i + 1)) (lv' := [(2, .int (nI (i + 1))), (1, .int v4), (3, .int v2), (0, .ref o)]) hx hb dX0_lacks_46 hl (k := 3) rfl (nI_1 _) (by decide) rfl (fun ls hl => ?_)
    refine lv_goto (tgt := 16) hx hb dX0_lacks_49 (by decide) ?_
    subst ev4; subst eu3; subst ev2
    exact ih (i + 1) (by omega) _ _ _ hP hD hS (lv_sub hl [3, 1, 0] rfl)
set_option maxHeartbeats 4000000 in
set_option maxRecDepth 100000 in
theorem mX0_lacks (l : Launch) (D : va_G) (t : Nat → Nat) (cI : ClassId) (o : Nat) (ad : Nat → Nat) (sz : Nat) (u : S0) (hh : u.2.1 ≤ 8) : gMi l yX0_lacks (rw_ yX0_lacks cX0_lacks 4 (some .int)) (rm_ 6 0 0 132) [.ref o] D [(cI, .int)] t (ra_w cI o ad u) sz (fun v w' => v = (rf_lk (rf_cp u 8 12 3) u.2.1).1 ∧ w' = ra_w cI o ad ((rf_lk (rf_cp u 8 12 3) u.2.1).2)) := by
  refine g_of (cc := cX0_lacks) (nL := 4) (rt := (some .int)) (Q := fun A => va_Qi _ (fun w' U => gQ D A w' U) A) (by decide) (Nat.le_of_ble_eq_true rfl) (fun p e s m args below meth c A ls H C hrt hnm hS hP hD hl => ?_)
  have hx := C.1
  have hb := C.2.1
  have hown := C.2.2.2.1
  have hts := C.2.2.2.2.1
  have hl : lv_has ls 4 [(0, .ref o)] := hl
  refine lv_aload_n hx hb dX0_lacks_0 rfl (lv_at hl 0 rfl) ?_
  refine x0_gf C hP 8 (by decide) (v := .ref (ad 8)) rfl rfl q19 dX0_lacks_1 ?_
  refine lv_aload_n hx hb dX0_lacks_4 rfl (lv_at hl 0 rfl) ?_
  refine x0_gf C hP 12 (by decide) (v := .ref (ad 12)) rfl rfl q21 dX0_lacks_5 ?_
  refine lv_iconst (v := 3) hx hb dX0_lacks_8 (by decide) ?_
  refine g_cv (wr := []) (cells' := 0) (slots' := 0) rfl rfl C rd_nil hD hS (g_runS (wr := []) (n := 3) (As := [.ref (ad 8), .ref (ad 12), .int 3]) C (mX0_copyRow l D t cI o ad H.size u 8 12 3 (Or.inl (by decide)) (Or.inr ⟨by decide, by decide⟩) (by decide) (by decide) (by decide)) (rw_S q212 q213 q2 q214) kd_X0_copyRow ⟨Nat.le_of_ble_eq_true rfl, Nat.le_of_ble_eq_true rfl⟩ C.2.2.2.2.2.1 hP hD hS hl.1 rfl rfl (Nat.le_of_ble_eq_true rfl) dX0_lacks_9 ⟨Nat.le_of_ble_eq_true rfl, Nat.le_of_ble_eq_true rfl⟩) (fun w' H locs hv _ _ hP hD hS => ?_)
  subst hv
  have hD : va_D A (ra_w cI o ad (rf_cp u 8 12 3)) := hD
  obtain ⟨u1, eu1⟩ : ∃ z : S0, z = rf_cp u 8 12 3 := ⟨_, rfl⟩
  have hP : va_P D vwCl (ra_w cI o ad u1) H := by rw [eu1]; exact hP
  have hD : va_D A (ra_w cI o ad u1) := by rw [eu1]; exact hD
  refine lv_iconst (v := 0) hx hb dX0_lacks_12 (by decide) ?_
  refine lv_istore_n (lv' := [(1, .int 0), (0, .ref o)]) hx hb dX0_lacks_13 rfl hl (by decide) rfl (fun ls hl => ?_)
  refine lv_iconst (v := 0) hx hb dX0_lacks_14 (by decide) ?_
  refine lv_istore_n (lv' := [(2, .int 0), (1, .int 0), (0, .ref o)]) hx hb dX0_lacks_15 rfl hl (by decide) rfl (fun ls hl => ?_)
  subst eu1
  refine lpX0_lacks  C hh (fun H locs ls hP hD hS hl => ?_) u.2.1 0 (by omega) _ _ _ hP hD hS (lv_sub hl [2, 1, 0] rfl)
  refine lv_iload_n hx hb dX0_lacks_52 rfl (lv_at hl 1 rfl) ?_
  exact g_iret C hrt hP hD hS dX0_lacks_53 ⟨by skip; rfl, by skip; rfl⟩
end
section
/-! NUMBERS: 32-bit sums, differences, products, quotients that stay in their range are those of whole numbers -/
theorem tI_add {a b : Int32} (h1 : -2147483648 ≤ a.toInt + b.toInt) (h2 : a.toInt + b.toInt < 2147483648) : (a + b).toInt = a.toInt + b.toInt := by
  rw [Int32.toInt_add]
  exact Int.bmod_eq_of_le (by omega) (by omega)
theorem tI_sub {a b : Int32} (h1 : -2147483648 ≤ a.toInt - b.toInt) (h2 : a.toInt - b.toInt < 2147483648) : (a - b).toInt = a.toInt - b.toInt := by
  rw [Int32.toInt_sub]
  exact Int.bmod_eq_of_le (by omega) (by omega)
theorem tI_mul {a b : Int32} (h1 : -2147483648 ≤ a.toInt * b.toInt) (h2 : a.toInt * b.toInt < 2147483648) : (a * b).toInt = a.toInt * b.toInt := by
  rw [Int32.toInt_mul]
  exact Int.bmod_eq_of_le (by omega) (by omega)
theorem tI_rng (a : Int32) : -2147483648 ≤ a.toInt ∧ a.toInt < 2147483648 := ⟨Int32.le_toInt a, Int32.toInt_lt a⟩
theorem tI_div {a b : Int32} (ha : 0 ≤ a.toInt) (hb : 0 < b.toInt) : (a / b).toInt = a.toInt / b.toInt := by
  have h1 : 0 ≤ a.toInt / b.toInt := Int.ediv_nonneg ha (by omega)
  have h2 : a.toInt / b.toInt ≤ a.toInt := Int.ediv_le_self _ ha
  have h3 := (tI_rng a).2
  rw [Int32.toInt_div, Int.tdiv_eq_ediv_of_nonneg ha]
  exact Int.bmod_eq_of_le (by omega) (by omega)
theorem tI_eq {a b : Int32} : a = b ↔ a.toInt = b.toInt := Int32.toInt_inj.symm
theorem tI_lt {a b : Int32} : a < b ↔ a.toInt < b.toInt := Int32.lt_iff_toInt_lt
theorem tI_le {a b : Int32} : a ≤ b ↔ a.toInt ≤ b.toInt := Int32.le_iff_toInt_le
theorem tI_min (x y : Int32) : (rf_min x y).toInt = min x.toInt y.toInt := by
  unfold rf_min
  split
  · rename_i h
    rw [tI_lt] at h
    omega
  · rename_i h
    rw [tI_lt] at h
    omega
theorem tI_max (x y : Int32) : (rf_max x y).toInt = max x.toInt y.toInt := by
  unfold rf_max
  split
  · rename_i h
    rw [tI_lt] at h
    omega
  · rename_i h
    rw [tI_lt] at h
    omega
theorem tI_wp {n d : Int32} (hn : 0 ≤ n.toInt) (hd : 1 ≤ d.toInt) : (rf_wp n d).toInt = n.toInt / d.toInt := by
  have hd' : (1 : Int32) ≤ d := tI_le.mpr (show (1 : Int32).toInt ≤ d.toInt from hd)
  rw [rf_wp, if_pos hd']
  exact tI_div hn (by omega)
theorem tI_nI {n : Nat} (h : n < 2147483648) : (nI n).toInt = n := nI_toInt h
/-! THE BOUNDS of a book after T acts and pays -/
def rR (T : Nat) (u : S0) (r : Nat) : Prop := (0 ≤ (u.1 0 r).toInt ∧ (u.1 0 r).toInt ≤ 2) ∧ (0 ≤ (u.1 1 r).toInt ∧ (u.1 1 r).toInt ≤ 5999) ∧ (0 ≤ (u.1 2 r).toInt ∧ (u.1 2 r).toInt ≤ 99) ∧ (0 ≤ (u.1 3 r).toInt ∧ (u.1 3 r).toInt ≤ T) ∧ (0 ≤ (u.1 4 r).toInt ∧ (u.1 4 r).toInt ≤ 5000) ∧ 0 ≤ (u.1 5 r).toInt ∧ 0 ≤ (u.1 6 r).toInt ∧ (u.1 5 r).toInt + (u.1 6 r).toInt ≤ 60000 * T
def rV (u : S0) : Prop := (1 ≤ (u.1 7 0).toInt ∧ (u.1 7 0).toInt ≤ 40) ∧ (1 ≤ (u.1 7 1).toInt ∧ (u.1 7 1).toInt ≤ 99) ∧ (100 ≤ (u.1 7 2).toInt ∧ (u.1 7 2).toInt ≤ 900) ∧ (0 ≤ (u.1 7 3).toInt ∧ (u.1 7 3).toInt ≤ 100) ∧ (1 ≤ (u.1 7 4).toInt ∧ (u.1 7 4).toInt ≤ 9)
def rC (T : Nat) (u : S0) : Prop := ∀ c : Nat, c < 3 → 0 ≤ (u.1 8 c).toInt ∧ (u.1 8 c).toInt ≤ 500 * T
def rB (T : Nat) (u : S0) : Prop := u.2.1 ≤ 8 ∧ T ≤ 400 ∧ rV u ∧ rC T u ∧ (∀ r : Nat, r < 8 → rR T u r) ∧ ∀ r k : Nat, u.2.1 ≤ r → r < 8 → 1 ≤ k → k < 7 → u.1 k r = 0
theorem rR.mono {T T' : Nat} {u : S0} {r : Nat} (h : rR T u r) (hT : T ≤ T') : rR T' u r := by
  obtain ⟨h0, h1, h2, h3, h4, h5, h6, h7⟩ := h
  exact ⟨h0, h1, h2, ⟨h3.1, by omega⟩, h4, h5, h6, by omega⟩
/-! what counts: hours -/
def hcI (h l : Int) : Int := max 0 (h - (l + 1) / 2) + max 0 (max 0 (h - (l + 1) / 2) - 60) / 2
theorem tI_hc {T : Nat} {u : S0} {r : Nat} (B : rR T u r) (hT : T ≤ 400) : (rf_hc u r).toInt = hcI (u.1 2 r).toInt (u.1 3 r).toInt := by
  obtain ⟨-, -, h2, h3, -⟩ := B
  have e1 : (u.1 3 r + 1).toInt = (u.1 3 r).toInt + 1 := tI_add (by rw [show (1 : Int32).toInt = 1 from rfl]; omega) (by rw [show (1 : Int32).toInt = 1 from rfl]; omega)
  have e2 : ((u.1 3 r + 1) / 2).toInt = ((u.1 3 r).toInt + 1) / 2 := by
    rw [tI_div (by omega) (by decide), e1]; rfl
  have e3 : (u.1 2 r - (u.1 3 r + 1) / 2).toInt = (u.1 2 r).toInt - ((u.1 3 r).toInt + 1) / 2 := by
    rw [tI_sub (by omega) (by omega), e2]
  have e4 : (rf_max 0 (u.1 2 r - (u.1 3 r + 1) / 2)).toInt = max 0 ((u.1 2 r).toInt - ((u.1 3 r).toInt + 1) / 2) := by
    rw [tI_max, e3]; rfl
  have e5 : (rf_max 0 (u.1 2 r - (u.1 3 r + 1) / 2) - 60).toInt = max 0 ((u.1 2 r).toInt - ((u.1 3 r).toInt + 1) / 2) - 60 := by
    rw [tI_sub (by rw [show (60 : Int32).toInt = 60 from rfl]; omega) (by rw [show (60 : Int32).toInt = 60 from rfl]; omega), e4]; rfl
  have e6 : (rf_max 0 (rf_max 0 (u.1 2 r - (u.1 3 r + 1) / 2) - 60)).toInt = max 0 (max 0 ((u.1 2 r).toInt - ((u.1 3 r).toInt + 1) / 2) - 60) := by
    rw [tI_max, e5]; rfl
  have e7 : (rf_max 0 (rf_max 0 (u.1 2 r - (u.1 3 r + 1) / 2) - 60) / 2).toInt = max 0 (max 0 ((u.1 2 r).toInt - ((u.1 3 r).toInt + 1) / 2) - 60) / 2 := by
    rw [tI_div (by omega) (by decide), e6]; rfl
  unfold rf_hc hcI
  rw [tI_add (by omega) (by omega), e4, e7]
theorem hcI_b {h l : Int} (h0 : 0 ≤ h) (h1 : h ≤ 99) (l0 : 0 ≤ l) : 0 ≤ hcI h l ∧ hcI h l ≤ 119 := by
  unfold hcI
  omega
/-- the law's way to count hours -/
def rl_x (u : S0) (r : Nat) : Int32 := u.1 2 r - u.1 3 r / 2 - (u.1 3 r - u.1 3 r / 2 * 2)
theorem tI_lx {T : Nat} {u : S0} {r : Nat} (B : rR T u r) (hT : T ≤ 400) : (rl_x u r).toInt = (u.1 2 r).toInt - ((u.1 3 r).toInt + 1) / 2 := by
  obtain ⟨-, -, h2, h3, -⟩ := B
  have e1 : (u.1 3 r / 2).toInt = (u.1 3 r).toInt / 2 := tI_div (by omega) (by decide)
  have e2 : (u.1 3 r / 2 * 2).toInt = (u.1 3 r).toInt / 2 * 2 := by
    rw [tI_mul (by rw [show (2 : Int32).toInt = 2 from rfl]; omega) (by rw [show (2 : Int32).toInt = 2 from rfl]; omega), e1]; rfl
  have e3 : (u.1 3 r - u.1 3 r / 2 * 2).toInt = (u.1 3 r).toInt - (u.1 3 r).toInt / 2 * 2 := by
    rw [tI_sub (by omega) (by omega), e2]
  have e4 : (u.1 2 r - u.1 3 r / 2).toInt = (u.1 2 r).toInt - (u.1 3 r).toInt / 2 := by
    rw [tI_sub (by omega) (by omega), e1]
  unfold rl_x
  rw [tI_sub (by omega) (by omega), e4, e3]
  omega
theorem rl_c1 {T : Nat} {u : S0} {r : Nat} (B : rR T u r) (hT : T ≤ 400) (h : ¬ 0 ≤ rl_x u r) : (0 : Int32) = rf_hc u r := by
  rw [tI_le, tI_lx B hT] at h
  have h : ¬ 0 ≤ (u.1 2 r).toInt - ((u.1 3 r).toInt + 1) / 2 := h
  rw [tI_eq, tI_hc B hT]
  show (0 : Int) = _
  unfold hcI
  omega
theorem rl_c2 {T : Nat} {u : S0} {r : Nat} (B : rR T u r) (hT : T ≤ 400) (h : 0 ≤ rl_x u r) (h2 : ¬ 60 < rl_x u r) : rl_x u r = rf_hc u r := by
  rw [tI_le, tI_lx B hT] at h
  rw [tI_lt, tI_lx B hT] at h2
  have h : 0 ≤ (u.1 2 r).toInt - ((u.1 3 r).toInt + 1) / 2 := h
  have h2 : ¬ 60 < (u.1 2 r).toInt - ((u.1 3 r).toInt + 1) / 2 := h2
  rw [tI_eq, tI_hc B hT, tI_lx B hT]
  unfold hcI
  omega
theorem rl_c3 {T : Nat} {u : S0} {r : Nat} (B : rR T u r) (hT : T ≤ 400) (h2 : 60 < rl_x u r) : (120 + 3 * (rl_x u r - 60)) / 2 = rf_hc u r := by
  have e0 := tI_lx B hT
  rw [tI_lt, e0] at h2
  have h2 : 60 < (u.1 2 r).toInt - ((u.1 3 r).toInt + 1) / 2 := h2
  have hh := B.2.2.1
  have hl := B.2.2.2.1
  have e1 : (rl_x u r - 60).toInt = (u.1 2 r).toInt - ((u.1 3 r).toInt + 1) / 2 - 60 := by
    rw [tI_sub (by rw [show (60 : Int32).toInt = 60 from rfl]; omega) (by rw [show (60 : Int32).toInt = 60 from rfl]; omega), e0]; rfl
  have e2 : (3 * (rl_x u r - 60)).toInt = 3 * ((u.1 2 r).toInt - ((u.1 3 r).toInt + 1) / 2 - 60) := by
    rw [tI_mul (by rw [show (3 : Int32).toInt = 3 from rfl]; omega) (by rw [show (3 : Int32).toInt = 3 from rfl]; omega), e1]; rfl
  have e3 : (120 + 3 * (rl_x u r - 60)).toInt = 120 + 3 * ((u.1 2 r).toInt - ((u.1 3 r).toInt + 1) / 2 - 60) := by
    rw [tI_add (by rw [show (120 : Int32).toInt = 120 from rfl]; omega) (by rw [show (120 : Int32).toInt = 120 from rfl]; omega), e2]; rfl
  rw [tI_eq, tI_hc B hT, tI_div (by omega) (by decide), e3]
  show (120 + 3 * ((u.1 2 r).toInt - ((u.1 3 r).toInt + 1) / 2 - 60)) / 2 = _
  unfold hcI
  omega
/-! wages by pieces -/
def pcI (a s m b : Int) : Int := a * min s m / 10 + a * (s - min s m) * (100 + b) / 1000
theorem pc_b {a s m b : Int} (ha : 1 ≤ a ∧ a ≤ 40) (hs : 0 ≤ s ∧ s ≤ 5999) (hm : 100 ≤ m ∧ m ≤ 900) (hb : 0 ≤ b ∧ b ≤ 100) : (0 ≤ a * min s m ∧ a * min s m ≤ 36000) ∧ (0 ≤ a * (s - min s m) ∧ a * (s - min s m) ≤ 239960) ∧ 0 ≤ a * (s - min s m) * (100 + b) ∧ a * (s - min s m) * (100 + b) ≤ 47992000 := by
  have m0 : 0 ≤ min s m ∧ min s m ≤ 900 := by omega
  have m1 : 0 ≤ s - min s m ∧ s - min s m ≤ 5999 := by omega
  generalize min s m = x at m0 m1
  have h1 : 0 ≤ a * x := Int.mul_nonneg (by omega) m0.1
  have h2 : a * x ≤ 40 * 900 := Int.mul_le_mul ha.2 m0.2 m0.1 (by omega)
  generalize s - x = y at m1
  have h3 : 0 ≤ a * y := Int.mul_nonneg (by omega) m1.1
  have h4 : a * y ≤ 40 * 5999 := Int.mul_le_mul ha.2 m1.2 m1.1 (by omega)
  have h5 : 0 ≤ a * y * (100 + b) := Int.mul_nonneg h3 (by omega)
  have h6 : a * y * (100 + b) ≤ 239960 * 200 := Int.mul_le_mul (by omega) (by omega) (by omega) (by omega)
  omega
theorem pcI_b {a s m b : Int} (ha : 1 ≤ a ∧ a ≤ 40) (hs : 0 ≤ s ∧ s ≤ 5999) (hm : 100 ≤ m ∧ m ≤ 900) (hb : 0 ≤ b ∧ b ≤ 100) : 0 ≤ pcI a s m b ∧ pcI a s m b ≤ 51592 := by
  obtain ⟨h1, h2, h3⟩ := pc_b ha hs hm hb
  unfold pcI
  omega
theorem tL_mul {a b : Int64} (h1 : -9223372036854775808 ≤ a.toInt * b.toInt) (h2 : a.toInt * b.toInt < 9223372036854775808) : (a * b).toInt = a.toInt * b.toInt := by
  rw [Int64.toInt_mul]
  exact Int.bmod_eq_of_le (by omega) (by omega)
theorem tL_div {a b : Int64} (ha : 0 ≤ a.toInt) (hb : 0 < b.toInt) : (a / b).toInt = a.toInt / b.toInt := by
  have h1 : 0 ≤ a.toInt / b.toInt := Int.ediv_nonneg ha (by omega)
  have h2 : a.toInt / b.toInt ≤ a.toInt := Int.ediv_le_self _ ha
  have h3 := Int64.toInt_lt a
  rw [Int64.toInt_div, Int.tdiv_eq_ediv_of_nonneg ha]
  exact Int.bmod_eq_of_le (by omega) (by omega)
theorem tL_32 {a : Int64} (h1 : -2147483648 ≤ a.toInt) (h2 : a.toInt < 2147483648) : a.toInt32.toInt = a.toInt := by
  rw [Int64.toInt_toInt32]
  exact Int.bmod_eq_of_le (by omega) (by omega)
theorem tI_pc {T : Nat} {u : S0} {r : Nat} (V : rV u) (B : rR T u r) : (rf_pc u 7 r).toInt = pcI (u.1 7 0).toInt (u.1 1 r).toInt (u.1 7 2).toInt (u.1 7 3).toInt := by
  obtain ⟨v0, -, v2, v3, -⟩ := V
  obtain ⟨-, s1, -⟩ := B
  obtain ⟨b1, b2, b3⟩ := pc_b v0 s1 v2 v3
  have e1 := tI_min (u.1 1 r) (u.1 7 2)
  have e2 : (u.1 7 0 * rf_min (u.1 1 r) (u.1 7 2)).toInt = (u.1 7 0).toInt * min (u.1 1 r).toInt (u.1 7 2).toInt := by
    rw [tI_mul (by rw [e1]; omega) (by rw [e1]; omega), e1]
  have e3 : (u.1 7 0 * rf_min (u.1 1 r) (u.1 7 2) / 10).toInt = (u.1 7 0).toInt * min (u.1 1 r).toInt (u.1 7 2).toInt / 10 := by
    rw [tI_div (by rw [e2]; omega) (by decide), e2]; rfl
  have e4 : (u.1 1 r - rf_min (u.1 1 r) (u.1 7 2)).toInt = (u.1 1 r).toInt - min (u.1 1 r).toInt (u.1 7 2).toInt := by
    rw [tI_sub (by rw [e1]; omega) (by rw [e1]; omega), e1]
  have e5 : (100 + u.1 7 3).toInt = 100 + (u.1 7 3).toInt := tI_add (by rw [show (100 : Int32).toInt = 100 from rfl]; omega) (by rw [show (100 : Int32).toInt = 100 from rfl]; omega)
  have e6 : (Int32.toInt64 (u.1 7 0) * Int32.toInt64 (u.1 1 r - rf_min (u.1 1 r) (u.1 7 2))).toInt = (u.1 7 0).toInt * ((u.1 1 r).toInt - min (u.1 1 r).toInt (u.1 7 2).toInt) := by
    have g1 : (Int32.toInt64 (u.1 7 0)).toInt * (Int32.toInt64 (u.1 1 r - rf_min (u.1 1 r) (u.1 7 2))).toInt = (u.1 7 0).toInt * ((u.1 1 r).toInt - min (u.1 1 r).toInt (u.1 7 2).toInt) := by rw [Int32.toInt_toInt64, Int32.toInt_toInt64, e4]
    rw [tL_mul (by rw [g1]; omega) (by rw [g1]; omega), g1]
  have e7 : (Int32.toInt64 (u.1 7 0) * Int32.toInt64 (u.1 1 r - rf_min (u.1 1 r) (u.1 7 2)) * Int32.toInt64 (100 + u.1 7 3)).toInt = (u.1 7 0).toInt * ((u.1 1 r).toInt - min (u.1 1 r).toInt (u.1 7 2).toInt) * (100 + (u.1 7 3).toInt) := by
    have g1 : (Int32.toInt64 (u.1 7 0) * Int32.toInt64 (u.1 1 r - rf_min (u.1 1 r) (u.1 7 2))).toInt * (Int32.toInt64 (100 + u.1 7 3)).toInt = (u.1 7 0).toInt * ((u.1 1 r).toInt - min (u.1 1 r).toInt (u.1 7 2).toInt) * (100 + (u.1 7 3).toInt) := by rw [e6, Int32.toInt_toInt64, e5]
    rw [tL_mul (by rw [g1]; omega) (by rw [g1]; omega), g1]
  have e8 : (Int32.toInt64 (u.1 7 0) * Int32.toInt64 (u.1 1 r - rf_min (u.1 1 r) (u.1 7 2)) * Int32.toInt64 (100 + u.1 7 3) / 1000).toInt = (u.1 7 0).toInt * ((u.1 1 r).toInt - min (u.1 1 r).toInt (u.1 7 2).toInt) * (100 + (u.1 7 3).toInt) / 1000 := by
    rw [tL_div (by rw [e7]; omega) (by decide), e7]; rfl
  have e9 : (Int64.toInt32 (Int32.toInt64 (u.1 7 0) * Int32.toInt64 (u.1 1 r - rf_min (u.1 1 r) (u.1 7 2)) * Int32.toInt64 (100 + u.1 7 3) / 1000)).toInt = (u.1 7 0).toInt * ((u.1 1 r).toInt - min (u.1 1 r).toInt (u.1 7 2).toInt) * (100 + (u.1 7 3).toInt) / 1000 := by
    rw [tL_32 (by rw [e8]; omega) (by rw [e8]; omega), e8]
  unfold rf_pc pcI
  rw [tI_add (by rw [e3, e9]; omega) (by rw [e3, e9]; omega), e3, e9]
/-- the law's way -/
theorem rl_pc {T : Nat} {u : S0} {r : Nat} (V : rV u) (B : rR T u r) {x : Int32} (hx : x.toInt = min (u.1 1 r).toInt (u.1 7 2).toInt) : u.1 7 0 * x / 10 + u.1 7 0 * (u.1 1 r - x) * (100 + u.1 7 3) / 1000 = rf_pc u 7 r := by
  rw [tI_eq, tI_pc V B]
  obtain ⟨v0, -, v2, v3, -⟩ := V
  obtain ⟨-, s1, -⟩ := B
  obtain ⟨b1, b2, b3⟩ := pc_b v0 s1 v2 v3
  have e2 : (u.1 7 0 * x).toInt = (u.1 7 0).toInt * min (u.1 1 r).toInt (u.1 7 2).toInt := by
    rw [tI_mul (by rw [hx]; omega) (by rw [hx]; omega), hx]
  have e3 : (u.1 7 0 * x / 10).toInt = (u.1 7 0).toInt * min (u.1 1 r).toInt (u.1 7 2).toInt / 10 := by
    rw [tI_div (by rw [e2]; omega) (by decide), e2]; rfl
  have e4 : (u.1 1 r - x).toInt = (u.1 1 r).toInt - min (u.1 1 r).toInt (u.1 7 2).toInt := by
    rw [tI_sub (by rw [hx]; omega) (by rw [hx]; omega), hx]
  have e5 : (100 + u.1 7 3).toInt = 100 + (u.1 7 3).toInt := tI_add (by rw [show (100 : Int32).toInt = 100 from rfl]; omega) (by rw [show (100 : Int32).toInt = 100 from rfl]; omega)
  have e6 : (u.1 7 0 * (u.1 1 r - x)).toInt = (u.1 7 0).toInt * ((u.1 1 r).toInt - min (u.1 1 r).toInt (u.1 7 2).toInt) := by
    rw [tI_mul (by rw [e4]; omega) (by rw [e4]; omega), e4]
  have e7 : (u.1 7 0 * (u.1 1 r - x) * (100 + u.1 7 3)).toInt = (u.1 7 0).toInt * ((u.1 1 r).toInt - min (u.1 1 r).toInt (u.1 7 2).toInt) * (100 + (u.1 7 3).toInt) := by
    rw [tI_mul (by rw [e6, e5]; omega) (by rw [e6, e5]; omega), e6, e5]
  have e8 : (u.1 7 0 * (u.1 1 r - x) * (100 + u.1 7 3) / 1000).toInt = (u.1 7 0).toInt * ((u.1 1 r).toInt - min (u.1 1 r).toInt (u.1 7 2).toInt) * (100 + (u.1 7 3).toInt) / 1000 := by
    rw [tI_div (by rw [e7]; omega) (by decide), e7]; rfl
  unfold pcI
  rw [tI_add (by rw [e3, e8]; omega) (by rw [e3, e8]; omega), e3, e8]
theorem rl_m1 {x y : Int32} (h : x < y) : x.toInt = min x.toInt y.toInt := by
  rw [tI_lt] at h
  omega
theorem rl_m2 {x y : Int32} (h : ¬ x < y) : y.toInt = min x.toInt y.toInt := by
  rw [tI_lt] at h
  omega
/-! the law's way to choose a wage -/
theorem rl_w0 {u : S0} {r : Nat} (h : u.1 0 r = 0) : rf_pc u 7 r = rf_ww u 7 r := by rw [rf_ww, if_pos h]
theorem rl_w1 {T : Nat} {u : S0} {r : Nat} (B : rR T u r) (h : ¬ u.1 0 r = 0) (h2 : ¬ u.1 0 r = 2) : rf_hw u 7 r = rf_ww u 7 r := by
  have h1 : u.1 0 r = 1 := by
    rw [tI_eq] at h h2 ⊢
    have h : ¬ (u.1 0 r).toInt = 0 := h
    have h2 : ¬ (u.1 0 r).toInt = 2 := h2
    show (u.1 0 r).toInt = 1
    have := B.1
    omega
  rw [rf_ww, if_neg h, if_pos h1]
theorem rl_w2 {u : S0} {r : Nat} (h : u.1 0 r = 2) (h2 : rf_pc u 7 r ≤ rf_hw u 7 r) : rf_hw u 7 r = rf_ww u 7 r := by
  rw [rf_ww, if_neg (by rw [h]; decide), if_neg (by rw [h]; decide), tI_eq, tI_max]
  rw [tI_le] at h2
  omega
theorem rl_w3 {u : S0} {r : Nat} (h : u.1 0 r = 2) (h2 : ¬ rf_pc u 7 r ≤ rf_hw u 7 r) : rf_pc u 7 r = rf_ww u 7 r := by
  rw [rf_ww, if_neg (by rw [h]; decide), if_neg (by rw [h]; decide), tI_eq, tI_max]
  rw [tI_le] at h2
  omega
theorem rl_nz {u : S0} (V : rV u) : ¬ u.1 7 4 = 0 := by
  intro h
  rw [tI_eq] at h
  have h : (u.1 7 4).toInt = 0 := h
  have := V.2.2.2.2
  omega
theorem rl_wp {u : S0} (V : rV u) {x : Int32} : rf_wp x (u.1 7 4) = x / u.1 7 4 := by
  have h : (1 : Int32) ≤ u.1 7 4 := tI_le.mpr (show (1 : Int32).toInt ≤ _ from V.2.2.2.2.1)
  rw [rf_wp, if_pos h]
theorem rl_b1 {u : S0} {r : Nat} (V : rV u) (h : ¬ (rf_ww u 7 r + u.1 5 r) / u.1 7 4 ≤ u.1 4 r) : u.1 4 r = rf_tk u r := by
  unfold rf_tk rf_tb rf_cm
  rw [rl_wp V, rf_min, if_neg (fun h2 => h (tI_le.mpr (by rw [tI_lt] at h2; omega)))]
theorem rl_b2 {u : S0} {r : Nat} (V : rV u) (h : (rf_ww u 7 r + u.1 5 r) / u.1 7 4 ≤ u.1 4 r) : (rf_ww u 7 r + u.1 5 r) / u.1 7 4 = rf_tk u r := by
  unfold rf_tk rf_tb rf_cm
  rw [rl_wp V, tI_eq, tI_min]
  rw [tI_le] at h
  omega
end
section
theorem dX1_init_0 : decode cX1_init 0 = .ok (.aload_n 0, 1) := by decide +kernel
theorem dX1_init_1 : decode cX1_init 1 = .ok (.invokespecial 1, 3) := by decide +kernel
theorem dX1_init_4 : decode cX1_init 4 = .ok (.return_, 1) := by decide +kernel
theorem dX1_copy_0 : decode cX1_copy 0 = .ok (.new 7, 3) := by decide +kernel
theorem dX1_copy_3 : decode cX1_copy 3 = .ok (.dup, 1) := by decide +kernel
theorem dX1_copy_4 : decode cX1_copy 4 = .ok (.invokespecial 9, 3) := by decide +kernel
theorem dX1_copy_7 : decode cX1_copy 7 = .ok (.astore_n 1, 1) := by decide +kernel
theorem dX1_copy_8 : decode cX1_copy 8 = .ok (.aload_n 1, 1) := by decide +kernel
theorem dX1_copy_9 : decode cX1_copy 9 = .ok (.aload_n 0, 1) := by decide +kernel
theorem dX1_copy_10 : decode cX1_copy 10 = .ok (.getfield 10, 3) := by decide +kernel
theorem dX1_copy_13 : decode cX1_copy 13 = .ok (.putfield 10, 3) := by decide +kernel
theorem dX1_copy_16 : decode cX1_copy 16 = .ok (.aload_n 1, 1) := by decide +kernel
theorem dX1_copy_17 : decode cX1_copy 17 = .ok (.aload_n 0, 1) := by decide +kernel
theorem dX1_copy_18 : decode cX1_copy 18 = .ok (.getfield 14, 3) := by decide +kernel
theorem dX1_copy_21 : decode cX1_copy 21 = .ok (.putfield 14, 3) := by decide +kernel
theorem dX1_copy_24 : decode cX1_copy 24 = .ok (.aload_n 1, 1) := by decide +kernel
theorem dX1_copy_25 : decode cX1_copy 25 = .ok (.aload_n 0, 1) := by decide +kernel
theorem dX1_copy_26 : decode cX1_copy 26 = .ok (.getfield 17, 3) := by decide +kernel
theorem dX1_copy_29 : decode cX1_copy 29 = .ok (.putfield 17, 3) := by decide +kernel
theorem dX1_copy_32 : decode cX1_copy 32 = .ok (.aload_n 1, 1) := by decide +kernel
theorem dX1_copy_33 : decode cX1_copy 33 = .ok (.aload_n 0, 1) := by decide +kernel
theorem dX1_copy_34 : decode cX1_copy 34 = .ok (.getfield 20, 3) := by decide +kernel
theorem dX1_copy_37 : decode cX1_copy 37 = .ok (.putfield 20, 3) := by decide +kernel
theorem dX1_copy_40 : decode cX1_copy 40 = .ok (.aload_n 1, 1) := by decide +kernel
theorem dX1_copy_41 : decode cX1_copy 41 = .ok (.aload_n 0, 1) := by decide +kernel
theorem dX1_copy_42 : decode cX1_copy 42 = .ok (.getfield 23, 3) := by decide +kernel
theorem dX1_copy_45 : decode cX1_copy 45 = .ok (.putfield 23, 3) := by decide +kernel
theorem dX1_copy_48 : decode cX1_copy 48 = .ok (.aload_n 1, 1) := by decide +kernel
theorem dX1_copy_49 : decode cX1_copy 49 = .ok (.aload_n 0, 1) := by decide +kernel
theorem dX1_copy_50 : decode cX1_copy 50 = .ok (.getfield 26, 3) := by decide +kernel
theorem dX1_copy_53 : decode cX1_copy 53 = .ok (.putfield 26, 3) := by decide +kernel
theorem dX1_copy_56 : decode cX1_copy 56 = .ok (.aload_n 1, 1) := by decide +kernel
theorem dX1_copy_57 : decode cX1_copy 57 = .ok (.aload_n 0, 1) := by decide +kernel
theorem dX1_copy_58 : decode cX1_copy 58 = .ok (.getfield 29, 3) := by decide +kernel
theorem dX1_copy_61 : decode cX1_copy 61 = .ok (.putfield 29, 3) := by decide +kernel
theorem dX1_copy_64 : decode cX1_copy 64 = .ok (.aload_n 1, 1) := by decide +kernel
theorem dX1_copy_65 : decode cX1_copy 65 = .ok (.areturn, 1) := by decide +kernel
theorem dX1_counting_0 : decode cX1_counting 0 = .ok (.aload_n 0, 1) := by decide +kernel
theorem dX1_counting_1 : decode cX1_counting 1 = .ok (.getfield 17, 3) := by decide +kernel
theorem dX1_counting_4 : decode cX1_counting 4 = .ok (.aload_n 0, 1) := by decide +kernel
theorem dX1_counting_5 : decode cX1_counting 5 = .ok (.getfield 20, 3) := by decide +kernel
theorem dX1_counting_8 : decode cX1_counting 8 = .ok (.iconst 2, 1) := by decide +kernel
theorem dX1_counting_9 : decode cX1_counting 9 = .ok (.idiv, 1) := by decide +kernel
theorem dX1_counting_10 : decode cX1_counting 10 = .ok (.isub, 1) := by decide +kernel
theorem dX1_counting_11 : decode cX1_counting 11 = .ok (.aload_n 0, 1) := by decide +kernel
theorem dX1_counting_12 : decode cX1_counting 12 = .ok (.getfield 20, 3) := by decide +kernel
theorem dX1_counting_15 : decode cX1_counting 15 = .ok (.iconst 2, 1) := by decide +kernel
theorem dX1_counting_16 : decode cX1_counting 16 = .ok (.irem, 1) := by decide +kernel
theorem dX1_counting_17 : decode cX1_counting 17 = .ok (.isub, 1) := by decide +kernel
theorem dX1_counting_18 : decode cX1_counting 18 = .ok (.istore_n 1, 1) := by decide +kernel
theorem dX1_counting_19 : decode cX1_counting 19 = .ok (.iload_n 1, 1) := by decide +kernel
theorem dX1_counting_20 : decode cX1_counting 20 = .ok (.ifCond .ge 5, 3) := by decide +kernel
theorem dX1_counting_23 : decode cX1_counting 23 = .ok (.iconst 0, 1) := by decide +kernel
theorem dX1_counting_24 : decode cX1_counting 24 = .ok (.istore_n 1, 1) := by decide +kernel
theorem dX1_counting_25 : decode cX1_counting 25 = .ok (.iload_n 1, 1) := by decide +kernel
theorem dX1_counting_26 : decode cX1_counting 26 = .ok (.bipush 60, 2) := by decide +kernel
theorem dX1_counting_28 : decode cX1_counting 28 = .ok (.if_icmp .gt 7, 3) := by decide +kernel
theorem dX1_counting_31 : decode cX1_counting 31 = .ok (.iload_n 1, 1) := by decide +kernel
theorem dX1_counting_32 : decode cX1_counting 32 = .ok (.goto 14, 3) := by decide +kernel
theorem dX1_counting_35 : decode cX1_counting 35 = .ok (.bipush 120, 2) := by decide +kernel
theorem dX1_counting_37 : decode cX1_counting 37 = .ok (.iconst 3, 1) := by decide +kernel
theorem dX1_counting_38 : decode cX1_counting 38 = .ok (.iload_n 1, 1) := by decide +kernel
theorem dX1_counting_39 : decode cX1_counting 39 = .ok (.bipush 60, 2) := by decide +kernel
theorem dX1_counting_41 : decode cX1_counting 41 = .ok (.isub, 1) := by decide +kernel
theorem dX1_counting_42 : decode cX1_counting 42 = .ok (.imul, 1) := by decide +kernel
theorem dX1_counting_43 : decode cX1_counting 43 = .ok (.iadd, 1) := by decide +kernel
theorem dX1_counting_44 : decode cX1_counting 44 = .ok (.iconst 2, 1) := by decide +kernel
theorem dX1_counting_45 : decode cX1_counting 45 = .ok (.idiv, 1) := by decide +kernel
theorem dX1_counting_46 : decode cX1_counting 46 = .ok (.ireturn, 1) := by decide +kernel
theorem dX1_pieces_0 : decode cX1_pieces 0 = .ok (.aload_n 0, 1) := by decide +kernel
theorem dX1_pieces_1 : decode cX1_pieces 1 = .ok (.getfield 14, 3) := by decide +kernel
theorem dX1_pieces_4 : decode cX1_pieces 4 = .ok (.aload_n 1, 1) := by decide +kernel
theorem dX1_pieces_5 : decode cX1_pieces 5 = .ok (.iconst 2, 1) := by decide +kernel
theorem dX1_pieces_6 : decode cX1_pieces 6 = .ok (.iaload, 1) := by decide +kernel
theorem dX1_pieces_7 : decode cX1_pieces 7 = .ok (.if_icmp .ge 10, 3) := by decide +kernel
theorem dX1_pieces_10 : decode cX1_pieces 10 = .ok (.aload_n 0, 1) := by decide +kernel
theorem dX1_pieces_11 : decode cX1_pieces 11 = .ok (.getfield 14, 3) := by decide +kernel
theorem dX1_pieces_14 : decode cX1_pieces 14 = .ok (.goto 6, 3) := by decide +kernel
theorem dX1_pieces_17 : decode cX1_pieces 17 = .ok (.aload_n 1, 1) := by decide +kernel
theorem dX1_pieces_18 : decode cX1_pieces 18 = .ok (.iconst 2, 1) := by decide +kernel
theorem dX1_pieces_19 : decode cX1_pieces 19 = .ok (.iaload, 1) := by decide +kernel
theorem dX1_pieces_20 : decode cX1_pieces 20 = .ok (.istore_n 2, 1) := by decide +kernel
theorem dX1_pieces_21 : decode cX1_pieces 21 = .ok (.aload_n 1, 1) := by decide +kernel
theorem dX1_pieces_22 : decode cX1_pieces 22 = .ok (.iconst 0, 1) := by decide +kernel
theorem dX1_pieces_23 : decode cX1_pieces 23 = .ok (.iaload, 1) := by decide +kernel
theorem dX1_pieces_24 : decode cX1_pieces 24 = .ok (.iload_n 2, 1) := by decide +kernel
theorem dX1_pieces_25 : decode cX1_pieces 25 = .ok (.imul, 1) := by decide +kernel
theorem dX1_pieces_26 : decode cX1_pieces 26 = .ok (.bipush 10, 2) := by decide +kernel
theorem dX1_pieces_28 : decode cX1_pieces 28 = .ok (.idiv, 1) := by decide +kernel
theorem dX1_pieces_29 : decode cX1_pieces 29 = .ok (.aload_n 1, 1) := by decide +kernel
theorem dX1_pieces_30 : decode cX1_pieces 30 = .ok (.iconst 0, 1) := by decide +kernel
theorem dX1_pieces_31 : decode cX1_pieces 31 = .ok (.iaload, 1) := by decide +kernel
theorem dX1_pieces_32 : decode cX1_pieces 32 = .ok (.aload_n 0, 1) := by decide +kernel
theorem dX1_pieces_33 : decode cX1_pieces 33 = .ok (.getfield 14, 3) := by decide +kernel
theorem dX1_pieces_36 : decode cX1_pieces 36 = .ok (.iload_n 2, 1) := by decide +kernel
theorem dX1_pieces_37 : decode cX1_pieces 37 = .ok (.isub, 1) := by decide +kernel
theorem dX1_pieces_38 : decode cX1_pieces 38 = .ok (.imul, 1) := by decide +kernel
theorem dX1_pieces_39 : decode cX1_pieces 39 = .ok (.bipush 100, 2) := by decide +kernel
theorem dX1_pieces_41 : decode cX1_pieces 41 = .ok (.aload_n 1, 1) := by decide +kernel
theorem dX1_pieces_42 : decode cX1_pieces 42 = .ok (.iconst 3, 1) := by decide +kernel
theorem dX1_pieces_43 : decode cX1_pieces 43 = .ok (.iaload, 1) := by decide +kernel
theorem dX1_pieces_44 : decode cX1_pieces 44 = .ok (.iadd, 1) := by decide +kernel
theorem dX1_pieces_45 : decode cX1_pieces 45 = .ok (.imul, 1) := by decide +kernel
theorem dX1_pieces_46 : decode cX1_pieces 46 = .ok (.sipush 1000, 3) := by decide +kernel
theorem dX1_pieces_49 : decode cX1_pieces 49 = .ok (.idiv, 1) := by decide +kernel
theorem dX1_pieces_50 : decode cX1_pieces 50 = .ok (.iadd, 1) := by decide +kernel
theorem dX1_pieces_51 : decode cX1_pieces 51 = .ok (.ireturn, 1) := by decide +kernel
theorem dX1_wage_0 : decode cX1_wage 0 = .ok (.aload_n 0, 1) := by decide +kernel
theorem dX1_wage_1 : decode cX1_wage 1 = .ok (.aload_n 1, 1) := by decide +kernel
theorem dX1_wage_2 : decode cX1_wage 2 = .ok (.invokevirtual 32, 3) := by decide +kernel
theorem dX1_wage_5 : decode cX1_wage 5 = .ok (.istore_n 2, 1) := by decide +kernel
theorem dX1_wage_6 : decode cX1_wage 6 = .ok (.aload_n 1, 1) := by decide +kernel
theorem dX1_wage_7 : decode cX1_wage 7 = .ok (.iconst 1, 1) := by decide +kernel
theorem dX1_wage_8 : decode cX1_wage 8 = .ok (.iaload, 1) := by decide +kernel
theorem dX1_wage_9 : decode cX1_wage 9 = .ok (.aload_n 0, 1) := by decide +kernel
theorem dX1_wage_10 : decode cX1_wage 10 = .ok (.invokevirtual 36, 3) := by decide +kernel
theorem dX1_wage_13 : decode cX1_wage 13 = .ok (.imul, 1) := by decide +kernel
theorem dX1_wage_14 : decode cX1_wage 14 = .ok (.istore_n 3, 1) := by decide +kernel
theorem dX1_wage_15 : decode cX1_wage 15 = .ok (.aload_n 0, 1) := by decide +kernel
theorem dX1_wage_16 : decode cX1_wage 16 = .ok (.getfield 10, 3) := by decide +kernel
theorem dX1_wage_19 : decode cX1_wage 19 = .ok (.ifCond .eq 16, 3) := by decide +kernel
theorem dX1_wage_22 : decode cX1_wage 22 = .ok (.aload_n 0, 1) := by decide +kernel
theorem dX1_wage_23 : decode cX1_wage 23 = .ok (.getfield 10, 3) := by decide +kernel
theorem dX1_wage_26 : decode cX1_wage 26 = .ok (.iconst 2, 1) := by decide +kernel
theorem dX1_wage_27 : decode cX1_wage 27 = .ok (.if_icmp .ne 12, 3) := by decide +kernel
theorem dX1_wage_30 : decode cX1_wage 30 = .ok (.iload_n 2, 1) := by decide +kernel
theorem dX1_wage_31 : decode cX1_wage 31 = .ok (.iload_n 3, 1) := by decide +kernel
theorem dX1_wage_32 : decode cX1_wage 32 = .ok (.if_icmp .le 7, 3) := by decide +kernel
theorem dX1_wage_35 : decode cX1_wage 35 = .ok (.iload_n 2, 1) := by decide +kernel
theorem dX1_wage_36 : decode cX1_wage 36 = .ok (.goto 4, 3) := by decide +kernel
theorem dX1_wage_39 : decode cX1_wage 39 = .ok (.iload_n 3, 1) := by decide +kernel
theorem dX1_wage_40 : decode cX1_wage 40 = .ok (.ireturn, 1) := by decide +kernel
theorem dX2_init_0 : decode cX2_init 0 = .ok (.aload_n 0, 1) := by decide +kernel
theorem dX2_init_1 : decode cX2_init 1 = .ok (.invokespecial 1, 3) := by decide +kernel
theorem dX2_init_4 : decode cX2_init 4 = .ok (.aload_n 0, 1) := by decide +kernel
theorem dX2_init_5 : decode cX2_init 5 = .ok (.iconst 5, 1) := by decide +kernel
theorem dX2_init_6 : decode cX2_init 6 = .ok (.newarray .int, 2) := by decide +kernel
theorem dX2_init_8 : decode cX2_init 8 = .ok (.dup, 1) := by decide +kernel
theorem dX2_init_9 : decode cX2_init 9 = .ok (.iconst 0, 1) := by decide +kernel
theorem dX2_init_10 : decode cX2_init 10 = .ok (.bipush 12, 2) := by decide +kernel
theorem dX2_init_12 : decode cX2_init 12 = .ok (.iastore, 1) := by decide +kernel
theorem dX2_init_13 : decode cX2_init 13 = .ok (.dup, 1) := by decide +kernel
theorem dX2_init_14 : decode cX2_init 14 = .ok (.iconst 1, 1) := by decide +kernel
theorem dX2_init_15 : decode cX2_init 15 = .ok (.bipush 20, 2) := by decide +kernel
theorem dX2_init_17 : decode cX2_init 17 = .ok (.iastore, 1) := by decide +kernel
theorem dX2_init_18 : decode cX2_init 18 = .ok (.dup, 1) := by decide +kernel
theorem dX2_init_19 : decode cX2_init 19 = .ok (.iconst 2, 1) := by decide +kernel
theorem dX2_init_20 : decode cX2_init 20 = .ok (.sipush 400, 3) := by decide +kernel
theorem dX2_init_23 : decode cX2_init 23 = .ok (.iastore, 1) := by decide +kernel
theorem dX2_init_24 : decode cX2_init 24 = .ok (.dup, 1) := by decide +kernel
theorem dX2_init_25 : decode cX2_init 25 = .ok (.iconst 3, 1) := by decide +kernel
theorem dX2_init_26 : decode cX2_init 26 = .ok (.bipush 25, 2) := by decide +kernel
theorem dX2_init_28 : decode cX2_init 28 = .ok (.iastore, 1) := by decide +kernel
theorem dX2_init_29 : decode cX2_init 29 = .ok (.dup, 1) := by decide +kernel
theorem dX2_init_30 : decode cX2_init 30 = .ok (.iconst 4, 1) := by decide +kernel
theorem dX2_init_31 : decode cX2_init 31 = .ok (.iconst 4, 1) := by decide +kernel
theorem dX2_init_32 : decode cX2_init 32 = .ok (.iastore, 1) := by decide +kernel
theorem dX2_init_33 : decode cX2_init 33 = .ok (.putfield 7, 3) := by decide +kernel
theorem dX2_init_36 : decode cX2_init 36 = .ok (.aload_n 0, 1) := by decide +kernel
theorem dX2_init_37 : decode cX2_init 37 = .ok (.iconst 3, 1) := by decide +kernel
theorem dX2_init_38 : decode cX2_init 38 = .ok (.newarray .int, 2) := by decide +kernel
theorem dX2_init_40 : decode cX2_init 40 = .ok (.putfield 13, 3) := by decide +kernel
theorem dX2_init_43 : decode cX2_init 43 = .ok (.aload_n 0, 1) := by decide +kernel
theorem dX2_init_44 : decode cX2_init 44 = .ok (.iconst 0, 1) := by decide +kernel
theorem dX2_init_45 : decode cX2_init 45 = .ok (.anewarray 16, 3) := by decide +kernel
theorem dX2_init_48 : decode cX2_init 48 = .ok (.putfield 18, 3) := by decide +kernel
theorem dX2_init_51 : decode cX2_init 51 = .ok (.return_, 1) := by decide +kernel
theorem dX2_copy_0 : decode cX2_copy 0 = .ok (.new 8, 3) := by decide +kernel
theorem dX2_copy_3 : decode cX2_copy 3 = .ok (.dup, 1) := by decide +kernel
theorem dX2_copy_4 : decode cX2_copy 4 = .ok (.invokespecial 22, 3) := by decide +kernel
theorem dX2_copy_7 : decode cX2_copy 7 = .ok (.astore_n 1, 1) := by decide +kernel
theorem dX2_copy_8 : decode cX2_copy 8 = .ok (.aload_n 1, 1) := by decide +kernel
theorem dX2_copy_9 : decode cX2_copy 9 = .ok (.aload_n 0, 1) := by decide +kernel
theorem dX2_copy_10 : decode cX2_copy 10 = .ok (.getfield 23, 3) := by decide +kernel
theorem dX2_copy_13 : decode cX2_copy 13 = .ok (.putfield 23, 3) := by decide +kernel
theorem dX2_copy_16 : decode cX2_copy 16 = .ok (.aload_n 1, 1) := by decide +kernel
theorem dX2_copy_17 : decode cX2_copy 17 = .ok (.aload_n 0, 1) := by decide +kernel
theorem dX2_copy_18 : decode cX2_copy 18 = .ok (.getfield 7, 3) := by decide +kernel
theorem dX2_copy_21 : decode cX2_copy 21 = .ok (.invokevirtual 27, 3) := by decide +kernel
theorem dX2_copy_24 : decode cX2_copy 24 = .ok (.checkcast 28, 3) := by decide +kernel
theorem dX2_copy_27 : decode cX2_copy 27 = .ok (.putfield 7, 3) := by decide +kernel
theorem dX2_copy_30 : decode cX2_copy 30 = .ok (.aload_n 1, 1) := by decide +kernel
theorem dX2_copy_31 : decode cX2_copy 31 = .ok (.aload_n 0, 1) := by decide +kernel
theorem dX2_copy_32 : decode cX2_copy 32 = .ok (.getfield 13, 3) := by decide +kernel
theorem dX2_copy_35 : decode cX2_copy 35 = .ok (.invokevirtual 27, 3) := by decide +kernel
theorem dX2_copy_38 : decode cX2_copy 38 = .ok (.checkcast 28, 3) := by decide +kernel
theorem dX2_copy_41 : decode cX2_copy 41 = .ok (.putfield 13, 3) := by decide +kernel
theorem dX2_copy_44 : decode cX2_copy 44 = .ok (.aload_n 1, 1) := by decide +kernel
theorem dX2_copy_45 : decode cX2_copy 45 = .ok (.aload_n 0, 1) := by decide +kernel
theorem dX2_copy_46 : decode cX2_copy 46 = .ok (.getfield 18, 3) := by decide +kernel
theorem dX2_copy_49 : decode cX2_copy 49 = .ok (.arraylength, 1) := by decide +kernel
theorem dX2_copy_50 : decode cX2_copy 50 = .ok (.anewarray 16, 3) := by decide +kernel
theorem dX2_copy_53 : decode cX2_copy 53 = .ok (.putfield 18, 3) := by decide +kernel
theorem dX2_copy_56 : decode cX2_copy 56 = .ok (.iconst 0, 1) := by decide +kernel
theorem dX2_copy_57 : decode cX2_copy 57 = .ok (.istore_n 2, 1) := by decide +kernel
theorem dX2_copy_58 : decode cX2_copy 58 = .ok (.iload_n 2, 1) := by decide +kernel
theorem dX2_copy_59 : decode cX2_copy 59 = .ok (.aload_n 0, 1) := by decide +kernel
theorem dX2_copy_60 : decode cX2_copy 60 = .ok (.getfield 18, 3) := by decide +kernel
theorem dX2_copy_63 : decode cX2_copy 63 = .ok (.arraylength, 1) := by decide +kernel
theorem dX2_copy_64 : decode cX2_copy 64 = .ok (.if_icmp .ge 24, 3) := by decide +kernel
theorem dX2_copy_67 : decode cX2_copy 67 = .ok (.aload_n 1, 1) := by decide +kernel
theorem dX2_copy_68 : decode cX2_copy 68 = .ok (.getfield 18, 3) := by decide +kernel
theorem dX2_copy_71 : decode cX2_copy 71 = .ok (.iload_n 2, 1) := by decide +kernel
theorem dX2_copy_72 : decode cX2_copy 72 = .ok (.aload_n 0, 1) := by decide +kernel
theorem dX2_copy_73 : decode cX2_copy 73 = .ok (.getfield 18, 3) := by decide +kernel
theorem dX2_copy_76 : decode cX2_copy 76 = .ok (.iload_n 2, 1) := by decide +kernel
theorem dX2_copy_77 : decode cX2_copy 77 = .ok (.aaload, 1) := by decide +kernel
theorem dX2_copy_78 : decode cX2_copy 78 = .ok (.invokevirtual 32, 3) := by decide +kernel
theorem dX2_copy_81 : decode cX2_copy 81 = .ok (.aastore, 1) := by decide +kernel
theorem dX2_copy_82 : decode cX2_copy 82 = .ok (.iinc 2 1, 3) := by decide +kernel
theorem dX2_copy_85 : decode cX2_copy 85 = .ok (.goto (-27), 3) := by decide +kernel
theorem dX2_copy_88 : decode cX2_copy 88 = .ok (.aload_n 1, 1) := by decide +kernel
theorem dX2_copy_89 : decode cX2_copy 89 = .ok (.areturn, 1) := by decide +kernel
theorem dX2_back_0 : decode cX2_back 0 = .ok (.aload_n 1, 1) := by decide +kernel
theorem dX2_back_1 : decode cX2_back 1 = .ok (.aload_n 0, 1) := by decide +kernel
theorem dX2_back_2 : decode cX2_back 2 = .ok (.getfield 7, 3) := by decide +kernel
theorem dX2_back_5 : decode cX2_back 5 = .ok (.invokevirtual 36, 3) := by decide +kernel
theorem dX2_back_8 : decode cX2_back 8 = .ok (.aload_n 1, 1) := by decide +kernel
theorem dX2_back_9 : decode cX2_back 9 = .ok (.getfield 40, 3) := by decide +kernel
theorem dX2_back_12 : decode cX2_back 12 = .ok (.iadd, 1) := by decide +kernel
theorem dX2_back_13 : decode cX2_back 13 = .ok (.aload_n 0, 1) := by decide +kernel
theorem dX2_back_14 : decode cX2_back 14 = .ok (.getfield 7, 3) := by decide +kernel
theorem dX2_back_17 : decode cX2_back 17 = .ok (.iconst 4, 1) := by decide +kernel
theorem dX2_back_18 : decode cX2_back 18 = .ok (.iaload, 1) := by decide +kernel
theorem dX2_back_19 : decode cX2_back 19 = .ok (.idiv, 1) := by decide +kernel
theorem dX2_back_20 : decode cX2_back 20 = .ok (.istore_n 2, 1) := by decide +kernel
theorem dX2_back_21 : decode cX2_back 21 = .ok (.aload_n 1, 1) := by decide +kernel
theorem dX2_back_22 : decode cX2_back 22 = .ok (.getfield 43, 3) := by decide +kernel
theorem dX2_back_25 : decode cX2_back 25 = .ok (.iload_n 2, 1) := by decide +kernel
theorem dX2_back_26 : decode cX2_back 26 = .ok (.if_icmp .ge 10, 3) := by decide +kernel
theorem dX2_back_29 : decode cX2_back 29 = .ok (.aload_n 1, 1) := by decide +kernel
theorem dX2_back_30 : decode cX2_back 30 = .ok (.getfield 43, 3) := by decide +kernel
theorem dX2_back_33 : decode cX2_back 33 = .ok (.goto 4, 3) := by decide +kernel
theorem dX2_back_36 : decode cX2_back 36 = .ok (.iload_n 2, 1) := by decide +kernel
theorem dX2_back_37 : decode cX2_back 37 = .ok (.ireturn, 1) := by decide +kernel
theorem dX2_pay_0 : decode cX2_pay 0 = .ok (.iconst 0, 1) := by decide +kernel
theorem dX2_pay_1 : decode cX2_pay 1 = .ok (.istore_n 1, 1) := by decide +kernel
theorem dX2_pay_2 : decode cX2_pay 2 = .ok (.aload_n 0, 1) := by decide +kernel
theorem dX2_pay_3 : decode cX2_pay 3 = .ok (.aload_n 0, 1) := by decide +kernel
theorem dX2_pay_4 : decode cX2_pay 4 = .ok (.getfield 18, 3) := by decide +kernel
theorem dX2_pay_7 : decode cX2_pay 7 = .ok (.arraylength, 1) := by decide +kernel
theorem dX2_pay_8 : decode cX2_pay 8 = .ok (.iconst 3, 1) := by decide +kernel
theorem dX2_pay_9 : decode cX2_pay 9 = .ok (.multianewarray 46 2, 4) := by decide +kernel
theorem dX2_pay_13 : decode cX2_pay 13 = .ok (.putfield 48, 3) := by decide +kernel
theorem dX2_pay_16 : decode cX2_pay 16 = .ok (.iconst 0, 1) := by decide +kernel
theorem dX2_pay_17 : decode cX2_pay 17 = .ok (.istore_n 2, 1) := by decide +kernel
theorem dX2_pay_18 : decode cX2_pay 18 = .ok (.iload_n 2, 1) := by decide +kernel
theorem dX2_pay_19 : decode cX2_pay 19 = .ok (.aload_n 0, 1) := by decide +kernel
theorem dX2_pay_20 : decode cX2_pay 20 = .ok (.getfield 18, 3) := by decide +kernel
theorem dX2_pay_23 : decode cX2_pay 23 = .ok (.arraylength, 1) := by decide +kernel
theorem dX2_pay_24 : decode cX2_pay 24 = .ok (.if_icmp .ge 186, 3) := by decide +kernel
theorem dX2_pay_27 : decode cX2_pay 27 = .ok (.aload_n 0, 1) := by decide +kernel
theorem dX2_pay_28 : decode cX2_pay 28 = .ok (.getfield 18, 3) := by decide +kernel
theorem dX2_pay_31 : decode cX2_pay 31 = .ok (.iload_n 2, 1) := by decide +kernel
theorem dX2_pay_32 : decode cX2_pay 32 = .ok (.aaload, 1) := by decide +kernel
theorem dX2_pay_33 : decode cX2_pay 33 = .ok (.astore_n 3, 1) := by decide +kernel
theorem dX2_pay_34 : decode cX2_pay 34 = .ok (.aload_n 0, 1) := by decide +kernel
theorem dX2_pay_35 : decode cX2_pay 35 = .ok (.aload_n 3, 1) := by decide +kernel
theorem dX2_pay_36 : decode cX2_pay 36 = .ok (.invokevirtual 51, 3) := by decide +kernel
theorem dX2_pay_39 : decode cX2_pay 39 = .ok (.istore 4, 2) := by decide +kernel
theorem dX2_pay_41 : decode cX2_pay 41 = .ok (.aload_n 3, 1) := by decide +kernel
theorem dX2_pay_42 : decode cX2_pay 42 = .ok (.aload_n 0, 1) := by decide +kernel
theorem dX2_pay_43 : decode cX2_pay 43 = .ok (.getfield 7, 3) := by decide +kernel
theorem dX2_pay_46 : decode cX2_pay 46 = .ok (.invokevirtual 36, 3) := by decide +kernel
theorem dX2_pay_49 : decode cX2_pay 49 = .ok (.aload_n 3, 1) := by decide +kernel
theorem dX2_pay_50 : decode cX2_pay 50 = .ok (.getfield 40, 3) := by decide +kernel
theorem dX2_pay_53 : decode cX2_pay 53 = .ok (.iadd, 1) := by decide +kernel
theorem dX2_pay_54 : decode cX2_pay 54 = .ok (.iload 4, 2) := by decide +kernel
theorem dX2_pay_56 : decode cX2_pay 56 = .ok (.isub, 1) := by decide +kernel
theorem dX2_pay_57 : decode cX2_pay 57 = .ok (.istore 5, 2) := by decide +kernel
theorem dX2_pay_59 : decode cX2_pay 59 = .ok (.aload_n 3, 1) := by decide +kernel
theorem dX2_pay_60 : decode cX2_pay 60 = .ok (.dup, 1) := by decide +kernel
theorem dX2_pay_61 : decode cX2_pay 61 = .ok (.getfield 43, 3) := by decide +kernel
theorem dX2_pay_64 : decode cX2_pay 64 = .ok (.iload 4, 2) := by decide +kernel
theorem dX2_pay_66 : decode cX2_pay 66 = .ok (.isub, 1) := by decide +kernel
theorem dX2_pay_67 : decode cX2_pay 67 = .ok (.putfield 43, 3) := by decide +kernel
theorem dX2_pay_70 : decode cX2_pay 70 = .ok (.iconst 3, 1) := by decide +kernel
theorem dX2_pay_71 : decode cX2_pay 71 = .ok (.newarray .int, 2) := by decide +kernel
theorem dX2_pay_73 : decode cX2_pay 73 = .ok (.dup, 1) := by decide +kernel
theorem dX2_pay_74 : decode cX2_pay 74 = .ok (.iconst 0, 1) := by decide +kernel
theorem dX2_pay_75 : decode cX2_pay 75 = .ok (.bipush 120, 2) := by decide +kernel
theorem dX2_pay_77 : decode cX2_pay 77 = .ok (.iastore, 1) := by decide +kernel
theorem dX2_pay_78 : decode cX2_pay 78 = .ok (.dup, 1) := by decide +kernel
theorem dX2_pay_79 : decode cX2_pay 79 = .ok (.iconst 1, 1) := by decide +kernel
theorem dX2_pay_80 : decode cX2_pay 80 = .ok (.bipush 48, 2) := by decide +kernel
theorem dX2_pay_82 : decode cX2_pay 82 = .ok (.iastore, 1) := by decide +kernel
theorem dX2_pay_83 : decode cX2_pay 83 = .ok (.dup, 1) := by decide +kernel
theorem dX2_pay_84 : decode cX2_pay 84 = .ok (.iconst 2, 1) := by decide +kernel
theorem dX2_pay_85 : decode cX2_pay 85 = .ok (.iconst 4, 1) := by decide +kernel
theorem dX2_pay_86 : decode cX2_pay 86 = .ok (.iastore, 1) := by decide +kernel
theorem dX2_pay_87 : decode cX2_pay 87 = .ok (.astore 6, 2) := by decide +kernel
theorem dX2_pay_89 : decode cX2_pay 89 = .ok (.iconst 0, 1) := by decide +kernel
theorem dX2_pay_90 : decode cX2_pay 90 = .ok (.istore 7, 2) := by decide +kernel
theorem dX2_pay_92 : decode cX2_pay 92 = .ok (.iload 7, 2) := by decide +kernel
theorem dX2_pay_94 : decode cX2_pay 94 = .ok (.iconst 3, 1) := by decide +kernel
theorem dX2_pay_95 : decode cX2_pay 95 = .ok (.if_icmp .ge 88, 3) := by decide +kernel
theorem dX2_pay_98 : decode cX2_pay 98 = .ok (.iload 5, 2) := by decide +kernel
theorem dX2_pay_100 : decode cX2_pay 100 = .ok (.aload 6, 2) := by decide +kernel
theorem dX2_pay_102 : decode cX2_pay 102 = .ok (.iload 7, 2) := by decide +kernel
theorem dX2_pay_104 : decode cX2_pay 104 = .ok (.iaload, 1) := by decide +kernel
theorem dX2_pay_105 : decode cX2_pay 105 = .ok (.if_icmp .lt 72, 3) := by decide +kernel
theorem dX2_pay_108 : decode cX2_pay 108 = .ok (.aload_n 0, 1) := by decide +kernel
theorem dX2_pay_109 : decode cX2_pay 109 = .ok (.getfield 13, 3) := by decide +kernel
theorem dX2_pay_112 : decode cX2_pay 112 = .ok (.iload 7, 2) := by decide +kernel
theorem dX2_pay_114 : decode cX2_pay 114 = .ok (.iaload, 1) := by decide +kernel
theorem dX2_pay_115 : decode cX2_pay 115 = .ok (.ifCond .le 62, 3) := by decide +kernel
theorem dX2_pay_118 : decode cX2_pay 118 = .ok (.iload 5, 2) := by decide +kernel
theorem dX2_pay_120 : decode cX2_pay 120 = .ok (.aload 6, 2) := by decide +kernel
theorem dX2_pay_122 : decode cX2_pay 122 = .ok (.iload 7, 2) := by decide +kernel
theorem dX2_pay_124 : decode cX2_pay 124 = .ok (.iaload, 1) := by decide +kernel
theorem dX2_pay_125 : decode cX2_pay 125 = .ok (.isub, 1) := by decide +kernel
theorem dX2_pay_126 : decode cX2_pay 126 = .ok (.istore 5, 2) := by decide +kernel
theorem dX2_pay_128 : decode cX2_pay 128 = .ok (.aload_n 0, 1) := by decide +kernel
theorem dX2_pay_129 : decode cX2_pay 129 = .ok (.getfield 13, 3) := by decide +kernel
theorem dX2_pay_132 : decode cX2_pay 132 = .ok (.iload 7, 2) := by decide +kernel
theorem dX2_pay_134 : decode cX2_pay 134 = .ok (.dup2, 1) := by decide +kernel
theorem dX2_pay_135 : decode cX2_pay 135 = .ok (.iaload, 1) := by decide +kernel
theorem dX2_pay_136 : decode cX2_pay 136 = .ok (.iconst 1, 1) := by decide +kernel
theorem dX2_pay_137 : decode cX2_pay 137 = .ok (.isub, 1) := by decide +kernel
theorem dX2_pay_138 : decode cX2_pay 138 = .ok (.iastore, 1) := by decide +kernel
theorem dX2_pay_139 : decode cX2_pay 139 = .ok (.aload_n 0, 1) := by decide +kernel
theorem dX2_pay_140 : decode cX2_pay 140 = .ok (.getfield 48, 3) := by decide +kernel
theorem dX2_pay_143 : decode cX2_pay 143 = .ok (.iload_n 2, 1) := by decide +kernel
theorem dX2_pay_144 : decode cX2_pay 144 = .ok (.aaload, 1) := by decide +kernel
theorem dX2_pay_145 : decode cX2_pay 145 = .ok (.iload 7, 2) := by decide +kernel
theorem dX2_pay_147 : decode cX2_pay 147 = .ok (.dup2, 1) := by decide +kernel
theorem dX2_pay_148 : decode cX2_pay 148 = .ok (.iaload, 1) := by decide +kernel
theorem dX2_pay_149 : decode cX2_pay 149 = .ok (.iconst 1, 1) := by decide +kernel
theorem dX2_pay_150 : decode cX2_pay 150 = .ok (.iadd, 1) := by decide +kernel
theorem dX2_pay_151 : decode cX2_pay 151 = .ok (.iastore, 1) := by decide +kernel
theorem dX2_pay_152 : decode cX2_pay 152 = .ok (.aload_n 3, 1) := by decide +kernel
theorem dX2_pay_153 : decode cX2_pay 153 = .ok (.dup, 1) := by decide +kernel
theorem dX2_pay_154 : decode cX2_pay 154 = .ok (.getfield 55, 3) := by decide +kernel
theorem dX2_pay_157 : decode cX2_pay 157 = .ok (.aload 6, 2) := by decide +kernel
theorem dX2_pay_159 : decode cX2_pay 159 = .ok (.iload 7, 2) := by decide +kernel
theorem dX2_pay_161 : decode cX2_pay 161 = .ok (.iaload, 1) := by decide +kernel
theorem dX2_pay_162 : decode cX2_pay 162 = .ok (.iadd, 1) := by decide +kernel
theorem dX2_pay_163 : decode cX2_pay 163 = .ok (.putfield 55, 3) := by decide +kernel
theorem dX2_pay_166 : decode cX2_pay 166 = .ok (.iload_n 1, 1) := by decide +kernel
theorem dX2_pay_167 : decode cX2_pay 167 = .ok (.aload 6, 2) := by decide +kernel
theorem dX2_pay_169 : decode cX2_pay 169 = .ok (.iload 7, 2) := by decide +kernel
theorem dX2_pay_171 : decode cX2_pay 171 = .ok (.iaload, 1) := by decide +kernel
theorem dX2_pay_172 : decode cX2_pay 172 = .ok (.iadd, 1) := by decide +kernel
theorem dX2_pay_173 : decode cX2_pay 173 = .ok (.istore_n 1, 1) := by decide +kernel
theorem dX2_pay_174 : decode cX2_pay 174 = .ok (.goto (-76), 3) := by decide +kernel
theorem dX2_pay_177 : decode cX2_pay 177 = .ok (.iinc 7 1, 3) := by decide +kernel
theorem dX2_pay_180 : decode cX2_pay 180 = .ok (.goto (-88), 3) := by decide +kernel
theorem dX2_pay_183 : decode cX2_pay 183 = .ok (.aload_n 3, 1) := by decide +kernel
theorem dX2_pay_184 : decode cX2_pay 184 = .ok (.iload 5, 2) := by decide +kernel
theorem dX2_pay_186 : decode cX2_pay 186 = .ok (.putfield 40, 3) := by decide +kernel
theorem dX2_pay_189 : decode cX2_pay 189 = .ok (.aload_n 3, 1) := by decide +kernel
theorem dX2_pay_190 : decode cX2_pay 190 = .ok (.iconst 0, 1) := by decide +kernel
theorem dX2_pay_191 : decode cX2_pay 191 = .ok (.putfield 58, 3) := by decide +kernel
theorem dX2_pay_194 : decode cX2_pay 194 = .ok (.aload_n 3, 1) := by decide +kernel
theorem dX2_pay_195 : decode cX2_pay 195 = .ok (.iconst 0, 1) := by decide +kernel
theorem dX2_pay_196 : decode cX2_pay 196 = .ok (.putfield 61, 3) := by decide +kernel
theorem dX2_pay_199 : decode cX2_pay 199 = .ok (.aload_n 3, 1) := by decide +kernel
theorem dX2_pay_200 : decode cX2_pay 200 = .ok (.iconst 0, 1) := by decide +kernel
theorem dX2_pay_201 : decode cX2_pay 201 = .ok (.putfield 64, 3) := by decide +kernel
theorem dX2_pay_204 : decode cX2_pay 204 = .ok (.iinc 2 1, 3) := by decide +kernel
theorem dX2_pay_207 : decode cX2_pay 207 = .ok (.goto (-189), 3) := by decide +kernel
theorem dX2_pay_210 : decode cX2_pay 210 = .ok (.aload_n 0, 1) := by decide +kernel
theorem dX2_pay_211 : decode cX2_pay 211 = .ok (.dup, 1) := by decide +kernel
theorem dX2_pay_212 : decode cX2_pay 212 = .ok (.getfield 23, 3) := by decide +kernel
theorem dX2_pay_215 : decode cX2_pay 215 = .ok (.iconst 1, 1) := by decide +kernel
theorem dX2_pay_216 : decode cX2_pay 216 = .ok (.iadd, 1) := by decide +kernel
theorem dX2_pay_217 : decode cX2_pay 217 = .ok (.putfield 23, 3) := by decide +kernel
theorem dX2_pay_220 : decode cX2_pay 220 = .ok (.iload_n 1, 1) := by decide +kernel
theorem dX2_pay_221 : decode cX2_pay 221 = .ok (.ireturn, 1) := by decide +kernel
theorem dX2_wages_0 : decode cX2_wages 0 = .ok (.iconst 0, 1) := by decide +kernel
theorem dX2_wages_1 : decode cX2_wages 1 = .ok (.istore_n 1, 1) := by decide +kernel
theorem dX2_wages_2 : decode cX2_wages 2 = .ok (.aload_n 0, 1) := by decide +kernel
theorem dX2_wages_3 : decode cX2_wages 3 = .ok (.getfield 18, 3) := by decide +kernel
theorem dX2_wages_6 : decode cX2_wages 6 = .ok (.astore_n 2, 1) := by decide +kernel
theorem dX2_wages_7 : decode cX2_wages 7 = .ok (.aload_n 2, 1) := by decide +kernel
theorem dX2_wages_8 : decode cX2_wages 8 = .ok (.arraylength, 1) := by decide +kernel
theorem dX2_wages_9 : decode cX2_wages 9 = .ok (.istore_n 3, 1) := by decide +kernel
theorem dX2_wages_10 : decode cX2_wages 10 = .ok (.iconst 0, 1) := by decide +kernel
theorem dX2_wages_11 : decode cX2_wages 11 = .ok (.istore 4, 2) := by decide +kernel
theorem dX2_wages_13 : decode cX2_wages 13 = .ok (.iload 4, 2) := by decide +kernel
theorem dX2_wages_15 : decode cX2_wages 15 = .ok (.iload_n 3, 1) := by decide +kernel
theorem dX2_wages_16 : decode cX2_wages 16 = .ok (.if_icmp .ge 27, 3) := by decide +kernel
theorem dX2_wages_19 : decode cX2_wages 19 = .ok (.aload_n 2, 1) := by decide +kernel
theorem dX2_wages_20 : decode cX2_wages 20 = .ok (.iload 4, 2) := by decide +kernel
theorem dX2_wages_22 : decode cX2_wages 22 = .ok (.aaload, 1) := by decide +kernel
theorem dX2_wages_23 : decode cX2_wages 23 = .ok (.astore 5, 2) := by decide +kernel
theorem dX2_wages_25 : decode cX2_wages 25 = .ok (.iload_n 1, 1) := by decide +kernel
theorem dX2_wages_26 : decode cX2_wages 26 = .ok (.aload 5, 2) := by decide +kernel
theorem dX2_wages_28 : decode cX2_wages 28 = .ok (.aload_n 0, 1) := by decide +kernel
theorem dX2_wages_29 : decode cX2_wages 29 = .ok (.getfield 7, 3) := by decide +kernel
theorem dX2_wages_32 : decode cX2_wages 32 = .ok (.invokevirtual 36, 3) := by decide +kernel
theorem dX2_wages_35 : decode cX2_wages 35 = .ok (.iadd, 1) := by decide +kernel
theorem dX2_wages_36 : decode cX2_wages 36 = .ok (.istore_n 1, 1) := by decide +kernel
theorem dX2_wages_37 : decode cX2_wages 37 = .ok (.iinc 4 1, 3) := by decide +kernel
theorem dX2_wages_40 : decode cX2_wages 40 = .ok (.goto (-27), 3) := by decide +kernel
theorem dX2_wages_43 : decode cX2_wages 43 = .ok (.iload_n 1, 1) := by decide +kernel
theorem dX2_wages_44 : decode cX2_wages 44 = .ok (.ireturn, 1) := by decide +kernel
theorem dX2_isSame_0 : decode cX2_isSame 0 = .ok (.iconst 0, 1) := by decide +kernel
theorem dX2_isSame_1 : decode cX2_isSame 1 = .ok (.istore_n 2, 1) := by decide +kernel
theorem dX2_isSame_2 : decode cX2_isSame 2 = .ok (.iconst 0, 1) := by decide +kernel
theorem dX2_isSame_3 : decode cX2_isSame 3 = .ok (.istore_n 3, 1) := by decide +kernel
theorem dX2_isSame_4 : decode cX2_isSame 4 = .ok (.iconst 0, 1) := by decide +kernel
theorem dX2_isSame_5 : decode cX2_isSame 5 = .ok (.istore 4, 2) := by decide +kernel
theorem dX2_isSame_7 : decode cX2_isSame 7 = .ok (.aload_n 0, 1) := by decide +kernel
theorem dX2_isSame_8 : decode cX2_isSame 8 = .ok (.invokevirtual 67, 3) := by decide +kernel
theorem dX2_isSame_11 : decode cX2_isSame 11 = .ok (.astore 5, 2) := by decide +kernel
theorem dX2_isSame_13 : decode cX2_isSame 13 = .ok (.aload 5, 2) := by decide +kernel
theorem dX2_isSame_15 : decode cX2_isSame 15 = .ok (.invokevirtual 70, 3) := by decide +kernel
theorem dX2_isSame_18 : decode cX2_isSame 18 = .ok (.pop, 1) := by decide +kernel
theorem dX2_isSame_19 : decode cX2_isSame 19 = .ok (.iconst 0, 1) := by decide +kernel
theorem dX2_isSame_20 : decode cX2_isSame 20 = .ok (.istore 6, 2) := by decide +kernel
theorem dX2_isSame_22 : decode cX2_isSame 22 = .ok (.iload 6, 2) := by decide +kernel
theorem dX2_isSame_24 : decode cX2_isSame 24 = .ok (.aload_n 0, 1) := by decide +kernel
theorem dX2_isSame_25 : decode cX2_isSame 25 = .ok (.getfield 18, 3) := by decide +kernel
theorem dX2_isSame_28 : decode cX2_isSame 28 = .ok (.arraylength, 1) := by decide +kernel
theorem dX2_isSame_29 : decode cX2_isSame 29 = .ok (.if_icmp .ge 311, 3) := by decide +kernel
theorem dX2_isSame_32 : decode cX2_isSame 32 = .ok (.aload_n 0, 1) := by decide +kernel
theorem dX2_isSame_33 : decode cX2_isSame 33 = .ok (.getfield 18, 3) := by decide +kernel
theorem dX2_isSame_36 : decode cX2_isSame 36 = .ok (.iload 6, 2) := by decide +kernel
theorem dX2_isSame_38 : decode cX2_isSame 38 = .ok (.aaload, 1) := by decide +kernel
theorem dX2_isSame_39 : decode cX2_isSame 39 = .ok (.astore 7, 2) := by decide +kernel
theorem dX2_isSame_41 : decode cX2_isSame 41 = .ok (.bipush 8, 2) := by decide +kernel
theorem dX2_isSame_43 : decode cX2_isSame 43 = .ok (.newarray .int, 2) := by decide +kernel
theorem dX2_isSame_45 : decode cX2_isSame 45 = .ok (.dup, 1) := by decide +kernel
theorem dX2_isSame_46 : decode cX2_isSame 46 = .ok (.iconst 0, 1) := by decide +kernel
theorem dX2_isSame_47 : decode cX2_isSame 47 = .ok (.aload 7, 2) := by decide +kernel
theorem dX2_isSame_49 : decode cX2_isSame 49 = .ok (.getfield 74, 3) := by decide +kernel
theorem dX2_isSame_52 : decode cX2_isSame 52 = .ok (.iastore, 1) := by decide +kernel
theorem dX2_isSame_53 : decode cX2_isSame 53 = .ok (.dup, 1) := by decide +kernel
theorem dX2_isSame_54 : decode cX2_isSame 54 = .ok (.iconst 1, 1) := by decide +kernel
theorem dX2_isSame_55 : decode cX2_isSame 55 = .ok (.aload 7, 2) := by decide +kernel
theorem dX2_isSame_57 : decode cX2_isSame 57 = .ok (.getfield 58, 3) := by decide +kernel
theorem dX2_isSame_60 : decode cX2_isSame 60 = .ok (.iastore, 1) := by decide +kernel
theorem dX2_isSame_61 : decode cX2_isSame 61 = .ok (.dup, 1) := by decide +kernel
theorem dX2_isSame_62 : decode cX2_isSame 62 = .ok (.iconst 2, 1) := by decide +kernel
theorem dX2_isSame_63 : decode cX2_isSame 63 = .ok (.aload 7, 2) := by decide +kernel
theorem dX2_isSame_65 : decode cX2_isSame 65 = .ok (.getfield 61, 3) := by decide +kernel
theorem dX2_isSame_68 : decode cX2_isSame 68 = .ok (.iastore, 1) := by decide +kernel
theorem dX2_isSame_69 : decode cX2_isSame 69 = .ok (.dup, 1) := by decide +kernel
theorem dX2_isSame_70 : decode cX2_isSame 70 = .ok (.iconst 3, 1) := by decide +kernel
theorem dX2_isSame_71 : decode cX2_isSame 71 = .ok (.aload 7, 2) := by decide +kernel
theorem dX2_isSame_73 : decode cX2_isSame 73 = .ok (.getfield 64, 3) := by decide +kernel
theorem dX2_isSame_76 : decode cX2_isSame 76 = .ok (.iastore, 1) := by decide +kernel
theorem dX2_isSame_77 : decode cX2_isSame 77 = .ok (.dup, 1) := by decide +kernel
theorem dX2_isSame_78 : decode cX2_isSame 78 = .ok (.iconst 4, 1) := by decide +kernel
theorem dX2_isSame_79 : decode cX2_isSame 79 = .ok (.aload 7, 2) := by decide +kernel
theorem dX2_isSame_81 : decode cX2_isSame 81 = .ok (.getfield 43, 3) := by decide +kernel
theorem dX2_isSame_84 : decode cX2_isSame 84 = .ok (.iastore, 1) := by decide +kernel
theorem dX2_isSame_85 : decode cX2_isSame 85 = .ok (.dup, 1) := by decide +kernel
theorem dX2_isSame_86 : decode cX2_isSame 86 = .ok (.iconst 5, 1) := by decide +kernel
theorem dX2_isSame_87 : decode cX2_isSame 87 = .ok (.aload 7, 2) := by decide +kernel
theorem dX2_isSame_89 : decode cX2_isSame 89 = .ok (.getfield 40, 3) := by decide +kernel
theorem dX2_isSame_92 : decode cX2_isSame 92 = .ok (.iastore, 1) := by decide +kernel
theorem dX2_isSame_93 : decode cX2_isSame 93 = .ok (.dup, 1) := by decide +kernel
theorem dX2_isSame_94 : decode cX2_isSame 94 = .ok (.bipush 6, 2) := by decide +kernel
theorem dX2_isSame_96 : decode cX2_isSame 96 = .ok (.aload 7, 2) := by decide +kernel
theorem dX2_isSame_98 : decode cX2_isSame 98 = .ok (.getfield 55, 3) := by decide +kernel
theorem dX2_isSame_101 : decode cX2_isSame 101 = .ok (.iastore, 1) := by decide +kernel
theorem dX2_isSame_102 : decode cX2_isSame 102 = .ok (.dup, 1) := by decide +kernel
theorem dX2_isSame_103 : decode cX2_isSame 103 = .ok (.bipush 7, 2) := by decide +kernel
theorem dX2_isSame_105 : decode cX2_isSame 105 = .ok (.aload 7, 2) := by decide +kernel
theorem dX2_isSame_107 : decode cX2_isSame 107 = .ok (.invokevirtual 77, 3) := by decide +kernel
theorem dX2_isSame_110 : decode cX2_isSame 110 = .ok (.iastore, 1) := by decide +kernel
theorem dX2_isSame_111 : decode cX2_isSame 111 = .ok (.astore 8, 2) := by decide +kernel
theorem dX2_isSame_113 : decode cX2_isSame 113 = .ok (.iconst 0, 1) := by decide +kernel
theorem dX2_isSame_114 : decode cX2_isSame 114 = .ok (.istore 9, 2) := by decide +kernel
theorem dX2_isSame_116 : decode cX2_isSame 116 = .ok (.iload 9, 2) := by decide +kernel
theorem dX2_isSame_118 : decode cX2_isSame 118 = .ok (.bipush 8, 2) := by decide +kernel
theorem dX2_isSame_120 : decode cX2_isSame 120 = .ok (.if_icmp .ge 27, 3) := by decide +kernel
theorem dX2_isSame_123 : decode cX2_isSame 123 = .ok (.aload_n 1, 1) := by decide +kernel
theorem dX2_isSame_124 : decode cX2_isSame 124 = .ok (.iload 6, 2) := by decide +kernel
theorem dX2_isSame_126 : decode cX2_isSame 126 = .ok (.iload 9, 2) := by decide +kernel
theorem dX2_isSame_128 : decode cX2_isSame 128 = .ok (.invokevirtual 80, 3) := by decide +kernel
theorem dX2_isSame_131 : decode cX2_isSame 131 = .ok (.aload 8, 2) := by decide +kernel
theorem dX2_isSame_133 : decode cX2_isSame 133 = .ok (.iload 9, 2) := by decide +kernel
theorem dX2_isSame_135 : decode cX2_isSame 135 = .ok (.iaload, 1) := by decide +kernel
theorem dX2_isSame_136 : decode cX2_isSame 136 = .ok (.if_icmp .eq 5, 3) := by decide +kernel
theorem dX2_isSame_139 : decode cX2_isSame 139 = .ok (.iconst 0, 1) := by decide +kernel
theorem dX2_isSame_140 : decode cX2_isSame 140 = .ok (.ireturn, 1) := by decide +kernel
theorem dX2_isSame_141 : decode cX2_isSame 141 = .ok (.iinc 9 1, 3) := by decide +kernel
theorem dX2_isSame_144 : decode cX2_isSame 144 = .ok (.goto (-28), 3) := by decide +kernel
theorem dX2_isSame_147 : decode cX2_isSame 147 = .ok (.aload 7, 2) := by decide +kernel
theorem dX2_isSame_149 : decode cX2_isSame 149 = .ok (.aload_n 0, 1) := by decide +kernel
theorem dX2_isSame_150 : decode cX2_isSame 150 = .ok (.getfield 7, 3) := by decide +kernel
theorem dX2_isSame_153 : decode cX2_isSame 153 = .ok (.invokevirtual 36, 3) := by decide +kernel
theorem dX2_isSame_156 : decode cX2_isSame 156 = .ok (.aload 7, 2) := by decide +kernel
theorem dX2_isSame_158 : decode cX2_isSame 158 = .ok (.getfield 40, 3) := by decide +kernel
theorem dX2_isSame_161 : decode cX2_isSame 161 = .ok (.iadd, 1) := by decide +kernel
theorem dX2_isSame_162 : decode cX2_isSame 162 = .ok (.istore 9, 2) := by decide +kernel
theorem dX2_isSame_164 : decode cX2_isSame 164 = .ok (.bipush 6, 2) := by decide +kernel
theorem dX2_isSame_166 : decode cX2_isSame 166 = .ok (.newarray .int, 2) := by decide +kernel
theorem dX2_isSame_168 : decode cX2_isSame 168 = .ok (.dup, 1) := by decide +kernel
theorem dX2_isSame_169 : decode cX2_isSame 169 = .ok (.iconst 0, 1) := by decide +kernel
theorem dX2_isSame_170 : decode cX2_isSame 170 = .ok (.aload 7, 2) := by decide +kernel
theorem dX2_isSame_172 : decode cX2_isSame 172 = .ok (.aload_n 0, 1) := by decide +kernel
theorem dX2_isSame_173 : decode cX2_isSame 173 = .ok (.getfield 7, 3) := by decide +kernel
theorem dX2_isSame_176 : decode cX2_isSame 176 = .ok (.invokevirtual 86, 3) := by decide +kernel
theorem dX2_isSame_179 : decode cX2_isSame 179 = .ok (.iastore, 1) := by decide +kernel
theorem dX2_isSame_180 : decode cX2_isSame 180 = .ok (.dup, 1) := by decide +kernel
theorem dX2_isSame_181 : decode cX2_isSame 181 = .ok (.iconst 1, 1) := by decide +kernel
theorem dX2_isSame_182 : decode cX2_isSame 182 = .ok (.aload_n 0, 1) := by decide +kernel
theorem dX2_isSame_183 : decode cX2_isSame 183 = .ok (.getfield 7, 3) := by decide +kernel
theorem dX2_isSame_186 : decode cX2_isSame 186 = .ok (.iconst 1, 1) := by decide +kernel
theorem dX2_isSame_187 : decode cX2_isSame 187 = .ok (.iaload, 1) := by decide +kernel
theorem dX2_isSame_188 : decode cX2_isSame 188 = .ok (.aload 7, 2) := by decide +kernel
theorem dX2_isSame_190 : decode cX2_isSame 190 = .ok (.invokevirtual 77, 3) := by decide +kernel
theorem dX2_isSame_193 : decode cX2_isSame 193 = .ok (.imul, 1) := by decide +kernel
theorem dX2_isSame_194 : decode cX2_isSame 194 = .ok (.iastore, 1) := by decide +kernel
theorem dX2_isSame_195 : decode cX2_isSame 195 = .ok (.dup, 1) := by decide +kernel
theorem dX2_isSame_196 : decode cX2_isSame 196 = .ok (.iconst 2, 1) := by decide +kernel
theorem dX2_isSame_197 : decode cX2_isSame 197 = .ok (.aload 7, 2) := by decide +kernel
theorem dX2_isSame_199 : decode cX2_isSame 199 = .ok (.aload_n 0, 1) := by decide +kernel
theorem dX2_isSame_200 : decode cX2_isSame 200 = .ok (.getfield 7, 3) := by decide +kernel
theorem dX2_isSame_203 : decode cX2_isSame 203 = .ok (.invokevirtual 36, 3) := by decide +kernel
theorem dX2_isSame_206 : decode cX2_isSame 206 = .ok (.iastore, 1) := by decide +kernel
theorem dX2_isSame_207 : decode cX2_isSame 207 = .ok (.dup, 1) := by decide +kernel
theorem dX2_isSame_208 : decode cX2_isSame 208 = .ok (.iconst 3, 1) := by decide +kernel
theorem dX2_isSame_209 : decode cX2_isSame 209 = .ok (.iload 9, 2) := by decide +kernel
theorem dX2_isSame_211 : decode cX2_isSame 211 = .ok (.iastore, 1) := by decide +kernel
theorem dX2_isSame_212 : decode cX2_isSame 212 = .ok (.dup, 1) := by decide +kernel
theorem dX2_isSame_213 : decode cX2_isSame 213 = .ok (.iconst 4, 1) := by decide +kernel
theorem dX2_isSame_214 : decode cX2_isSame 214 = .ok (.aload_n 0, 1) := by decide +kernel
theorem dX2_isSame_215 : decode cX2_isSame 215 = .ok (.aload 7, 2) := by decide +kernel
theorem dX2_isSame_217 : decode cX2_isSame 217 = .ok (.invokevirtual 51, 3) := by decide +kernel
theorem dX2_isSame_220 : decode cX2_isSame 220 = .ok (.iastore, 1) := by decide +kernel
theorem dX2_isSame_221 : decode cX2_isSame 221 = .ok (.dup, 1) := by decide +kernel
theorem dX2_isSame_222 : decode cX2_isSame 222 = .ok (.iconst 5, 1) := by decide +kernel
theorem dX2_isSame_223 : decode cX2_isSame 223 = .ok (.iload 9, 2) := by decide +kernel
theorem dX2_isSame_225 : decode cX2_isSame 225 = .ok (.aload_n 0, 1) := by decide +kernel
theorem dX2_isSame_226 : decode cX2_isSame 226 = .ok (.aload 7, 2) := by decide +kernel
theorem dX2_isSame_228 : decode cX2_isSame 228 = .ok (.invokevirtual 51, 3) := by decide +kernel
theorem dX2_isSame_231 : decode cX2_isSame 231 = .ok (.isub, 1) := by decide +kernel
theorem dX2_isSame_232 : decode cX2_isSame 232 = .ok (.iastore, 1) := by decide +kernel
theorem dX2_isSame_233 : decode cX2_isSame 233 = .ok (.astore 10, 2) := by decide +kernel
theorem dX2_isSame_235 : decode cX2_isSame 235 = .ok (.iconst 0, 1) := by decide +kernel
theorem dX2_isSame_236 : decode cX2_isSame 236 = .ok (.istore 11, 2) := by decide +kernel
theorem dX2_isSame_238 : decode cX2_isSame 238 = .ok (.iload 11, 2) := by decide +kernel
theorem dX2_isSame_240 : decode cX2_isSame 240 = .ok (.bipush 6, 2) := by decide +kernel
theorem dX2_isSame_242 : decode cX2_isSame 242 = .ok (.if_icmp .ge 27, 3) := by decide +kernel
theorem dX2_isSame_245 : decode cX2_isSame 245 = .ok (.aload_n 1, 1) := by decide +kernel
theorem dX2_isSame_246 : decode cX2_isSame 246 = .ok (.iload 6, 2) := by decide +kernel
theorem dX2_isSame_248 : decode cX2_isSame 248 = .ok (.iload 11, 2) := by decide +kernel
theorem dX2_isSame_250 : decode cX2_isSame 250 = .ok (.invokevirtual 89, 3) := by decide +kernel
theorem dX2_isSame_253 : decode cX2_isSame 253 = .ok (.aload 10, 2) := by decide +kernel
theorem dX2_isSame_255 : decode cX2_isSame 255 = .ok (.iload 11, 2) := by decide +kernel
theorem dX2_isSame_257 : decode cX2_isSame 257 = .ok (.iaload, 1) := by decide +kernel
theorem dX2_isSame_258 : decode cX2_isSame 258 = .ok (.if_icmp .eq 5, 3) := by decide +kernel
theorem dX2_isSame_261 : decode cX2_isSame 261 = .ok (.iconst 0, 1) := by decide +kernel
theorem dX2_isSame_262 : decode cX2_isSame 262 = .ok (.ireturn, 1) := by decide +kernel
theorem dX2_isSame_263 : decode cX2_isSame 263 = .ok (.iinc 11 1, 3) := by decide +kernel
theorem dX2_isSame_266 : decode cX2_isSame 266 = .ok (.goto (-28), 3) := by decide +kernel
theorem dX2_isSame_269 : decode cX2_isSame 269 = .ok (.iconst 0, 1) := by decide +kernel
theorem dX2_isSame_270 : decode cX2_isSame 270 = .ok (.istore 11, 2) := by decide +kernel
theorem dX2_isSame_272 : decode cX2_isSame 272 = .ok (.iload 11, 2) := by decide +kernel
theorem dX2_isSame_274 : decode cX2_isSame 274 = .ok (.iconst 3, 1) := by decide +kernel
theorem dX2_isSame_275 : decode cX2_isSame 275 = .ok (.if_icmp .ge 33, 3) := by decide +kernel
theorem dX2_isSame_278 : decode cX2_isSame 278 = .ok (.aload_n 1, 1) := by decide +kernel
theorem dX2_isSame_279 : decode cX2_isSame 279 = .ok (.iload 6, 2) := by decide +kernel
theorem dX2_isSame_281 : decode cX2_isSame 281 = .ok (.iload 11, 2) := by decide +kernel
theorem dX2_isSame_283 : decode cX2_isSame 283 = .ok (.invokevirtual 91, 3) := by decide +kernel
theorem dX2_isSame_286 : decode cX2_isSame 286 = .ok (.aload 5, 2) := by decide +kernel
theorem dX2_isSame_288 : decode cX2_isSame 288 = .ok (.getfield 48, 3) := by decide +kernel
theorem dX2_isSame_291 : decode cX2_isSame 291 = .ok (.iload 6, 2) := by decide +kernel
theorem dX2_isSame_293 : decode cX2_isSame 293 = .ok (.aaload, 1) := by decide +kernel
theorem dX2_isSame_294 : decode cX2_isSame 294 = .ok (.iload 11, 2) := by decide +kernel
theorem dX2_isSame_296 : decode cX2_isSame 296 = .ok (.iaload, 1) := by decide +kernel
theorem dX2_isSame_297 : decode cX2_isSame 297 = .ok (.if_icmp .eq 5, 3) := by decide +kernel
theorem dX2_isSame_300 : decode cX2_isSame 300 = .ok (.iconst 0, 1) := by decide +kernel
theorem dX2_isSame_301 : decode cX2_isSame 301 = .ok (.ireturn, 1) := by decide +kernel
theorem dX2_isSame_302 : decode cX2_isSame 302 = .ok (.iinc 11 1, 3) := by decide +kernel
theorem dX2_isSame_305 : decode cX2_isSame 305 = .ok (.goto (-33), 3) := by decide +kernel
theorem dX2_isSame_308 : decode cX2_isSame 308 = .ok (.iload_n 2, 1) := by decide +kernel
theorem dX2_isSame_309 : decode cX2_isSame 309 = .ok (.aload 7, 2) := by decide +kernel
theorem dX2_isSame_311 : decode cX2_isSame 311 = .ok (.getfield 43, 3) := by decide +kernel
theorem dX2_isSame_314 : decode cX2_isSame 314 = .ok (.iadd, 1) := by decide +kernel
theorem dX2_isSame_315 : decode cX2_isSame 315 = .ok (.istore_n 2, 1) := by decide +kernel
theorem dX2_isSame_316 : decode cX2_isSame 316 = .ok (.iload_n 3, 1) := by decide +kernel
theorem dX2_isSame_317 : decode cX2_isSame 317 = .ok (.aload 7, 2) := by decide +kernel
theorem dX2_isSame_319 : decode cX2_isSame 319 = .ok (.getfield 40, 3) := by decide +kernel
theorem dX2_isSame_322 : decode cX2_isSame 322 = .ok (.iadd, 1) := by decide +kernel
theorem dX2_isSame_323 : decode cX2_isSame 323 = .ok (.istore_n 3, 1) := by decide +kernel
theorem dX2_isSame_324 : decode cX2_isSame 324 = .ok (.iload 4, 2) := by decide +kernel
theorem dX2_isSame_326 : decode cX2_isSame 326 = .ok (.aload 7, 2) := by decide +kernel
theorem dX2_isSame_328 : decode cX2_isSame 328 = .ok (.getfield 55, 3) := by decide +kernel
theorem dX2_isSame_331 : decode cX2_isSame 331 = .ok (.iadd, 1) := by decide +kernel
theorem dX2_isSame_332 : decode cX2_isSame 332 = .ok (.istore 4, 2) := by decide +kernel
theorem dX2_isSame_334 : decode cX2_isSame 334 = .ok (.iinc 6 1, 3) := by decide +kernel
theorem dX2_isSame_337 : decode cX2_isSame 337 = .ok (.goto (-315), 3) := by decide +kernel
theorem dX2_isSame_340 : decode cX2_isSame 340 = .ok (.iconst 0, 1) := by decide +kernel
theorem dX2_isSame_341 : decode cX2_isSame 341 = .ok (.istore 6, 2) := by decide +kernel
theorem dX2_isSame_343 : decode cX2_isSame 343 = .ok (.iload 6, 2) := by decide +kernel
theorem dX2_isSame_345 : decode cX2_isSame 345 = .ok (.iconst 5, 1) := by decide +kernel
theorem dX2_isSame_346 : decode cX2_isSame 346 = .ok (.if_icmp .ge 27, 3) := by decide +kernel
theorem dX2_isSame_349 : decode cX2_isSame 349 = .ok (.aload_n 1, 1) := by decide +kernel
theorem dX2_isSame_350 : decode cX2_isSame 350 = .ok (.iload 6, 2) := by decide +kernel
theorem dX2_isSame_352 : decode cX2_isSame 352 = .ok (.invokevirtual 94, 3) := by decide +kernel
theorem dX2_isSame_355 : decode cX2_isSame 355 = .ok (.aload_n 0, 1) := by decide +kernel
theorem dX2_isSame_356 : decode cX2_isSame 356 = .ok (.getfield 7, 3) := by decide +kernel
theorem dX2_isSame_359 : decode cX2_isSame 359 = .ok (.iload 6, 2) := by decide +kernel
theorem dX2_isSame_361 : decode cX2_isSame 361 = .ok (.iaload, 1) := by decide +kernel
theorem dX2_isSame_362 : decode cX2_isSame 362 = .ok (.if_icmp .eq 5, 3) := by decide +kernel
theorem dX2_isSame_365 : decode cX2_isSame 365 = .ok (.iconst 0, 1) := by decide +kernel
theorem dX2_isSame_366 : decode cX2_isSame 366 = .ok (.ireturn, 1) := by decide +kernel
theorem dX2_isSame_367 : decode cX2_isSame 367 = .ok (.iinc 6 1, 3) := by decide +kernel
theorem dX2_isSame_370 : decode cX2_isSame 370 = .ok (.goto (-27), 3) := by decide +kernel
theorem dX2_isSame_373 : decode cX2_isSame 373 = .ok (.iconst 0, 1) := by decide +kernel
theorem dX2_isSame_374 : decode cX2_isSame 374 = .ok (.istore 6, 2) := by decide +kernel
theorem dX2_isSame_376 : decode cX2_isSame 376 = .ok (.iload 6, 2) := by decide +kernel
theorem dX2_isSame_378 : decode cX2_isSame 378 = .ok (.iconst 3, 1) := by decide +kernel
theorem dX2_isSame_379 : decode cX2_isSame 379 = .ok (.if_icmp .ge 27, 3) := by decide +kernel
theorem dX2_isSame_382 : decode cX2_isSame 382 = .ok (.aload_n 1, 1) := by decide +kernel
theorem dX2_isSame_383 : decode cX2_isSame 383 = .ok (.iload 6, 2) := by decide +kernel
theorem dX2_isSame_385 : decode cX2_isSame 385 = .ok (.invokevirtual 98, 3) := by decide +kernel
theorem dX2_isSame_388 : decode cX2_isSame 388 = .ok (.aload_n 0, 1) := by decide +kernel
theorem dX2_isSame_389 : decode cX2_isSame 389 = .ok (.getfield 13, 3) := by decide +kernel
theorem dX2_isSame_392 : decode cX2_isSame 392 = .ok (.iload 6, 2) := by decide +kernel
theorem dX2_isSame_394 : decode cX2_isSame 394 = .ok (.iaload, 1) := by decide +kernel
theorem dX2_isSame_395 : decode cX2_isSame 395 = .ok (.if_icmp .eq 5, 3) := by decide +kernel
theorem dX2_isSame_398 : decode cX2_isSame 398 = .ok (.iconst 0, 1) := by decide +kernel
theorem dX2_isSame_399 : decode cX2_isSame 399 = .ok (.ireturn, 1) := by decide +kernel
theorem dX2_isSame_400 : decode cX2_isSame 400 = .ok (.iinc 6 1, 3) := by decide +kernel
theorem dX2_isSame_403 : decode cX2_isSame 403 = .ok (.goto (-27), 3) := by decide +kernel
theorem dX2_isSame_406 : decode cX2_isSame 406 = .ok (.bipush 7, 2) := by decide +kernel
theorem dX2_isSame_408 : decode cX2_isSame 408 = .ok (.newarray .int, 2) := by decide +kernel
theorem dX2_isSame_410 : decode cX2_isSame 410 = .ok (.dup, 1) := by decide +kernel
theorem dX2_isSame_411 : decode cX2_isSame 411 = .ok (.iconst 0, 1) := by decide +kernel
theorem dX2_isSame_412 : decode cX2_isSame 412 = .ok (.aload_n 0, 1) := by decide +kernel
theorem dX2_isSame_413 : decode cX2_isSame 413 = .ok (.getfield 23, 3) := by decide +kernel
theorem dX2_isSame_416 : decode cX2_isSame 416 = .ok (.iastore, 1) := by decide +kernel
theorem dX2_isSame_417 : decode cX2_isSame 417 = .ok (.dup, 1) := by decide +kernel
theorem dX2_isSame_418 : decode cX2_isSame 418 = .ok (.iconst 1, 1) := by decide +kernel
theorem dX2_isSame_419 : decode cX2_isSame 419 = .ok (.aload_n 0, 1) := by decide +kernel
theorem dX2_isSame_420 : decode cX2_isSame 420 = .ok (.getfield 18, 3) := by decide +kernel
theorem dX2_isSame_423 : decode cX2_isSame 423 = .ok (.arraylength, 1) := by decide +kernel
theorem dX2_isSame_424 : decode cX2_isSame 424 = .ok (.iastore, 1) := by decide +kernel
theorem dX2_isSame_425 : decode cX2_isSame 425 = .ok (.dup, 1) := by decide +kernel
theorem dX2_isSame_426 : decode cX2_isSame 426 = .ok (.iconst 2, 1) := by decide +kernel
theorem dX2_isSame_427 : decode cX2_isSame 427 = .ok (.iload_n 2, 1) := by decide +kernel
theorem dX2_isSame_428 : decode cX2_isSame 428 = .ok (.iastore, 1) := by decide +kernel
theorem dX2_isSame_429 : decode cX2_isSame 429 = .ok (.dup, 1) := by decide +kernel
theorem dX2_isSame_430 : decode cX2_isSame 430 = .ok (.iconst 3, 1) := by decide +kernel
theorem dX2_isSame_431 : decode cX2_isSame 431 = .ok (.iload_n 3, 1) := by decide +kernel
theorem dX2_isSame_432 : decode cX2_isSame 432 = .ok (.iastore, 1) := by decide +kernel
theorem dX2_isSame_433 : decode cX2_isSame 433 = .ok (.dup, 1) := by decide +kernel
theorem dX2_isSame_434 : decode cX2_isSame 434 = .ok (.iconst 4, 1) := by decide +kernel
theorem dX2_isSame_435 : decode cX2_isSame 435 = .ok (.iconst 4, 1) := by decide +kernel
theorem dX2_isSame_436 : decode cX2_isSame 436 = .ok (.bipush 30, 2) := by decide +kernel
theorem dX2_isSame_438 : decode cX2_isSame 438 = .ok (.aload_n 0, 1) := by decide +kernel
theorem dX2_isSame_439 : decode cX2_isSame 439 = .ok (.getfield 13, 3) := by decide +kernel
theorem dX2_isSame_442 : decode cX2_isSame 442 = .ok (.iconst 0, 1) := by decide +kernel
theorem dX2_isSame_443 : decode cX2_isSame 443 = .ok (.iaload, 1) := by decide +kernel
theorem dX2_isSame_444 : decode cX2_isSame 444 = .ok (.imul, 1) := by decide +kernel
theorem dX2_isSame_445 : decode cX2_isSame 445 = .ok (.bipush 12, 2) := by decide +kernel
theorem dX2_isSame_447 : decode cX2_isSame 447 = .ok (.aload_n 0, 1) := by decide +kernel
theorem dX2_isSame_448 : decode cX2_isSame 448 = .ok (.getfield 13, 3) := by decide +kernel
theorem dX2_isSame_451 : decode cX2_isSame 451 = .ok (.iconst 1, 1) := by decide +kernel
theorem dX2_isSame_452 : decode cX2_isSame 452 = .ok (.iaload, 1) := by decide +kernel
theorem dX2_isSame_453 : decode cX2_isSame 453 = .ok (.imul, 1) := by decide +kernel
theorem dX2_isSame_454 : decode cX2_isSame 454 = .ok (.iadd, 1) := by decide +kernel
theorem dX2_isSame_455 : decode cX2_isSame 455 = .ok (.aload_n 0, 1) := by decide +kernel
theorem dX2_isSame_456 : decode cX2_isSame 456 = .ok (.getfield 13, 3) := by decide +kernel
theorem dX2_isSame_459 : decode cX2_isSame 459 = .ok (.iconst 2, 1) := by decide +kernel
theorem dX2_isSame_460 : decode cX2_isSame 460 = .ok (.iaload, 1) := by decide +kernel
theorem dX2_isSame_461 : decode cX2_isSame 461 = .ok (.iadd, 1) := by decide +kernel
theorem dX2_isSame_462 : decode cX2_isSame 462 = .ok (.imul, 1) := by decide +kernel
theorem dX2_isSame_463 : decode cX2_isSame 463 = .ok (.iastore, 1) := by decide +kernel
theorem dX2_isSame_464 : decode cX2_isSame 464 = .ok (.dup, 1) := by decide +kernel
theorem dX2_isSame_465 : decode cX2_isSame 465 = .ok (.iconst 5, 1) := by decide +kernel
theorem dX2_isSame_466 : decode cX2_isSame 466 = .ok (.aload_n 0, 1) := by decide +kernel
theorem dX2_isSame_467 : decode cX2_isSame 467 = .ok (.invokevirtual 100, 3) := by decide +kernel
theorem dX2_isSame_470 : decode cX2_isSame 470 = .ok (.iastore, 1) := by decide +kernel
theorem dX2_isSame_471 : decode cX2_isSame 471 = .ok (.dup, 1) := by decide +kernel
theorem dX2_isSame_472 : decode cX2_isSame 472 = .ok (.bipush 6, 2) := by decide +kernel
theorem dX2_isSame_474 : decode cX2_isSame 474 = .ok (.iload 4, 2) := by decide +kernel
theorem dX2_isSame_476 : decode cX2_isSame 476 = .ok (.iastore, 1) := by decide +kernel
theorem dX2_isSame_477 : decode cX2_isSame 477 = .ok (.astore 6, 2) := by decide +kernel
theorem dX2_isSame_479 : decode cX2_isSame 479 = .ok (.iconst 0, 1) := by decide +kernel
theorem dX2_isSame_480 : decode cX2_isSame 480 = .ok (.istore 7, 2) := by decide +kernel
theorem dX2_isSame_482 : decode cX2_isSame 482 = .ok (.iload 7, 2) := by decide +kernel
theorem dX2_isSame_484 : decode cX2_isSame 484 = .ok (.bipush 7, 2) := by decide +kernel
theorem dX2_isSame_486 : decode cX2_isSame 486 = .ok (.if_icmp .ge 25, 3) := by decide +kernel
theorem dX2_isSame_489 : decode cX2_isSame 489 = .ok (.aload_n 1, 1) := by decide +kernel
theorem dX2_isSame_490 : decode cX2_isSame 490 = .ok (.iload 7, 2) := by decide +kernel
theorem dX2_isSame_492 : decode cX2_isSame 492 = .ok (.invokevirtual 103, 3) := by decide +kernel
theorem dX2_isSame_495 : decode cX2_isSame 495 = .ok (.aload 6, 2) := by decide +kernel
theorem dX2_isSame_497 : decode cX2_isSame 497 = .ok (.iload 7, 2) := by decide +kernel
theorem dX2_isSame_499 : decode cX2_isSame 499 = .ok (.iaload, 1) := by decide +kernel
theorem dX2_isSame_500 : decode cX2_isSame 500 = .ok (.if_icmp .eq 5, 3) := by decide +kernel
theorem dX2_isSame_503 : decode cX2_isSame 503 = .ok (.iconst 0, 1) := by decide +kernel
theorem dX2_isSame_504 : decode cX2_isSame 504 = .ok (.ireturn, 1) := by decide +kernel
theorem dX2_isSame_505 : decode cX2_isSame 505 = .ok (.iinc 7 1, 3) := by decide +kernel
theorem dX2_isSame_508 : decode cX2_isSame 508 = .ok (.goto (-26), 3) := by decide +kernel
theorem dX2_isSame_511 : decode cX2_isSame 511 = .ok (.aload_n 1, 1) := by decide +kernel
theorem dX2_isSame_512 : decode cX2_isSame 512 = .ok (.invokevirtual 106, 3) := by decide +kernel
theorem dX2_isSame_515 : decode cX2_isSame 515 = .ok (.aload_n 0, 1) := by decide +kernel
theorem dX2_isSame_516 : decode cX2_isSame 516 = .ok (.getfield 18, 3) := by decide +kernel
theorem dX2_isSame_519 : decode cX2_isSame 519 = .ok (.arraylength, 1) := by decide +kernel
theorem dX2_isSame_520 : decode cX2_isSame 520 = .ok (.ifCond .ne 7, 3) := by decide +kernel
theorem dX2_isSame_523 : decode cX2_isSame 523 = .ok (.dconst 0, 1) := by decide +kernel
theorem dX2_isSame_524 : decode cX2_isSame 524 = .ok (.goto 15, 3) := by decide +kernel
theorem dX2_isSame_527 : decode cX2_isSame 527 = .ok (.aload_n 0, 1) := by decide +kernel
theorem dX2_isSame_528 : decode cX2_isSame 528 = .ok (.invokevirtual 100, 3) := by decide +kernel
theorem dX2_isSame_531 : decode cX2_isSame 531 = .ok (.i2d, 1) := by decide +kernel
theorem dX2_isSame_532 : decode cX2_isSame 532 = .ok (.aload_n 0, 1) := by decide +kernel
theorem dX2_isSame_533 : decode cX2_isSame 533 = .ok (.getfield 18, 3) := by decide +kernel
theorem dX2_isSame_536 : decode cX2_isSame 536 = .ok (.arraylength, 1) := by decide +kernel
theorem dX2_isSame_537 : decode cX2_isSame 537 = .ok (.i2d, 1) := by decide +kernel
theorem dX2_isSame_538 : decode cX2_isSame 538 = .ok (.ddiv, 1) := by decide +kernel
theorem dX2_isSame_539 : decode cX2_isSame 539 = .ok (.dcmp .l, 1) := by decide +kernel
theorem dX2_isSame_540 : decode cX2_isSame 540 = .ok (.ifCond .ne 7, 3) := by decide +kernel
theorem dX2_isSame_543 : decode cX2_isSame 543 = .ok (.iconst 1, 1) := by decide +kernel
theorem dX2_isSame_544 : decode cX2_isSame 544 = .ok (.goto 4, 3) := by decide +kernel
theorem dX2_isSame_547 : decode cX2_isSame 547 = .ok (.iconst 0, 1) := by decide +kernel
theorem dX2_isSame_548 : decode cX2_isSame 548 = .ok (.ireturn, 1) := by decide +kernel
end
section
/-! THE SIM'S WORLD: its object, rates, chest, the row of its reapers, the reapers. Its numbers are those of a state of the class (rows 0 to 6 of the reapers, 7 rates, 8 chest). -/
def fam (n : Nat) (f : Nat → Nat × va_E) : va_W := (List.range n).map f
theorem fam_len {n : Nat} {f : Nat → Nat × va_E} : (fam n f).length = n := by simp [fam]
theorem fam_get {n k : Nat} {f : Nat → Nat × va_E} (h : k < n) : (fam n f)[k]? = some (f k) := by simp [fam, h]
theorem fam_none {n k : Nat} {f : Nat → Nat × va_E} (h : n ≤ k) : (fam n f)[k]? = none := by simp [fam, h]
theorem fam_congr {n : Nat} {f g : Nat → Nat × va_E} (h : ∀ k, k < n → f k = g k) : fam n f = fam n g := List.map_congr_left fun k hk => h k (List.mem_range.mp hk)
theorem fam_set {n k : Nat} {f : Nat → Nat × va_E} {x : Nat × va_E} : (fam n f).set k x = fam n (fun j => if j = k then x else f j) := by
  apply List.ext_getElem?
  intro j
  by_cases hj : j < n
  · rw [fam_get hj, List.getElem?_set]
    by_cases e : k = j
    · subst e
      rw [if_pos rfl, fam_len, if_pos hj, if_pos rfl]
    · rw [if_neg e, fam_get hj, if_neg (Ne.symm e)]
  · rw [fam_none (by omega), List.getElem?_eq_none]
    rw [List.length_set, fam_len]
    omega
theorem fam_succ {n : Nat} {f : Nat → Nat × va_E} : fam (n + 1) f = fam n f ++ [f n] := by simp [fam, List.range_succ]
/-- addresses: rates, chest, the row of reapers; the reapers; what was handed -/
abbrev SA : Type := (Nat → Nat) × (Nat → Nat) × Option Nat
abbrev ty3 (cI cR cB : ClassId) : List (ClassId × FieldType) := [(cI, .int), (cR, .object RX1), (cB, .array .int)]
def rq_f (u : S0) (k : Nat) : List Value := [.int (u.1 0 k), .int (u.1 1 k), .int (u.1 2 k), .int (u.1 3 k), .int (u.1 4 k), .int (u.1 5 k), .int (u.1 6 k)]
def rq_e (z : SA) (u : S0) (k : Nat) : Nat × va_E := (z.2.1 k, .inr (1, rq_f u k))
def rs_f (z : SA) (u : S0) : List Value := [.int u.2.2, .ref (z.1 0), .ref (z.1 1), .ref (z.1 2), va_rf z.2.2]
abbrev rs_al (cR : ClassId) (n : Nat) (z : SA) : va_E := .inl (cR, n, .inr (.inr (.inr (.inr (fun k => some (z.2.1 k))))))
def rs_h (cI cR : ClassId) (o : Nat) (z : SA) (u : S0) : va_W := [(o, .inr (2, rs_f z u)), (z.1 0, .inl (cI, 5, .inl (u.1 7))), (z.1 1, .inl (cI, 3, .inl (u.1 8))), (z.1 2, rs_al cR u.2.1 z)]
def rs_w (cI cR : ClassId) (o : Nat) (z : SA) (u : S0) : va_W := rs_h cI cR o z u ++ fam u.2.1 (rq_e z u)
theorem rs_len {cI cR : ClassId} {o : Nat} {z : SA} {u : S0} : (rs_w cI cR o z u).length = 4 + u.2.1 := by
  show (rs_h cI cR o z u ++ _).length = _
  rw [List.length_append, fam_len]
  rfl
theorem rs_rp {cI cR : ClassId} {o : Nat} {z : SA} {u : S0} {k : Nat} (h : k < u.2.1) : (rs_w cI cR o z u)[4 + k]? = some (rq_e z u k) := by
  show (rs_h cI cR o z u ++ _)[4 + k]? = _
  rw [List.getElem?_append_right (by show 4 ≤ 4 + k; omega)]
  show (fam _ _)[4 + k - 4]? = _
  rw [show 4 + k - 4 = k by omega]
  exact fam_get h
theorem rs_rpX {cI cR : ClassId} {o : Nat} {z : SA} {u : S0} {k : Nat} {X : va_W} (h : k < u.2.1) : (rs_w cI cR o z u ++ X)[4 + k]? = some (rq_e z u k) := by
  rw [List.getElem?_append_left (by rw [rs_len]; omega)]
  exact rs_rp h
/-- the rows that the sim's world speaks of -/
def rs_E (u v : S0) : Prop := u.2 = v.2 ∧ (∀ k : Nat, k < 5 → u.1 7 k = v.1 7 k) ∧ (∀ k : Nat, k < 3 → u.1 8 k = v.1 8 k) ∧ ∀ j k : Nat, j < 7 → k < u.2.1 → u.1 j k = v.1 j k
theorem rq_fs {u : S0} {k j : Nat} {x : Int32} (hj : j < 7) : rq_f (ra_s u j k x) k = (rq_f u k).set j (.int x) := by
  rcases (show j = 0 ∨ j = 1 ∨ j = 2 ∨ j = 3 ∨ j = 4 ∨ j = 5 ∨ j = 6 by omega) with rfl | rfl | rfl | rfl | rfl | rfl | rfl <;> simp [rq_f, ra_s, ra_u, va_up, upd]
theorem ra_sO {u : S0} {j k i : Nat} {x : Int32} {r : Nat} (h : i ≠ k) : (ra_s u j k x).1 r i = u.1 r i := by
  by_cases e : r = j
  · subst e
    show (ra_u u r _).1 r i = _
    rw [ra_uS]
    simp [upd, h]
  · rw [ra_sN e]
theorem rq_fo {u : S0} {k j i : Nat} {x : Int32} (h : i ≠ k) : rq_f (ra_s u j k x) i = rq_f u i := by
  unfold rq_f
  rw [ra_sO h, ra_sO h, ra_sO h, ra_sO h, ra_sO h, ra_sO h, ra_sO h]
theorem rq_fr {u : S0} {k j i : Nat} {x : Int32} (h : 7 ≤ j) : rq_f (ra_s u j k x) i = rq_f u i := by
  unfold rq_f
  rw [ra_sN (by omega), ra_sN (by omega), ra_sN (by omega), ra_sN (by omega), ra_sN (by omega), ra_sN (by omega), ra_sN (by omega)]
theorem rs_setR {cI cR : ClassId} {o : Nat} {z : SA} {u : S0} {k j : Nat} {x : Int32} {X : va_W} (hj : j < 7) (hk : k < u.2.1) : (rs_w cI cR o z u ++ X).set (4 + k) (z.2.1 k, .inr (1, (rq_f u k).set j (.int x))) = rs_w cI cR o z (ra_s u j k x) ++ X := by
  rw [List.set_append_left _ _ (by rw [rs_len]; omega)]
  refine congrArg (· ++ X) ?_
  show (rs_h cI cR o z u ++ _).set _ _ = rs_h cI cR o z _ ++ _
  rw [List.set_append_right _ _ (by show 4 ≤ 4 + k; omega)]
  have e1 : rs_h cI cR o z (ra_s u j k x) = rs_h cI cR o z u := by
    unfold rs_h rs_f
    rw [ra_sN (show (7 : Nat) ≠ j by omega), ra_sN (show (8 : Nat) ≠ j by omega)]
    rfl
  rw [e1]
  refine congrArg (rs_h cI cR o z u ++ ·) ?_
  show (fam _ _).set (4 + k - 4) _ = _
  rw [show 4 + k - 4 = k by omega, fam_set]
  refine fam_congr fun i hi => ?_
  by_cases e : i = k
  · subst e
    rw [if_pos rfl]
    unfold rq_e
    rw [rq_fs hj]
  · rw [if_neg e]
    unfold rq_e
    rw [rq_fo e]
theorem rs_set7 {cI cR : ClassId} {o : Nat} {z : SA} {u : S0} {k : Nat} {x : Int32} {X : va_W} : (rs_w cI cR o z u ++ X).set 1 (z.1 0, .inl (cI, 5, .inl (upd (u.1 7) k x))) = rs_w cI cR o z (ra_s u 7 k x) ++ X := by
  show rs_h cI cR o z (ra_s u 7 k x) ++ fam u.2.1 (rq_e z u) ++ X = _
  refine congrArg (rs_h cI cR o z (ra_s u 7 k x) ++ · ++ X) ?_
  exact fam_congr fun i hi => by unfold rq_e; rw [rq_fr (by omega)]
theorem rs_set8 {cI cR : ClassId} {o : Nat} {z : SA} {u : S0} {k : Nat} {x : Int32} {X : va_W} : (rs_w cI cR o z u ++ X).set 2 (z.1 1, .inl (cI, 3, .inl (upd (u.1 8) k x))) = rs_w cI cR o z (ra_s u 8 k x) ++ X := by
  show rs_h cI cR o z (ra_s u 8 k x) ++ fam u.2.1 (rq_e z u) ++ X = _
  refine congrArg (rs_h cI cR o z (ra_s u 8 k x) ++ · ++ X) ?_
  exact fam_congr fun i hi => by unfold rq_e; rw [rq_fr (by omega)]
/-- where the walk stands: the sim's world, beside it whatever else the method reaches -/
def sS (D : va_G) (A : Nat → Prop) (s : State) (cI cR : ClassId) (o : Nat) (z : SA) (u : S0) (X : va_W) (H : Heap) (locs : List Loc) : Prop := va_P D vwCl (rs_w cI cR o z u ++ X) H ∧ va_D A (rs_w cI cR o z u ++ X) ∧ va_S A s.heap H locs
theorem sS.E {D : va_G} {A : Nat → Prop} {s : State} {cI cR : ClassId} {o : Nat} {z : SA} {u v : S0} {X : va_W} {H : Heap} {locs : List Loc} (h : sS D A s cI cR o z u X H locs) (e : rs_w cI cR o z u = rs_w cI cR o z v) : sS D A s cI cR o z v X H locs := by
  unfold sS
  rw [← e]
  exact h
section SROWS
variable {p : Program} {l : Launch} {e : Env} {R : Room} {s : State} {m : MethodId} {args : Array Value} {below : List Frame} {meth : Method} {c : Code} {H : Heap} {locs : List Loc} {cells slots : Nat} {Q : State → Prop}
variable {cc : ByteArray} {nL pc : Nat} {ls : Array Slot} {rest : List Value} {D : va_G} {cI cR cB : ClassId} {t : Nat → Nat} {A : Nat → Prop} {o : Nat} {z : SA} {u : S0} {X : va_W} {own : String}
theorem s_gf (C : gC p s m args meth c cc nL own D (ty3 cI cR cB) t A) (S : sS D A s cI cR o z u X H locs) (k : Nat) (hk : k < 5) {v : Value} {idx : Nat} (hv : (rs_f z u)[k]? = some v) (hs : (TX2 k).1 = RX2) (hq : Cond.fieldLink own idx RX2 (TX2 k).2.1 (TX2 k).2.2.1 ∈ wsL_law) (hdg : decode cc pc = .ok (.getfield idx, 3))
    (kk : W p l e R s m args below meth c H locs cells slots Q (F0 m (pc + 3) ls (v :: rest))) : W p l e R s m args below meth c H locs cells slots Q (F0 m pc ls (.ref o :: rest)) :=
  va_get (D := D) (ci := 2) (C := RX2) (T := TX2) (N := 5) C.1 C.2.1 C.2.2.2.2.1 inlX2 C.2.2.2.1 C.2.2.2.2.2.1 S.1 0 rfl rfl k hk (C.2.2.2.2.1 _ hq) (fun x h => by rw [hs] at h; exact h) hv hdg kk
theorem r_gf (C : gC p s m args meth c cc nL own D (ty3 cI cR cB) t A) (S : sS D A s cI cR o z u X H locs) (k i : Nat) (hk : k < 7) (hi : i < u.2.1) {v : Value} {idx : Nat} (hv : (rq_f u i)[k]? = some v) (hs : (TX1 k).1 = RX1) (hq : Cond.fieldLink own idx RX1 (TX1 k).2.1 (TX1 k).2.2.1 ∈ wsL_law) (hdg : decode cc pc = .ok (.getfield idx, 3))
    (kk : W p l e R s m args below meth c H locs cells slots Q (F0 m (pc + 3) ls (v :: rest))) : W p l e R s m args below meth c H locs cells slots Q (F0 m pc ls (.ref (z.2.1 i) :: rest)) :=
  va_get (D := D) (ci := 1) (C := RX1) (T := TX1) (N := 7) C.1 C.2.1 C.2.2.2.2.1 inlX1 C.2.2.2.1 C.2.2.2.2.2.1 S.1 (4 + i) (rs_rpX hi) rfl k hk (C.2.2.2.2.1 _ hq) (fun x h => by rw [hs] at h; exact h) hv hdg kk
theorem s_l7 (C : gC p s m args meth c cc nL own D (ty3 cI cR cB) t A) (S : sS D A s cI cR o z u X H locs) {i : Nat} {i0 : Int32} (hi : i < 5) (h0 : i0 = nI i) (hdg : decode cc pc = .ok (.iaload, 1))
    (kk : W p l e R s m args below meth c H locs cells slots Q (F0 m (pc + 1) ls (.int (u.1 7 i) :: rest))) : W p l e R s m args below meth c H locs cells slots Q (F0 m pc ls (.int i0 :: .ref (z.1 0) :: rest)) := by
  subst h0
  exact va_iald (D := D) (n := 5) (f := u.1 7) C.1 C.2.1 C.2.2.2.2.2.1 S.1 1 0 rfl rfl (vp_in_nI hi (by omega)) hdg (by rw [nI_clamp (by omega)]; exact kk)
theorem s_l8 (C : gC p s m args meth c cc nL own D (ty3 cI cR cB) t A) (S : sS D A s cI cR o z u X H locs) {i : Nat} {i0 : Int32} (hi : i < 3) (h0 : i0 = nI i) (hdg : decode cc pc = .ok (.iaload, 1))
    (kk : W p l e R s m args below meth c H locs cells slots Q (F0 m (pc + 1) ls (.int (u.1 8 i) :: rest))) : W p l e R s m args below meth c H locs cells slots Q (F0 m pc ls (.int i0 :: .ref (z.1 1) :: rest)) := by
  subst h0
  exact va_iald (D := D) (n := 3) (f := u.1 8) C.1 C.2.1 C.2.2.2.2.2.1 S.1 2 0 rfl rfl (vp_in_nI hi (by omega)) hdg (by rw [nI_clamp (by omega)]; exact kk)
theorem s_t7 (C : gC p s m args meth c cc nL own D (ty3 cI cR cB) t A) (S : sS D A s cI cR o z u X H locs) {i : Nat} {i0 x : Int32} (hi : i < 5) (h0 : i0 = nI i) (hdg : decode cc pc = .ok (.iastore, 1))
    (kk : ∀ (H1 : Heap) (locs1 : List Loc), sS D A s cI cR o z (ra_s u 7 i x) X H1 locs1 → W p l e R s m args below meth c H1 locs1 cells slots Q (F0 m (pc + 1) ls rest)) : W p l e R s m args below meth c H locs cells slots Q (F0 m pc ls (.int x :: .int i0 :: .ref (z.1 0) :: rest)) := by
  subst h0
  refine va_iast (D := D) (n := 5) (f := u.1 7) C.1 C.2.1 C.2.2.2.2.2.1 S.1 S.2.1 S.2.2 1 0 rfl rfl (vp_in_nI hi (by omega)) hdg (fun H1 locs1 hP1 hD1 hS1 => ?_)
  rw [nI_clamp (by omega), rs_set7] at hP1 hD1
  exact kk H1 locs1 ⟨hP1, hD1, hS1⟩
theorem s_t8 (C : gC p s m args meth c cc nL own D (ty3 cI cR cB) t A) (S : sS D A s cI cR o z u X H locs) {i : Nat} {i0 x : Int32} (hi : i < 3) (h0 : i0 = nI i) (hdg : decode cc pc = .ok (.iastore, 1))
    (kk : ∀ (H1 : Heap) (locs1 : List Loc), sS D A s cI cR o z (ra_s u 8 i x) X H1 locs1 → W p l e R s m args below meth c H1 locs1 cells slots Q (F0 m (pc + 1) ls rest)) : W p l e R s m args below meth c H locs cells slots Q (F0 m pc ls (.int x :: .int i0 :: .ref (z.1 1) :: rest)) := by
  subst h0
  refine va_iast (D := D) (n := 3) (f := u.1 8) C.1 C.2.1 C.2.2.2.2.2.1 S.1 S.2.1 S.2.2 2 0 rfl rfl (vp_in_nI hi (by omega)) hdg (fun H1 locs1 hP1 hD1 hS1 => ?_)
  rw [nI_clamp (by omega), rs_set8] at hP1 hD1
  exact kk H1 locs1 ⟨hP1, hD1, hS1⟩
theorem s_al (C : gC p s m args meth c cc nL own D (ty3 cI cR cB) t A) (S : sS D A s cI cR o z u X H locs) {i : Nat} {i0 : Int32} (hu : u.2.1 ≤ 8) (hi : i < u.2.1) (h0 : i0 = nI i) (hdg : decode cc pc = .ok (.aaload, 1))
    (kk : W p l e R s m args below meth c H locs cells slots Q (F0 m (pc + 1) ls (.ref (z.2.1 i) :: rest))) : W p l e R s m args below meth c H locs cells slots Q (F0 m pc ls (.int i0 :: .ref (z.1 2) :: rest)) := by
  subst h0
  exact va_aldq (D := D) (n := u.2.1) (f := fun k => some (z.2.1 k)) C.1 C.2.1 C.2.2.2.2.2.1 S.1 3 1 rfl rfl (vp_in_nI hi (by omega)) hdg (by rw [nI_clamp (by omega)]; exact kk)
theorem s_an (C : gC p s m args meth c cc nL own D (ty3 cI cR cB) t A) (S : sS D A s cI cR o z u X H locs) (hdg : decode cc pc = .ok (.arraylength, 1))
    (kk : W p l e R s m args below meth c H locs cells slots Q (F0 m (pc + 1) ls (.int (nI u.2.1) :: rest))) : W p l e R s m args below meth c H locs cells slots Q (F0 m pc ls (.ref (z.1 2) :: rest)) :=
  va_alen (D := D) C.1 C.2.1 C.2.2.2.2.2.1 S.1 3 1 (cA := cR) (x := (u.2.1, .inr (.inr (.inr (.inr (fun k => some (z.2.1 k))))))) rfl rfl rfl hdg kk
theorem r_pf (C : gC p s m args meth c cc nL own D (ty3 cI cR cB) t A) (S : sS D A s cI cR o z u X H locs) (k i : Nat) (hk : k < 7) (hi : i < u.2.1) {x : Int32} {idx : Nat} (hs : (TX1 k).1 = RX1) (hf : (TX1 k).2.2.2 = false) (hty : parseFieldDescriptor (TX1 k).2.2.1 = some .int) (hq : Cond.fieldLink own idx RX1 (TX1 k).2.1 (TX1 k).2.2.1 ∈ wsL_law) (hdg : decode cc pc = .ok (.putfield idx, 3))
    (kk : ∀ (H1 : Heap) (locs1 : List Loc), sS D A s cI cR o z (ra_s u k i x) X H1 locs1 → W p l e R s m args below meth c H1 locs1 cells slots Q (F0 m (pc + 3) ls rest)) : W p l e R s m args below meth c H locs cells slots Q (F0 m pc ls (.int x :: .ref (z.2.1 i) :: rest)) := by
  refine va_put (D := D) (ci := 1) (v := .int x) (ty := .int) (C := RX1) (T := TX1) (N := 7) C.1 C.2.1 C.2.2.2.2.1 inlX1 tyX1 tyX1_ok nmX1 C.2.2.2.1 C.2.2.2.2.2.1 S.1 S.2.1 S.2.2 (4 + i) (rs_rpX hi) rfl k hk (C.2.2.2.2.1 _ hq) (fun x h => by rw [hs] at h; exact h) hf hty rfl rfl hk hdg (fun H1 locs1 hP1 hD1 hS1 => ?_)
  rw [rs_setR hk hi] at hP1 hD1
  exact kk H1 locs1 ⟨hP1, hD1, hS1⟩
theorem s_pw (C : gC p s m args meth c cc nL own D (ty3 cI cR cB) t A) (S : sS D A s cI cR o z u X H locs) {x : Int32} {idx : Nat} (hq : Cond.fieldLink own idx RX2 "week" "I" ∈ wsL_law) (hdg : decode cc pc = .ok (.putfield idx, 3))
    (kk : ∀ (H1 : Heap) (locs1 : List Loc), sS D A s cI cR o z (u.1, u.2.1, x) X H1 locs1 → W p l e R s m args below meth c H1 locs1 cells slots Q (F0 m (pc + 3) ls rest)) : W p l e R s m args below meth c H locs cells slots Q (F0 m pc ls (.int x :: .ref o :: rest)) :=
  va_put (D := D) (ci := 2) (v := .int x) (ty := .int) (C := RX2) (T := TX2) (N := 5) C.1 C.2.1 C.2.2.2.2.1 inlX2 tyX2 tyX2_ok nmX2 C.2.2.2.1 C.2.2.2.2.2.1 S.1 S.2.1 S.2.2 0 rfl rfl 0 (by decide) (C.2.2.2.2.1 _ hq) (fun x h => h) rfl (by decide +kernel) rfl rfl (Nat.le_of_ble_eq_true rfl) hdg (fun H1 locs1 hP1 hD1 hS1 => kk H1 locs1 ⟨hP1, hD1, hS1⟩)
theorem s_pz (C : gC p s m args meth c cc nL own D (ty3 cI cR cB) t A) (S : sS D A s cI cR o z u X H locs) {a idx : Nat} (hq : Cond.fieldLink own idx RX2 "handed" "[[I" ∈ wsL_law) (hdg : decode cc pc = .ok (.putfield idx, 3))
    (kk : ∀ (H1 : Heap) (locs1 : List Loc), sS D A s cI cR o (z.1, z.2.1, some a) u X H1 locs1 → W p l e R s m args below meth c H1 locs1 cells slots Q (F0 m (pc + 3) ls rest)) : W p l e R s m args below meth c H locs cells slots Q (F0 m pc ls (.ref a :: .ref o :: rest)) :=
  va_put (D := D) (ci := 2) (v := .ref a) (ty := .array (.array .int)) (C := RX2) (T := TX2) (N := 5) C.1 C.2.1 C.2.2.2.2.1 inlX2 tyX2 tyX2_ok nmX2 C.2.2.2.1 C.2.2.2.2.2.1 S.1 S.2.1 S.2.2 0 rfl rfl 4 (by decide) (C.2.2.2.2.1 _ hq) (fun x h => h) rfl (by decide +kernel) rfl rfl (Nat.le_of_ble_eq_true rfl) hdg (fun H1 locs1 hP1 hD1 hS1 => kk H1 locs1 ⟨hP1, hD1, hS1⟩)
end SROWS
end
section
/-! rows for what lies beside the sim -/
theorem rp_left {D : va_G} {cl : List vw_C} {a b : va_W} {H : Heap} (h : va_P D cl (a ++ b) H) : va_P D cl a H := fun k q hk => h k q (by rw [List.getElem?_append_left (List.getElem?_eq_some_iff.mp hk).1]; exact hk)
theorem rp_right {D : va_G} {cl : List vw_C} {a b : va_W} {H : Heap} (h : va_P D cl (a ++ b) H) : va_P D cl b H := fun k q hk => h (a.length + k) q (by rw [List.getElem?_append_right (Nat.le_add_right _ _), Nat.add_sub_cancel_left]; exact hk)
theorem rs_xp {cI cR : ClassId} {o : Nat} {z : SA} {u : S0} {X : va_W} {j : Nat} {q : Nat × va_E} (h : X[j]? = some q) : (rs_w cI cR o z u ++ X)[(rs_w cI cR o z u).length + j]? = some q := by
  rw [List.getElem?_append_right (Nat.le_add_right _ _), Nat.add_sub_cancel_left]
  exact h
theorem rs_xs {cI cR : ClassId} {o : Nat} {z : SA} {u : S0} {X : va_W} {j : Nat} {q : Nat × va_E} : (rs_w cI cR o z u ++ X).set ((rs_w cI cR o z u).length + j) q = rs_w cI cR o z u ++ X.set j q := by
  rw [List.set_append_right _ _ (Nat.le_add_right _ _), Nat.add_sub_cancel_left]
theorem sS.drop {D : va_G} {A : Nat → Prop} {s : State} {cI cR : ClassId} {o : Nat} {z : SA} {u : S0} {X Y : va_W} {H : Heap} {locs : List Loc} (h : sS D A s cI cR o z u (X ++ Y) H locs) : sS D A s cI cR o z u X H locs := by
  unfold sS at h
  rw [← List.append_assoc] at h
  exact ⟨rp_left h.1, rd_left h.2.1, h.2.2⟩
/-- an array's cell by another name of its contents -/
theorem rp_arr {cA : ClassId} {n : Nat} {f g : Nat → Value} (h : ∀ j, j < n → f j = g j) : arrV cA n f = arrV cA n g := by
  unfold arrV
  refine congrArg (fun x => ({ cls := cA, slots := x, vm := .none } : Cell)) ?_
  exact congrArg Array.ofFn (funext fun j => h j.val j.isLt)
/-- what was handed: an outer row of n rows of three -/
def hw_e (cI : ClassId) (r : Nat → Nat) (g : Nat → Nat → Int32) (k : Nat) : Nat × va_E := (r k, .inl (cI, 3, .inl (g k)))
def hw_w (cI cB : ClassId) (h n : Nat) (r : Nat → Nat) (g : Nat → Nat → Int32) : va_W := (h, .inl (cB, n, .inr (.inr (.inr (.inr (fun k => some (r k))))))) :: fam n (hw_e cI r g)
theorem hw_p {cI cB : ClassId} {h n : Nat} {r : Nat → Nat} {g : Nat → Nat → Int32} {k : Nat} {Y : va_W} (hk : k < n) : (hw_w cI cB h n r g ++ Y)[1 + k]? = some (hw_e cI r g k) := by
  show (((h, _) :: fam n (hw_e cI r g)) ++ Y)[1 + k]? = _
  rw [List.cons_append, show 1 + k = k + 1 by omega, List.getElem?_cons_succ, List.getElem?_append_left (by rw [fam_len]; exact hk)]
  exact fam_get hk
theorem hw_s {cI cB : ClassId} {h n : Nat} {r : Nat → Nat} {g : Nat → Nat → Int32} {k i : Nat} {x : Int32} {Y : va_W} (hk : k < n) : (hw_w cI cB h n r g ++ Y).set (1 + k) (r k, .inl (cI, 3, .inl (upd (g k) i x))) = hw_w cI cB h n r (va_up g k (upd (g k) i x)) ++ Y := by
  show (((h, _) :: fam n (hw_e cI r g)) ++ Y).set (1 + k) _ = _
  rw [List.cons_append, show 1 + k = k + 1 by omega, List.set_cons_succ, List.set_append_left _ _ (by rw [fam_len]; exact hk), fam_set]
  show _ = ((h, _) :: fam n (hw_e cI r (va_up g k (upd (g k) i x)))) ++ Y
  rw [List.cons_append]
  refine congrArg (fun w => _ :: (w ++ Y)) (fam_congr fun j _ => ?_)
  by_cases e : j = k
  · subst e
    simp [hw_e, va_up]
  · simp [hw_e, va_up, e]
section XROWS
variable {p : Program} {l : Launch} {e : Env} {R : Room} {s : State} {m : MethodId} {args : Array Value} {below : List Frame} {meth : Method} {c : Code} {H : Heap} {locs : List Loc} {cells slots : Nat} {Q : State → Prop}
variable {cc : ByteArray} {nL pc : Nat} {ls : Array Slot} {rest : List Value} {D : va_G} {cI cR cB : ClassId} {t : Nat → Nat} {A : Nat → Prop} {o : Nat} {z : SA} {u : S0} {X : va_W} {own : String}
theorem x_ld (C : gC p s m args meth c cc nL own D (ty3 cI cR cB) t A) (S : sS D A s cI cR o z u X H locs) (j : Nat) {a n i : Nat} {f : Nat → Int32} {i0 : Int32} (hj : X[j]? = some (a, .inl (cI, n, .inl f))) (hn : n < 1000) (hi : i < n) (h0 : i0 = nI i) (hdg : decode cc pc = .ok (.iaload, 1))
    (kk : W p l e R s m args below meth c H locs cells slots Q (F0 m (pc + 1) ls (.int (f i) :: rest))) : W p l e R s m args below meth c H locs cells slots Q (F0 m pc ls (.int i0 :: .ref a :: rest)) := by
  subst h0
  exact va_iald (D := D) (n := n) (f := f) C.1 C.2.1 C.2.2.2.2.2.1 S.1 _ 0 (rs_xp hj) rfl (vp_in_nI hi (by omega)) hdg (by rw [nI_clamp (by omega)]; exact kk)
theorem x_st (C : gC p s m args meth c cc nL own D (ty3 cI cR cB) t A) (S : sS D A s cI cR o z u X H locs) (j : Nat) {a n i : Nat} {f : Nat → Int32} {i0 x : Int32} (hj : X[j]? = some (a, .inl (cI, n, .inl f))) (hn : n < 1000) (hi : i < n) (h0 : i0 = nI i) (hdg : decode cc pc = .ok (.iastore, 1))
    (kk : ∀ (H1 : Heap) (locs1 : List Loc), sS D A s cI cR o z u (X.set j (a, .inl (cI, n, .inl (upd f i x)))) H1 locs1 → W p l e R s m args below meth c H1 locs1 cells slots Q (F0 m (pc + 1) ls rest)) : W p l e R s m args below meth c H locs cells slots Q (F0 m pc ls (.int x :: .int i0 :: .ref a :: rest)) := by
  subst h0
  refine va_iast (D := D) (n := n) (f := f) C.1 C.2.1 C.2.2.2.2.2.1 S.1 S.2.1 S.2.2 _ 0 (rs_xp hj) rfl (vp_in_nI hi (by omega)) hdg (fun H1 locs1 hP1 hD1 hS1 => ?_)
  rw [nI_clamp (by omega), rs_xs] at hP1 hD1
  exact kk H1 locs1 ⟨hP1, hD1, hS1⟩
theorem x_al (C : gC p s m args meth c cc nL own D (ty3 cI cR cB) t A) (S : sS D A s cI cR o z u X H locs) (j : Nat) {a n i : Nat} {f : Nat → Option Nat} {i0 : Int32} (hj : X[j]? = some (a, .inl (cB, n, .inr (.inr (.inr (.inr f)))))) (hn : n < 1000) (hi : i < n) (h0 : i0 = nI i) (hdg : decode cc pc = .ok (.aaload, 1))
    (kk : W p l e R s m args below meth c H locs cells slots Q (F0 m (pc + 1) ls (va_rf (f i) :: rest))) : W p l e R s m args below meth c H locs cells slots Q (F0 m pc ls (.int i0 :: .ref a :: rest)) := by
  subst h0
  have hin : vp_in (nI i) n := vp_in_nI hi (by omega)
  exact W.aald (v := va_rf (f i)) (ty := .array .int) C.1 C.2.1 (S.1 _ _ (rs_xp hj)) ((C.2.2.2.2.2.1.2 2 (cB, .array .int) rfl).1 n (fun j => va_rf (f j))) rfl (fun q => by cases q) (by show ¬ (nI i < 0 ∨ (arrV _ _ _).slots.size ≤ _); rw [arrV_size]; exact hin) (by show (arrV _ _ _).slots[_]? = _; rw [nI_clamp (by omega), arrV_read _ _ hi]) rfl rfl hdg kk
theorem x_new (C : gC p s m args meth c cc nL own D (ty3 cI cR cB) t A) (S : sS D A s cI cR o z u X H locs) {n0 : Int32} {N : Nat} (h0 : n0 = nI N) (hN : N < 1000) (hq : Cond.arrayClass .int ∈ wsL_law) {cells' slots' : Nat} (hc : cells + 1 = cells') (hs : slots + N = slots') (hRc : cells' ≤ R.cells) (hRs : slots' ≤ R.slots) (hdg : decode cc pc = .ok (.newarray .int, 2))
    (kk : ∀ (q : Nat) (H1 : Heap), sS D A s cI cR o z u (X ++ [(q, .inl (cI, N, .inl (fun _ => 0)))]) H1 locs → W p l e R s m args below meth c H1 locs cells' slots' Q (F0 m (pc + 2) ls (.ref q :: rest))) : W p l e R s m args below meth c H locs cells slots Q (F0 m pc ls (.int n0 :: rest)) := by
  subst h0
  subst hc
  subst hs
  refine va_newa (D := D) (atype := .int) (ty := .int) (a0 := (N, .inl (fun _ => 0))) C.1 C.2.1 (C.2.2.2.2.1 _ hq) rfl C.2.2.2.2.2.1 S.1 S.2.1 S.2.2 C.2.2.2.2.2.2.1 (fun _ => rfl) (nI_pos (by omega)) (nI_clamp (by omega)) (by show N * 4 ≤ _; omega) hRc hRs hdg (fun q cA H1 hK1 hP1 hD1 hS1 => ?_)
  have e1 := (hK1.2 0 (cI, .int) rfl).2
  have e2 := (hK1.2 3 (cA, .int) rfl).2
  have e3 : cI = cA := Option.some.inj (e1.symm.trans e2)
  subst e3
  rw [List.append_assoc] at hP1 hD1
  exact kk q H1 ⟨hP1, hD1, hS1⟩
theorem x_mna (C : gC p s m args meth c cc nL own D (ty3 cI cR cB) t A) (S : sS D A s cI cR o z u X H locs) {idx N : Nat} {n0 : Int32} (h0 : n0 = nI N) (hN : N < 1000) (hq : Cond.classLink own idx "[[I" ∈ wsL_law) (hAA : gAA s) {cells' slots' : Nat} (hc : cells + (1 + N) = cells') (hs : slots + (N + N * 3) = slots') (hRc : cells' ≤ R.cells) (hRs : slots' ≤ R.slots) (hdg : decode cc pc = .ok (.multianewarray idx 2, 4))
    (kk : ∀ (h : Nat) (r : Nat → Nat) (H1 : Heap) (locs1 : List Loc), sS D A s cI cR o z u (X ++ hw_w cI cB h N r (fun _ _ => 0)) H1 locs1 → W p l e R s m args below meth c H1 locs1 cells' slots' Q (F0 m (pc + 4) ls (.ref h :: rest))) : W p l e R s m args below meth c H locs cells slots Q (F0 m pc ls (.int 3 :: .int n0 :: rest)) := by
  subst h0
  subst hc
  subst hs
  obtain ⟨cA, comp, kA, a1, a2, a3, a4⟩ := hAA
  have n0 := (C.2.2.2.2.2.1.2 0 (cI, .int) rfl).2
  have eI : cI = comp := Option.some.inj (n0.symm.trans a4)
  subst eI
  have nB := (C.2.2.2.2.2.1.2 2 (cB, .array .int) rfl).2
  have eB : cB = cA := Option.some.inj (nB.symm.trans a1)
  subst eB
  obtain ⟨-, kc, hkc, c0, hkindc⟩ := (C.2.2.2.2.2.1.2 0 (cI, .int) rfl).1 0 (fun _ => .null)
  obtain ⟨hP, hD, hS⟩ := S
  refine W_mna (N := N) (M := 3) C.1 C.2.1 C.2.2.2.1 (C.2.2.2.2.1 _ hq) a1 a2 a3 hkc hkindc (nI_pos (by omega)) (by decide) (nI_clamp (by omega)) (by decide) (by omega) (by decide) (by omega) (by omega) hdg (fun H1 L hL z1 e1 r1 k1 => ?_)
  have eS : slots + N + N * 3 = slots + (N + N * 3) := by omega
  have eC : cells + 1 + N = cells + (1 + N) := by omega
  rw [eS, eC]
  have hA : ∀ q, H.size ≤ q → A q := fun q h => C.2.2.2.2.2.2.1 q (Nat.le_trans hS.1 h)
  have hlt : ∀ (k : Nat) (x : Nat × va_E), (rs_w cI cR o z u ++ X)[k]? = some x → x.1 < H.size := fun k x hx => (hP k x hx).lt
  have hk : ∀ (k : Nat) (x : Nat × va_E), (rs_w cI cR o z u ++ X)[k]? = some x → H1[x.1]? = H[x.1]? := fun k x hx => k1 x.1 (hlt k x hx)
  have hnew : ∀ (k : Nat) (x : Nat × va_E), (hw_w cI cB H.size N (fun j => H.size + 1 + j) (fun _ _ => 0))[k]? = some x → x.1 = H.size + k ∧ va_at D vwCl x H1 := by
    intro k x hx
    cases k with
    | zero =>
      have hx : some (H.size, _) = some x := hx
      cases hx
      refine ⟨rfl, ?_⟩
      show H1[H.size]? = some (vp_cell _ _)
      rw [vp_cell_q, e1]
      exact congrArg some (rp_arr fun j hj => by rw [if_pos hj]; rfl)
    | succ k =>
      have hx : (fam N (hw_e cI (fun j => H.size + 1 + j) (fun _ _ => 0)))[k]? = some x := hx
      have hkN : k < N := by
        rcases Nat.lt_or_ge k N with h | h
        · exact h
        · rw [fam_none h] at hx
          cases hx
      rw [fam_get hkN] at hx
      cases hx
      exact ⟨by show H.size + 1 + k = _; omega, r1 k hkN⟩
  refine kk H.size (fun j => H.size + 1 + j) H1 L ⟨?_, ?_, ?_⟩
  · rw [← List.append_assoc]
    exact va_P.app (hP.kept hk) (fun k x hx => (hnew k x hx).2)
  · rw [← List.append_assoc]
    refine va_D.app hD ⟨fun i j x y hx hy hxy => ?_, fun k x hx => ?_⟩ (fun i j x y hx hy hxy => ?_)
    · have h1 := (hnew i x hx).1
      have h2 := (hnew j y hy).1
      omega
    · rw [(hnew k x hx).1]
      exact hA _ (by omega)
    · have h1 := hlt i x hx
      have h2 := (hnew j y hy).1
      omega
  · refine ⟨by rw [z1]; have := hS.1; omega, fun q h1 h2 => (k1 q (Nat.lt_of_lt_of_le h1 hS.1)).trans (hS.2.1 q h1 h2), fun x hx => ?_⟩
    rcases hL x hx with h | h
    · exact hS.2.2 x h
    · rw [h]
      exact hA _ (Nat.le_refl _)
end XROWS
/-! the script: its cells, its length -/
section SCROWS
variable {p : Program} {l : Launch} {e : Env} {R : Room} {s : State} {m : MethodId} {args : Array Value} {below : List Frame} {meth : Method} {c : Code} {H : Heap} {locs : List Loc} {cells slots : Nat} {Q : State → Prop}
variable {cc : ByteArray} {nL pc : Nat} {ls : Array Slot} {own : String} {D : va_G} {ty : List (ClassId × FieldType)} {t : Nat → Nat} {A : Nat → Prop} {rest : List Value}
theorem g_sx (C : gC p s m args meth c cc nL own D ty t A) (hS : va_S A s.heap H locs) (hT : va_T .int (t 9) (t 10) (fun j => .int (gxs t j)) A s s.heap) (hL : t 10 ≤ 260) {i : Nat} {i0 : Int32} (hi : i < t 10) (h0 : i0 = nI i) (hdg : decode cc pc = .ok (.iaload, 1))
    (kk : W p l e R s m args below meth c H locs cells slots Q (F0 m (pc + 1) ls (.int (gxs t i) :: rest))) : W p l e R s m args below meth c H locs cells slots Q (F0 m pc ls (.int i0 :: .ref (t 9) :: rest)) := by
  subst h0
  exact va_ti C.1 C.2.1 hT hS (vp_in_nI hi (by omega)) (v := .int (gxs t i)) (by rw [nI_clamp (by omega)]) hdg kk
theorem g_sl (C : gC p s m args meth c cc nL own D ty t A) (hS : va_S A s.heap H locs) (hT : va_T .int (t 9) (t 10) (fun j => .int (gxs t j)) A s s.heap) (hdg : decode cc pc = .ok (.arraylength, 1))
    (kk : W p l e R s m args below meth c H locs cells slots Q (F0 m (pc + 1) ls (.int (nI (t 10)) :: rest))) : W p l e R s m args below meth c H locs cells slots Q (F0 m pc ls (.ref (t 9) :: rest)) :=
  va_tlen C.1 C.2.1 hT hS rfl hdg kk
end SCROWS
/-! calls: the callee's world b stands between a and c -/
theorem rd_rot {A : Nat → Prop} {a b c : va_W} (h : va_D A (a ++ (b ++ c))) : va_D A (b ++ (c ++ a)) := by
  have h := rd_swap h
  rwa [List.append_assoc] at h
theorem md_in {A : Nat → Prop} {a b c : va_W} (h : va_D A (a ++ (b ++ c))) : va_D A ((c ++ a) ++ b) := rd_swap (rd_rot h)
theorem md_out {A : Nat → Prop} {a b c : va_W} (h : va_D A ((c ++ a) ++ b)) : va_D A (a ++ (b ++ c)) := by
  have h := rd_swap h
  exact rd_rot (rd_rot h)
theorem md_P {D : va_G} {cl : List vw_C} {a b c : va_W} {H : Heap} (hr : va_P D cl (c ++ a) H) (hb : va_P D cl b H) : va_P D cl (a ++ (b ++ c)) H := va_P.app (rp_right hr) (va_P.app hb (rp_left hr))
section MCALL
variable {p : Program} {l : Launch} {e : Env} {R : Room} {s : State} {m : MethodId} {args : Array Value} {below : List Frame} {meth : Method} {c : Code} {H : Heap} {locs : List Loc} {cells slots : Nat} {Q : State → Prop}
variable {cc : ByteArray} {nL pc : Nat} {ls : Array Slot} {own : String} {D : va_G} {ty ty2 : List (ClassId × FieldType)} {t : Nat → Nat} {A : Nat → Prop} {wr wc : va_W}
variable {y : MethodName} {bytes : ByteArray} {maxL n idx : Nat} {ret : Option FieldType} {rm : Room} {b : Nat} {As rest st0 : List Value} {Qa : Array Value → State → Outcome → State → Prop}
theorem g_runVj (C : gC p s m args meth c cc nL own D ty t A) (hM : Met l y (rw_ y bytes maxL ret) rm (va_Pc (.ref b :: As) (gP D ty2 t wc H.size)) Qa rm.cells rm.slots (va_A wc H.size)) (hG : GoodIn wsL_law (wsV own idx y.cls y (rw_ y bytes maxL ret)))
    (hd : y.cls = y.cls ∧ y.cls ≠ "java/lang/invoke/MethodHandle" ∧ y.cls ≠ "java/lang/invoke/VarHandle" ∧ (parseMethodDescriptor y.desc).map (fun d => d.parameters.length) = some n) (hR : rm.frames + 1 ≤ R.frames ∧ 8 + (maxL + 11) + rm.locals ≤ R.locals) {ci : Nat} {q : vw_C} {fs : List Value} (hci : vwCl[ci]? = some q) (hq : q.1 = y.cls) (j0 : Nat) (hrc : wc[j0]? = some (b, .inr (ci, fs)))
    (hK2 : va_K D vwCl ty2 s) (hPc : va_P D vwCl wc H) (hD : va_D A (wr ++ wc)) (hS : va_S A s.heap H locs) (hl : ls.size = nL) (hn : As.length = n) (hst : st0 = As.reverse ++ .ref b :: rest) (hrest : (rest.map fun v => v.category).sum ≤ 8) (hdg : decode cc pc = .ok (.invokevirtual idx, 3)) (hf : cells + rm.cells ≤ R.cells ∧ slots + rm.slots ≤ R.slots) :
    va_Run p l e R s m args below meth c H locs cells slots rm.cells rm.slots (F0 m pc ls st0) rest (Qa (Value.ref b :: As).toArray) (va_A wc H.size) :=
  va_runV ⟨C.1, C.2.1, C.2.2.1, C.2.2.2.1, C.2.2.2.2.1⟩ hM (cwV n C.2.2.2.2.1 hG rfl rfl rfl hd hR) ⟨gP_blind, by rw [← hq]; exact va_recv hK2 hPc hci hrc, g_pre C hK2 hPc hD hS⟩ rfl hn hl hst (lv_room hrest) hdg hf
theorem g_runI (C : gC p s m args meth c cc nL own D ty t A) (hM : Met l y (rw_ y bytes maxL none) rm (va_Pc (.ref b :: As) (gP D ty2 t wc H.size)) Qa rm.cells rm.slots (va_A wc H.size)) (h5 : Cond.code y bytes maxL none ∈ wsL_law) (h4 : Cond.initialized y.cls ∈ wsL_law) (h1 : Cond.methodLink own idx y ∈ wsL_law) (h2 : Cond.instanceMethod y ∈ wsL_law) (hy : y.name = "<init>")
    (hd : y.cls = y.cls ∧ y.cls ≠ "java/lang/invoke/MethodHandle" ∧ y.cls ≠ "java/lang/invoke/VarHandle" ∧ (parseMethodDescriptor y.desc).map (fun d => d.parameters.length) = some n) (hR : rm.frames + 1 ≤ R.frames ∧ 8 + (maxL + 11) + rm.locals ≤ R.locals)
    (hK2 : va_K D vwCl ty2 s) (hPc : va_P D vwCl wc H) (hD : va_D A (wr ++ wc)) (hS : va_S A s.heap H locs) (hl : ls.size = nL) (hn : As.length = n) (hst : st0 = As.reverse ++ .ref b :: rest) (hrest : (rest.map fun v => v.category).sum ≤ 8) (hdg : decode cc pc = .ok (.invokespecial idx, 3)) (hf : cells + rm.cells ≤ R.cells ∧ slots + rm.slots ≤ R.slots) :
    va_Run p l e R s m args below meth c H locs cells slots rm.cells rm.slots (F0 m pc ls st0) rest (Qa (Value.ref b :: As).toArray) (va_A wc H.size) :=
  va_runI ⟨C.1, C.2.1, C.2.2.1, C.2.2.2.1, C.2.2.2.2.1⟩ hM (cwI n C.2.2.2.2.1 (rw_in (rw_c h5)) rfl rfl rfl (C.2.2.2.2.1 _ h4) (C.2.2.2.2.1 _ h1) (C.2.2.2.2.1 _ h2) hy hd.2 hR) ⟨gP_blind, g_pre C hK2 hPc hD hS⟩ rfl hn hl hst (lv_room hrest) hdg hf
/-- a constructor of a nest mate -/
theorem g_runIN {host : String} (C : gC p s m args meth c cc nL own D ty t A) (hM : Met l y (rw_ y bytes maxL none) rm (va_Pc (.ref b :: As) (gP D ty2 t wc H.size)) Qa rm.cells rm.slots (va_A wc H.size)) (h5 : Cond.code y bytes maxL none ∈ wsL_law) (h4 : Cond.initialized y.cls ∈ wsL_law) (h1 : va_Nw (.methodLinkNest own idx y host) s) (h2 : Cond.instanceMethod y ∈ wsL_law) (hy : y.name = "<init>")
    (hd : y.cls = y.cls ∧ y.cls ≠ "java/lang/invoke/MethodHandle" ∧ y.cls ≠ "java/lang/invoke/VarHandle" ∧ (parseMethodDescriptor y.desc).map (fun d => d.parameters.length) = some n) (hR : rm.frames + 1 ≤ R.frames ∧ 8 + (maxL + 11) + rm.locals ≤ R.locals)
    (hK2 : va_K D vwCl ty2 s) (hPc : va_P D vwCl wc H) (hD : va_D A (wr ++ wc)) (hS : va_S A s.heap H locs) (hl : ls.size = nL) (hn : As.length = n) (hst : st0 = As.reverse ++ .ref b :: rest) (hrest : (rest.map fun v => v.category).sum ≤ 8) (hdg : decode cc pc = .ok (.invokespecial idx, 3)) (hf : cells + rm.cells ≤ R.cells ∧ slots + rm.slots ≤ R.slots) :
    va_Run p l e R s m args below meth c H locs cells slots rm.cells rm.slots (F0 m pc ls st0) rest (Qa (Value.ref b :: As).toArray) (va_A wc H.size) :=
  va_runIN ⟨C.1, C.2.1, C.2.2.1, C.2.2.2.1, C.2.2.2.2.1⟩ hM ⟨va_cnB n C.2.2.2.2.1 (rw_in (rw_c h5)) rfl rfl rfl h1 (C.2.2.2.2.1 _ h4) hd.2 hR, hy, C.2.2.2.2.1 _ h2⟩ ⟨gP_blind, g_pre C hK2 hPc hD hS⟩ rfl hn hl hst (lv_room hrest) hdg hf
variable {mc ms : Nat} {av : Array Value} {wa wb wd : va_W}
theorem m_ci {post : Int32 → va_W → Prop} {cells' slots' : Nat} (hc : cells + mc = cells') (hs : slots + ms = slots') (C : gC p s m args meth c cc nL own D ty t A) (hP : va_P D vwCl (wa ++ (wb ++ wd)) H) (hD : va_D A (wa ++ (wb ++ wd))) (hS : va_S A s.heap H locs)
    (hr : va_P D vwCl wb H → va_D A ((wd ++ wa) ++ wb) → va_Run p l e R s m args below meth c H locs cells slots mc ms (F0 m pc ls st0) rest (va_Qi post (fun w' U => gQ D (va_A wb H.size) w' U) (va_A wb H.size) av) (va_A wb H.size))
    (kk : ∀ (r : Int32) (w' : va_W) (H1 : Heap) (locs1 : List Loc), post r w' → H.size ≤ H1.size → va_P D vwCl (wa ++ (w' ++ wd)) H1 → va_D A (wa ++ (w' ++ wd)) → va_S A s.heap H1 locs1 → W p l e R s m args below meth c H1 locs1 cells' slots' Q (F0 m (pc + 3) ls (.int r :: rest))) : W p l e R s m args below meth c H locs cells slots Q (F0 m pc ls st0) :=
  g_ci (wr := wd ++ wa) hc hs C (va_P.app (rp_right (rp_right hP)) (rp_left hP)) (md_in hD) hS (hr (rp_left (rp_right hP)) (md_in hD)) (fun r w' H1 locs1 hv hz h1 h2 h3 h4 => kk r w' H1 locs1 hv hz (md_P h1 h2) (md_out h3) h4)
theorem m_cv {post : va_W → Prop} {cells' slots' : Nat} (hc : cells + mc = cells') (hs : slots + ms = slots') (C : gC p s m args meth c cc nL own D ty t A) (hP : va_P D vwCl (wa ++ (wb ++ wd)) H) (hD : va_D A (wa ++ (wb ++ wd))) (hS : va_S A s.heap H locs)
    (hr : va_P D vwCl wb H → va_D A ((wd ++ wa) ++ wb) → va_Run p l e R s m args below meth c H locs cells slots mc ms (F0 m pc ls st0) rest (va_Qv post (fun w' U => gQ D (va_A wb H.size) w' U) (va_A wb H.size) av) (va_A wb H.size))
    (kk : ∀ (w' : va_W) (H1 : Heap) (locs1 : List Loc), post w' → H.size ≤ H1.size → va_P D vwCl (wa ++ (w' ++ wd)) H1 → va_D A (wa ++ (w' ++ wd)) → va_S A s.heap H1 locs1 → W p l e R s m args below meth c H1 locs1 cells' slots' Q (F0 m (pc + 3) ls rest)) : W p l e R s m args below meth c H locs cells slots Q (F0 m pc ls st0) :=
  g_cv (wr := wd ++ wa) hc hs C (va_P.app (rp_right (rp_right hP)) (rp_left hP)) (md_in hD) hS (hr (rp_left (rp_right hP)) (md_in hD)) (fun w' H1 locs1 hv hz h1 h2 h3 h4 => kk w' H1 locs1 hv hz (md_P h1 h2) (md_out h3) h4)
theorem m_cr {post : Nat × va_W → Prop} {cells' slots' : Nat} (hc : cells + mc = cells') (hs : slots + ms = slots') (C : gC p s m args meth c cc nL own D ty t A) (hP : va_P D vwCl (wa ++ (wb ++ wd)) H) (hD : va_D A (wa ++ (wb ++ wd))) (hS : va_S A s.heap H locs)
    (hr : va_P D vwCl wb H → va_D A ((wd ++ wa) ++ wb) → va_Run p l e R s m args below meth c H locs cells slots mc ms (F0 m pc ls st0) rest (va_Qr (S := Nat × va_W) post (fun u a U => u.1 = a ∧ gQ D (va_A wb H.size) u.2 U) (va_A wb H.size) av) (va_A wb H.size))
    (kk : ∀ (r : Nat) (w' : va_W) (H1 : Heap) (locs1 : List Loc), post (r, w') → H.size ≤ H1.size → va_P D vwCl (wa ++ (w' ++ wd)) H1 → va_D A (wa ++ (w' ++ wd)) → va_S A s.heap H1 locs1 → W p l e R s m args below meth c H1 locs1 cells' slots' Q (F0 m (pc + 3) ls (.ref r :: rest))) : W p l e R s m args below meth c H locs cells slots Q (F0 m pc ls st0) :=
  g_cr (wr := wd ++ wa) hc hs C (va_P.app (rp_right (rp_right hP)) (rp_left hP)) (md_in hD) hS (hr (rp_left (rp_right hP)) (md_in hD)) (fun r w' H1 locs1 hv hz h1 h2 h3 h4 => kk r w' H1 locs1 hv hz (md_P h1 h2) (md_out h3) h4)
end MCALL
end
section
theorem kd_X1_counting : yX1_counting.cls = yX1_counting.cls ∧ yX1_counting.cls ≠ "java/lang/invoke/MethodHandle" ∧ yX1_counting.cls ≠ "java/lang/invoke/VarHandle" ∧ (parseMethodDescriptor yX1_counting.desc).map (fun d => d.parameters.length) = some 0 := by decide +kernel
theorem kd_X1_pieces : yX1_pieces.cls = yX1_pieces.cls ∧ yX1_pieces.cls ≠ "java/lang/invoke/MethodHandle" ∧ yX1_pieces.cls ≠ "java/lang/invoke/VarHandle" ∧ (parseMethodDescriptor yX1_pieces.desc).map (fun d => d.parameters.length) = some 1 := by decide +kernel
theorem kd_X1_wage : yX1_wage.cls = yX1_wage.cls ∧ yX1_wage.cls ≠ "java/lang/invoke/MethodHandle" ∧ yX1_wage.cls ≠ "java/lang/invoke/VarHandle" ∧ (parseMethodDescriptor yX1_wage.desc).map (fun d => d.parameters.length) = some 1 := by decide +kernel
set_option maxHeartbeats 4000000 in
set_option maxRecDepth 100000 in
theorem mX1_counting (l : Launch) (D : va_G) (t : Nat → Nat) (cI cR cB : ClassId) (o : Nat) (z : SA) (sz : Nat) (u : S0) (T : Nat) (B : rB T u) (k : Nat) (hk : k < u.2.1) : gMi l yX1_counting (rw_ yX1_counting cX1_counting 2 (some .int)) (rm_ 0 0 0 0) [.ref (z.2.1 k)] D (ty3 cI cR cB) t (rs_w cI cR o z u) sz (fun r w' => r = rf_hc u k ∧ w' = rs_w cI cR o z u) := by
  refine g_of (cc := cX1_counting) (nL := 2) (rt := (some .int)) (Q := fun A => va_Qi _ (fun w' U => gQ D A w' U) A) (by decide) (Nat.le_of_ble_eq_true rfl) (fun p e s m args below meth c A ls H C hrt hnm hS hP hD hl => ?_)
  have hx := C.1
  have hb := C.2.1
  have hown := C.2.2.2.1
  have hts := C.2.2.2.2.1
  have hl : lv_has ls 2 [(0, .ref (z.2.1 k))] := hl
  have S : sS D A s cI cR o z u [] H [] := ⟨by rw [List.append_nil]; exact hP, by rw [List.append_nil]; exact hD, hS⟩
  obtain ⟨locs, elocs⟩ : ∃ z : List Loc, z = [] := ⟨_, rfl⟩
  rw [← elocs] at S ⊢
  have hT := B.2.1
  have V := B.2.2.1
  have Bk := B.2.2.2.2.1 k (Nat.lt_of_lt_of_le hk B.1)
  refine lv_aload_n hx hb dX1_counting_0 rfl (lv_at hl 0 rfl) ?_
  refine r_gf C S 2 k (by decide) hk (v := .int (u.1 2 k)) rfl rfl q186 dX1_counting_1 ?_
  refine lv_aload_n hx hb dX1_counting_4 rfl (lv_at hl 0 rfl) ?_
  refine r_gf C S 3 k (by decide) hk (v := .int (u.1 3 k)) rfl rfl q187 dX1_counting_5 ?_
  refine lv_iconst (v := 2) hx hb dX1_counting_8 (by decide) ?_
  refine lv_idiv hx hb dX1_counting_9 (by decide) ?_
  refine lv_isub hx hb dX1_counting_10 ?_
  refine lv_aload_n hx hb dX1_counting_11 rfl (lv_at hl 0 rfl) ?_
  refine r_gf C S 3 k (by decide) hk (v := .int (u.1 3 k)) rfl rfl q187 dX1_counting_12 ?_
  refine lv_iconst (v := 2) hx hb dX1_counting_15 (by decide) ?_
  refine lv_irem hx hb dX1_counting_16 (by decide) ?_
  refine lv_isub hx hb dX1_counting_17 ?_
  refine lv_topi (fun v1 ev1 => ?_)
  refine lv_istore_n (lv' := [(1, .int v1), (0, .ref (z.2.1 k))]) hx hb dX1_counting_18 rfl hl (by decide) rfl (fun ls hl => ?_)
  refine lv_iload_n hx hb dX1_counting_19 rfl (lv_at hl 0 rfl) ?_
  refine lv_if_ge (tgt := 25) hx hb dX1_counting_20 (by decide) (fun c2 => ?_) (fun c2 => ?_)
  · refine lv_iload_n hx hb dX1_counting_25 rfl (lv_at hl 0 rfl) ?_
    refine lv_bipush (v := 60) hx hb dX1_counting_26 (by decide) ?_
    refine lv_icmp_gt (tgt := 35) hx hb dX1_counting_28 (by decide) (fun c3 => ?_) (fun c3 => ?_)
    · refine lv_bipush (v := 120) hx hb dX1_counting_35 (by decide) ?_
      refine lv_iconst (v := 3) hx hb dX1_counting_37 (by decide) ?_
      refine lv_iload_n hx hb dX1_counting_38 rfl (lv_at hl 0 rfl) ?_
      refine lv_bipush (v := 60) hx hb dX1_counting_39 (by decide) ?_
      refine lv_isub hx hb dX1_counting_41 ?_
      refine lv_imul hx hb dX1_counting_42 ?_
      refine lv_iadd hx hb dX1_counting_43 ?_
      refine lv_iconst (v := 2) hx hb dX1_counting_44 (by decide) ?_
      refine lv_idiv hx hb dX1_counting_45 (by decide) ?_
      exact g_iret C hrt (rp_left S.1) (rd_left S.2.1) S.2.2 dX1_counting_46 ⟨(by subst ev1; exact rl_c3 Bk hT c3), rfl⟩
    · refine lv_iload_n hx hb dX1_counting_31 rfl (lv_at hl 0 rfl) ?_
      refine lv_goto (tgt := 46) hx hb dX1_counting_32 (by decide) ?_
      exact g_iret C hrt (rp_left S.1) (rd_left S.2.1) S.2.2 dX1_counting_46 ⟨(by subst ev1; exact rl_c2 Bk hT c2 c3), rfl⟩
  · refine lv_iconst (v := 0) hx hb dX1_counting_23 (by decide) ?_
    refine lv_istore_n (lv' := [(1, .int 0), (0, .ref (z.2.1 k))]) hx hb dX1_counting_24 rfl hl (by decide) rfl (fun ls hl => ?_)
    refine lv_iload_n hx hb dX1_counting_25 rfl (lv_at hl 0 rfl) ?_
    refine lv_bipush (v := 60) hx hb dX1_counting_26 (by decide) ?_
    refine lv_icmp_gt (tgt := 35) hx hb dX1_counting_28 (by decide) (fun c4 => ?_) (fun c4 => ?_)
    · refine lv_bipush (v := 120) hx hb dX1_counting_35 (by decide) ?_
      refine lv_iconst (v := 3) hx hb dX1_counting_37 (by decide) ?_
      refine lv_iload_n hx hb dX1_counting_38 rfl (lv_at hl 0 rfl) ?_
      refine lv_bipush (v := 60) hx hb dX1_counting_39 (by decide) ?_
      refine lv_isub hx hb dX1_counting_41 ?_
      refine lv_imul hx hb dX1_counting_42 ?_
      refine lv_iadd hx hb dX1_counting_43 ?_
      refine lv_iconst (v := 2) hx hb dX1_counting_44 (by decide) ?_
      refine lv_idiv hx hb dX1_counting_45 (by decide) ?_
      exact absurd c4 (by decide)
    · refine lv_iload_n hx hb dX1_counting_31 rfl (lv_at hl 0 rfl) ?_
      refine lv_goto (tgt := 46) hx hb dX1_counting_32 (by decide) ?_
      exact g_iret C hrt (rp_left S.1) (rd_left S.2.1) S.2.2 dX1_counting_46 ⟨(by subst ev1; exact rl_c1 Bk hT c2), rfl⟩
set_option maxHeartbeats 4000000 in
set_option maxRecDepth 100000 in
theorem mX1_pieces (l : Launch) (D : va_G) (t : Nat → Nat) (cI cR cB : ClassId) (o : Nat) (z : SA) (sz : Nat) (u : S0) (T : Nat) (B : rB T u) (k : Nat) (hk : k < u.2.1) : gMi l yX1_pieces (rw_ yX1_pieces cX1_pieces 3 (some .int)) (rm_ 0 0 0 0) [.ref (z.2.1 k), .ref (z.1 0)] D (ty3 cI cR cB) t (rs_w cI cR o z u) sz (fun r w' => r = rf_pc u 7 k ∧ w' = rs_w cI cR o z u) := by
  refine g_of (cc := cX1_pieces) (nL := 3) (rt := (some .int)) (Q := fun A => va_Qi _ (fun w' U => gQ D A w' U) A) (by decide) (Nat.le_of_ble_eq_true rfl) (fun p e s m args below meth c A ls H C hrt hnm hS hP hD hl => ?_)
  have hx := C.1
  have hb := C.2.1
  have hown := C.2.2.2.1
  have hts := C.2.2.2.2.1
  have hl : lv_has ls 3 [(0, .ref (z.2.1 k)), (1, .ref (z.1 0))] := hl
  have S : sS D A s cI cR o z u [] H [] := ⟨by rw [List.append_nil]; exact hP, by rw [List.append_nil]; exact hD, hS⟩
  obtain ⟨locs, elocs⟩ : ∃ z : List Loc, z = [] := ⟨_, rfl⟩
  rw [← elocs] at S ⊢
  have hT := B.2.1
  have V := B.2.2.1
  have Bk := B.2.2.2.2.1 k (Nat.lt_of_lt_of_le hk B.1)
  refine lv_aload_n hx hb dX1_pieces_0 rfl (lv_at hl 0 rfl) ?_
  refine r_gf C S 1 k (by decide) hk (v := .int (u.1 1 k)) rfl rfl q181 dX1_pieces_1 ?_
  refine lv_aload_n hx hb dX1_pieces_4 rfl (lv_at hl 1 rfl) ?_
  refine lv_iconst (v := 2) hx hb dX1_pieces_5 (by decide) ?_
  refine s_l7 C S (i := 2) (by decide) rfl dX1_pieces_6 ?_
  refine lv_icmp_ge (tgt := 17) hx hb dX1_pieces_7 (by decide) (fun c1 => ?_) (fun c1 => ?_)
  · refine lv_aload_n hx hb dX1_pieces_17 rfl (lv_at hl 1 rfl) ?_
    refine lv_iconst (v := 2) hx hb dX1_pieces_18 (by decide) ?_
    refine s_l7 C S (i := 2) (by decide) rfl dX1_pieces_19 ?_
    refine lv_topi (fun v2 ev2 => ?_)
    refine lv_istore_n (lv' := [(2, .int v2), (0, .ref (z.2.1 k)), (1, .ref (z.1 0))]) hx hb dX1_pieces_20 rfl hl (by decide) rfl (fun ls hl => ?_)
    refine lv_aload_n hx hb dX1_pieces_21 rfl (lv_at hl 2 rfl) ?_
    refine lv_iconst (v := 0) hx hb dX1_pieces_22 (by decide) ?_
    refine s_l7 C S (i := 0) (by decide) rfl dX1_pieces_23 ?_
    refine lv_iload_n hx hb dX1_pieces_24 rfl (lv_at hl 0 rfl) ?_
    refine lv_imul hx hb dX1_pieces_25 ?_
    refine lv_bipush (v := 10) hx hb dX1_pieces_26 (by decide) ?_
    refine lv_idiv hx hb dX1_pieces_28 (by decide) ?_
    refine lv_aload_n hx hb dX1_pieces_29 rfl (lv_at hl 2 rfl) ?_
    refine lv_iconst (v := 0) hx hb dX1_pieces_30 (by decide) ?_
    refine s_l7 C S (i := 0) (by decide) rfl dX1_pieces_31 ?_
    refine lv_aload_n hx hb dX1_pieces_32 rfl (lv_at hl 1 rfl) ?_
    refine r_gf C S 1 k (by decide) hk (v := .int (u.1 1 k)) rfl rfl q181 dX1_pieces_33 ?_
    refine lv_iload_n hx hb dX1_pieces_36 rfl (lv_at hl 0 rfl) ?_
    refine lv_isub hx hb dX1_pieces_37 ?_
    refine lv_imul hx hb dX1_pieces_38 ?_
    refine lv_bipush (v := 100) hx hb dX1_pieces_39 (by decide) ?_
    refine lv_aload_n hx hb dX1_pieces_41 rfl (lv_at hl 2 rfl) ?_
    refine lv_iconst (v := 3) hx hb dX1_pieces_42 (by decide) ?_
    refine s_l7 C S (i := 3) (by decide) rfl dX1_pieces_43 ?_
    refine lv_iadd hx hb dX1_pieces_44 ?_
    refine lv_imul hx hb dX1_pieces_45 ?_
    refine lv_sipush (v := 1000) hx hb dX1_pieces_46 (by decide) ?_
    refine lv_idiv hx hb dX1_pieces_49 (by decide) ?_
    refine lv_iadd hx hb dX1_pieces_50 ?_
    exact g_iret C hrt (rp_left S.1) (rd_left S.2.1) S.2.2 dX1_pieces_51 ⟨(by subst ev2; exact rl_pc V Bk (rl_m2 (Int32.not_lt.mpr c1))), rfl⟩
  · refine lv_aload_n hx hb dX1_pieces_10 rfl (lv_at hl 0 rfl) ?_
    refine r_gf C S 1 k (by decide) hk (v := .int (u.1 1 k)) rfl rfl q181 dX1_pieces_11 ?_
    refine lv_goto (tgt := 20) hx hb dX1_pieces_14 (by decide) ?_
    refine lv_topi (fun v3 ev3 => ?_)
    refine lv_istore_n (lv' := [(2, .int v3), (0, .ref (z.2.1 k)), (1, .ref (z.1 0))]) hx hb dX1_pieces_20 rfl hl (by decide) rfl (fun ls hl => ?_)
    refine lv_aload_n hx hb dX1_pieces_21 rfl (lv_at hl 2 rfl) ?_
    refine lv_iconst (v := 0) hx hb dX1_pieces_22 (by decide) ?_
    refine s_l7 C S (i := 0) (by decide) rfl dX1_pieces_23 ?_
    refine lv_iload_n hx hb dX1_pieces_24 rfl (lv_at hl 0 rfl) ?_
    refine lv_imul hx hb dX1_pieces_25 ?_
    refine lv_bipush (v := 10) hx hb dX1_pieces_26 (by decide) ?_
    refine lv_idiv hx hb dX1_pieces_28 (by decide) ?_
    refine lv_aload_n hx hb dX1_pieces_29 rfl (lv_at hl 2 rfl) ?_
    refine lv_iconst (v := 0) hx hb dX1_pieces_30 (by decide) ?_
    refine s_l7 C S (i := 0) (by decide) rfl dX1_pieces_31 ?_
    refine lv_aload_n hx hb dX1_pieces_32 rfl (lv_at hl 1 rfl) ?_
    refine r_gf C S 1 k (by decide) hk (v := .int (u.1 1 k)) rfl rfl q181 dX1_pieces_33 ?_
    refine lv_iload_n hx hb dX1_pieces_36 rfl (lv_at hl 0 rfl) ?_
    refine lv_isub hx hb dX1_pieces_37 ?_
    refine lv_imul hx hb dX1_pieces_38 ?_
    refine lv_bipush (v := 100) hx hb dX1_pieces_39 (by decide) ?_
    refine lv_aload_n hx hb dX1_pieces_41 rfl (lv_at hl 2 rfl) ?_
    refine lv_iconst (v := 3) hx hb dX1_pieces_42 (by decide) ?_
    refine s_l7 C S (i := 3) (by decide) rfl dX1_pieces_43 ?_
    refine lv_iadd hx hb dX1_pieces_44 ?_
    refine lv_imul hx hb dX1_pieces_45 ?_
    refine lv_sipush (v := 1000) hx hb dX1_pieces_46 (by decide) ?_
    refine lv_idiv hx hb dX1_pieces_49 (by decide) ?_
    refine lv_iadd hx hb dX1_pieces_50 ?_
    exact g_iret C hrt (rp_left S.1) (rd_left S.2.1) S.2.2 dX1_pieces_51 ⟨(by subst ev3; exact rl_pc V Bk (rl_m1 (Int32.not_le.mp c1))), rfl⟩
set_option maxHeartbeats 4000000 in
set_option maxRecDepth 100000 in
theorem mX1_wage (l : Launch) (D : va_G) (t : Nat → Nat) (cI cR cB : ClassId) (o : Nat) (z : SA) (sz : Nat) (u : S0) (T : Nat) (B : rB T u) (k : Nat) (hk : k < u.2.1) : gMi l yX1_wage (rw_ yX1_wage cX1_wage 4 (some .int)) (rm_ 1 0 0 22) [.ref (z.2.1 k), .ref (z.1 0)] D (ty3 cI cR cB) t (rs_w cI cR o z u) sz (fun r w' => r = rf_ww u 7 k ∧ w' = rs_w cI cR o z u) := by
  refine g_of (cc := cX1_wage) (nL := 4) (rt := (some .int)) (Q := fun A => va_Qi _ (fun w' U => gQ D A w' U) A) (by decide) (Nat.le_of_ble_eq_true rfl) (fun p e s m args below meth c A ls H C hrt hnm hS hP hD hl => ?_)
  have hx := C.1
  have hb := C.2.1
  have hown := C.2.2.2.1
  have hts := C.2.2.2.2.1
  have hl : lv_has ls 4 [(0, .ref (z.2.1 k)), (1, .ref (z.1 0))] := hl
  have S : sS D A s cI cR o z u [] H [] := ⟨by rw [List.append_nil]; exact hP, by rw [List.append_nil]; exact hD, hS⟩
  obtain ⟨locs, elocs⟩ : ∃ z : List Loc, z = [] := ⟨_, rfl⟩
  rw [← elocs] at S ⊢
  have hT := B.2.1
  have V := B.2.2.1
  have Bk := B.2.2.2.2.1 k (Nat.lt_of_lt_of_le hk B.1)
  refine lv_aload_n hx hb dX1_wage_0 rfl (lv_at hl 0 rfl) ?_
  refine lv_aload_n hx hb dX1_wage_1 rfl (lv_at hl 1 rfl) ?_
  refine m_ci (wa := []) (wb := rs_w cI cR o z u) (wd := ([] : va_W)) (cells' := 0) (slots' := 0) rfl rfl C S.1 S.2.1 S.2.2 (fun hPb hDb => g_runVj (n := 1) (As := [.ref (z.1 0)]) C (mX1_pieces l D t cI cR cB o z H.size u T B k hk) (rw_V q177 q178 q179 q51 q180) kd_X1_pieces ⟨Nat.le_of_ble_eq_true rfl, Nat.le_of_ble_eq_true rfl⟩ (ci := 1) rfl rfl (4 + k) (rs_rp hk) C.2.2.2.2.2.1 hPb hDb S.2.2 hl.1 rfl rfl (Nat.le_of_ble_eq_true rfl) dX1_wage_2 ⟨Nat.le_of_ble_eq_true rfl, Nat.le_of_ble_eq_true rfl⟩) (fun v w' H locs hv _ hP9 hD9 hS9 => ?_)
  obtain ⟨rfl, rfl⟩ := hv
  have S : sS D A s cI cR o z u ([] : va_W) H locs := ⟨hP9, hD9, hS9⟩
  refine lv_topi (fun v1 ev1 => ?_)
  refine lv_istore_n (lv' := [(2, .int v1), (0, .ref (z.2.1 k)), (1, .ref (z.1 0))]) hx hb dX1_wage_5 rfl hl (by decide) rfl (fun ls hl => ?_)
  refine lv_aload_n hx hb dX1_wage_6 rfl (lv_at hl 2 rfl) ?_
  refine lv_iconst (v := 1) hx hb dX1_wage_7 (by decide) ?_
  refine s_l7 C S (i := 1) (by decide) rfl dX1_wage_8 ?_
  refine lv_aload_n hx hb dX1_wage_9 rfl (lv_at hl 1 rfl) ?_
  refine m_ci (wa := []) (wb := rs_w cI cR o z u) (wd := ([] : va_W)) (cells' := 0) (slots' := 0) rfl rfl C S.1 S.2.1 S.2.2 (fun hPb hDb => g_runVj (n := 0) (As := []) C (mX1_counting l D t cI cR cB o z H.size u T B k hk) (rw_V q182 q183 q184 q51 q185) kd_X1_counting ⟨Nat.le_of_ble_eq_true rfl, Nat.le_of_ble_eq_true rfl⟩ (ci := 1) rfl rfl (4 + k) (rs_rp hk) C.2.2.2.2.2.1 hPb hDb S.2.2 hl.1 rfl rfl (Nat.le_of_ble_eq_true rfl) dX1_wage_10 ⟨Nat.le_of_ble_eq_true rfl, Nat.le_of_ble_eq_true rfl⟩) (fun v w' H locs hv _ hP9 hD9 hS9 => ?_)
  obtain ⟨rfl, rfl⟩ := hv
  have S : sS D A s cI cR o z u ([] : va_W) H locs := ⟨hP9, hD9, hS9⟩
  refine lv_imul hx hb dX1_wage_13 ?_
  refine lv_topi (fun v2 ev2 => ?_)
  refine lv_istore_n (lv' := [(3, .int v2), (2, .int v1), (0, .ref (z.2.1 k)), (1, .ref (z.1 0))]) hx hb dX1_wage_14 rfl hl (by decide) rfl (fun ls hl => ?_)
  refine lv_aload_n hx hb dX1_wage_15 rfl (lv_at hl 2 rfl) ?_
  refine r_gf C S 0 k (by decide) hk (v := .int (u.1 0 k)) rfl rfl q176 dX1_wage_16 ?_
  refine lv_if_eq (tgt := 35) hx hb dX1_wage_19 (by decide) (fun c3 => ?_) (fun c3 => ?_)
  · refine lv_iload_n hx hb dX1_wage_35 rfl (lv_at hl 1 rfl) ?_
    refine lv_goto (tgt := 40) hx hb dX1_wage_36 (by decide) ?_
    exact g_iret C hrt (rp_left S.1) (rd_left S.2.1) S.2.2 dX1_wage_40 ⟨(by subst ev2; subst ev1; exact rl_w0 c3), rfl⟩
  · refine lv_aload_n hx hb dX1_wage_22 rfl (lv_at hl 2 rfl) ?_
    refine r_gf C S 0 k (by decide) hk (v := .int (u.1 0 k)) rfl rfl q176 dX1_wage_23 ?_
    refine lv_iconst (v := 2) hx hb dX1_wage_26 (by decide) ?_
    refine lv_icmp_ne (tgt := 39) hx hb dX1_wage_27 (by decide) (fun c4 => ?_) (fun c4 => ?_)
    · refine lv_iload_n hx hb dX1_wage_39 rfl (lv_at hl 0 rfl) ?_
      exact g_iret C hrt (rp_left S.1) (rd_left S.2.1) S.2.2 dX1_wage_40 ⟨(by subst ev2; subst ev1; exact rl_w1 Bk c3 c4), rfl⟩
    · refine lv_iload_n hx hb dX1_wage_30 rfl (lv_at hl 1 rfl) ?_
      refine lv_iload_n hx hb dX1_wage_31 rfl (lv_at hl 0 rfl) ?_
      refine lv_icmp_le (tgt := 39) hx hb dX1_wage_32 (by decide) (fun c5 => ?_) (fun c5 => ?_)
      · refine lv_iload_n hx hb dX1_wage_39 rfl (lv_at hl 0 rfl) ?_
        exact g_iret C hrt (rp_left S.1) (rd_left S.2.1) S.2.2 dX1_wage_40 ⟨(by subst ev2; subst ev1; exact rl_w2 c4 c5), rfl⟩
      · refine lv_iload_n hx hb dX1_wage_35 rfl (lv_at hl 1 rfl) ?_
        refine lv_goto (tgt := 40) hx hb dX1_wage_36 (by decide) ?_
        exact g_iret C hrt (rp_left S.1) (rd_left S.2.1) S.2.2 dX1_wage_40 ⟨(by subst ev2; subst ev1; exact rl_w3 c4 c5), rfl⟩
end
section
theorem kd_X2_back : yX2_back.cls = yX2_back.cls ∧ yX2_back.cls ≠ "java/lang/invoke/MethodHandle" ∧ yX2_back.cls ≠ "java/lang/invoke/VarHandle" ∧ (parseMethodDescriptor yX2_back.desc).map (fun d => d.parameters.length) = some 1 := by decide +kernel
theorem kd_X2_wages : yX2_wages.cls = yX2_wages.cls ∧ yX2_wages.cls ≠ "java/lang/invoke/MethodHandle" ∧ yX2_wages.cls ≠ "java/lang/invoke/VarHandle" ∧ (parseMethodDescriptor yX2_wages.desc).map (fun d => d.parameters.length) = some 0 := by decide +kernel
set_option maxHeartbeats 4000000 in
set_option maxRecDepth 100000 in
theorem mX2_back (l : Launch) (D : va_G) (t : Nat → Nat) (cI cR cB : ClassId) (o : Nat) (z : SA) (sz : Nat) (u : S0) (T : Nat) (B : rB T u) (k : Nat) (hk : k < u.2.1) : gMi l yX2_back (rw_ yX2_back cX2_back 3 (some .int)) (rm_ 2 0 0 45) [.ref o, .ref (z.2.1 k)] D (ty3 cI cR cB) t (rs_w cI cR o z u) sz (fun r w' => r = rf_tk u k ∧ w' = rs_w cI cR o z u) := by
  refine g_of (cc := cX2_back) (nL := 3) (rt := (some .int)) (Q := fun A => va_Qi _ (fun w' U => gQ D A w' U) A) (by decide) (Nat.le_of_ble_eq_true rfl) (fun p e s m args below meth c A ls H C hrt hnm hS hP hD hl => ?_)
  have hx := C.1
  have hb := C.2.1
  have hown := C.2.2.2.1
  have hts := C.2.2.2.2.1
  have hl : lv_has ls 3 [(0, .ref o), (1, .ref (z.2.1 k))] := hl
  have S : sS D A s cI cR o z u [] H [] := ⟨by rw [List.append_nil]; exact hP, by rw [List.append_nil]; exact hD, hS⟩
  obtain ⟨locs, elocs⟩ : ∃ z : List Loc, z = [] := ⟨_, rfl⟩
  rw [← elocs] at S ⊢
  have hT := B.2.1
  have V := B.2.2.1
  have Bk := B.2.2.2.2.1 k (Nat.lt_of_lt_of_le hk B.1)
  refine lv_aload_n hx hb dX2_back_0 rfl (lv_at hl 1 rfl) ?_
  refine lv_aload_n hx hb dX2_back_1 rfl (lv_at hl 0 rfl) ?_
  refine s_gf C S 1 (by decide) (v := .ref (z.1 0)) rfl rfl q33 dX2_back_2 ?_
  refine m_ci (wa := []) (wb := rs_w cI cR o z u) (wd := ([] : va_W)) (cells' := 0) (slots' := 0) rfl rfl C S.1 S.2.1 S.2.2 (fun hPb hDb => g_runVj (n := 1) (As := [.ref (z.1 0)]) C (mX1_wage l D t cI cR cB o z H.size u T B k hk) (rw_V q172 q173 q174 q51 q175) kd_X1_wage ⟨Nat.le_of_ble_eq_true rfl, Nat.le_of_ble_eq_true rfl⟩ (ci := 1) rfl rfl (4 + k) (rs_rp hk) C.2.2.2.2.2.1 hPb hDb S.2.2 hl.1 rfl rfl (Nat.le_of_ble_eq_true rfl) dX2_back_5 ⟨Nat.le_of_ble_eq_true rfl, Nat.le_of_ble_eq_true rfl⟩) (fun v w' H locs hv _ hP9 hD9 hS9 => ?_)
  obtain ⟨rfl, rfl⟩ := hv
  have S : sS D A s cI cR o z u ([] : va_W) H locs := ⟨hP9, hD9, hS9⟩
  refine lv_aload_n hx hb dX2_back_8 rfl (lv_at hl 1 rfl) ?_
  refine r_gf C S 5 k (by decide) hk (v := .int (u.1 5 k)) rfl rfl q161 dX2_back_9 ?_
  refine lv_iadd hx hb dX2_back_12 ?_
  refine lv_aload_n hx hb dX2_back_13 rfl (lv_at hl 0 rfl) ?_
  refine s_gf C S 1 (by decide) (v := .ref (z.1 0)) rfl rfl q33 dX2_back_14 ?_
  refine lv_iconst (v := 4) hx hb dX2_back_17 (by decide) ?_
  refine s_l7 C S (i := 4) (by decide) rfl dX2_back_18 ?_
  refine lv_idiv hx hb dX2_back_19 (rl_nz V) ?_
  refine lv_topi (fun v1 ev1 => ?_)
  refine lv_istore_n (lv' := [(2, .int v1), (0, .ref o), (1, .ref (z.2.1 k))]) hx hb dX2_back_20 rfl hl (by decide) rfl (fun ls hl => ?_)
  refine lv_aload_n hx hb dX2_back_21 rfl (lv_at hl 2 rfl) ?_
  refine r_gf C S 4 k (by decide) hk (v := .int (u.1 4 k)) rfl rfl q162 dX2_back_22 ?_
  refine lv_iload_n hx hb dX2_back_25 rfl (lv_at hl 0 rfl) ?_
  refine lv_icmp_ge (tgt := 36) hx hb dX2_back_26 (by decide) (fun c2 => ?_) (fun c2 => ?_)
  · refine lv_iload_n hx hb dX2_back_36 rfl (lv_at hl 0 rfl) ?_
    exact g_iret C hrt (rp_left S.1) (rd_left S.2.1) S.2.2 dX2_back_37 ⟨(by subst ev1; exact rl_b2 V c2), rfl⟩
  · refine lv_aload_n hx hb dX2_back_29 rfl (lv_at hl 2 rfl) ?_
    refine r_gf C S 4 k (by decide) hk (v := .int (u.1 4 k)) rfl rfl q162 dX2_back_30 ?_
    refine lv_goto (tgt := 37) hx hb dX2_back_33 (by decide) ?_
    exact g_iret C hrt (rp_left S.1) (rd_left S.2.1) S.2.2 dX2_back_37 ⟨(by subst ev1; exact rl_b1 V c2), rfl⟩
set_option maxHeartbeats 4000000 in
set_option maxRecDepth 100000 in
theorem lpX2_wages {p : Program} {l : Launch} {e : Env} {s : State} {m : MethodId} {args : Array Value} {below : List Frame} {meth : Method} {c : Code} {Q : State → Prop} {D : va_G} {t : Nat → Nat} {A : Nat → Prop} {cI cR cB : ClassId} {o : Nat} {z : SA} {u : S0} (C : gC p s m args meth c cX2_wages 6 RX2 D (ty3 cI cR cB) t A) {T : Nat} (B : rB T u) (kk : ∀ (H : Heap) (locs : List Loc) (ls : Array Slot), sS D A s cI cR o z u ([]) H locs → lv_has ls 6 [(0, .ref o), (1, .int (rf_sm (rf_ww u 7) u.2.1)), (2, .ref (z.1 2)), (3, .int (nI u.2.1)), (4, .int (nI u.2.1))] → W p l e (rm_ 2 0 0 45) s m args below meth c H locs 0 0 Q (F0 m 43 ls [])) :
    ∀ (n i : Nat), i + n = u.2.1 → ∀ (H : Heap) (locs : List Loc) (ls : Array Slot), sS D A s cI cR o z u ([]) H locs → lv_has ls 6 [(0, .ref o), (1, .int (rf_sm (rf_ww u 7) i)), (2, .ref (z.1 2)), (3, .int (nI u.2.1)), (4, .int (nI i))] → W p l e (rm_ 2 0 0 45) s m args below meth c H locs 0 0 Q (F0 m 13 ls []) := by
  have hx := C.1
  have hb := C.2.1
  have hown := C.2.2.2.1
  have hts := C.2.2.2.2.1
  have hu8 : u.2.1 ≤ 8 := B.1
  intro n
  induction n with
  | zero =>
    intro i hi H locs ls S hl
    have hiN : i = u.2.1 := by omega
    refine lv_iload hx hb dX2_wages_13 (lv_at hl 4 rfl) ?_
    refine lv_iload_n hx hb dX2_wages_15 rfl (lv_at hl 3 rfl) ?_
    refine lv_icmp_ge (tgt := 43) hx hb dX2_wages_16 (by decide) (fun c1 => ?_) (fun c1 => absurd ((nI_leI (a := u.2.1) (b := i) (by omega) (by omega)).mpr (by omega)) c1)
    subst hiN
    exact kk _ _ _ S (lv_sub hl [0, 1, 2, 3, 4] rfl)
  | succ n ih =>
    intro i hi H locs ls S hl
    have hin : i < u.2.1 := by omega
    refine lv_iload hx hb dX2_wages_13 (lv_at hl 4 rfl) ?_
    refine lv_iload_n hx hb dX2_wages_15 rfl (lv_at hl 3 rfl) ?_
    refine lv_icmp_ge (tgt := 43) hx hb dX2_wages_16 (by decide) (fun c1 => absurd c1 (fun h9 => absurd ((nI_leI (a := u.2.1) (b := i) (by omega) (by omega)).mp h9) (by omega))) (fun c1 => ?_)
    refine lv_aload_n hx hb dX2_wages_19 rfl (lv_at hl 2 rfl) ?_
    refine lv_iload hx hb dX2_wages_20 (lv_at hl 4 rfl) ?_
    refine s_al C S hu8 hin rfl dX2_wages_22 ?_
    refine lv_astore (lv' := [(5, .ref (z.2.1 i)), (0, .ref o), (1, .int (rf_sm (rf_ww u 7) i)), (2, .ref (z.1 2)), (3, .int (nI u.2.1)), (4, .int (nI i))]) hx hb dX2_wages_23 hl (by decide) rfl (fun ls hl => ?_)
    refine lv_iload_n hx hb dX2_wages_25 rfl (lv_at hl 2 rfl) ?_
    refine lv_aload hx hb dX2_wages_26 (lv_at hl 0 rfl) ?_
    refine lv_aload_n hx hb dX2_wages_28 rfl (lv_at hl 1 rfl) ?_
    refine s_gf C S 1 (by decide) (v := .ref (z.1 0)) rfl rfl q33 dX2_wages_29 ?_
    refine m_ci (wa := []) (wb := rs_w cI cR o z u) (wd := []) (cells' := 0) (slots' := 0) rfl rfl C S.1 S.2.1 S.2.2 (fun hPb hDb => g_runVj (n := 1) (As := [.ref (z.1 0)]) C (mX1_wage l D t cI cR cB o z H.size u T B i hin) (rw_V q172 q173 q174 q51 q175) kd_X1_wage ⟨Nat.le_of_ble_eq_true rfl, Nat.le_of_ble_eq_true rfl⟩ (ci := 1) rfl rfl (4 + i) (rs_rp hin) C.2.2.2.2.2.1 hPb hDb S.2.2 hl.1 rfl rfl (Nat.le_of_ble_eq_true rfl) dX2_wages_32 ⟨Nat.le_of_ble_eq_true rfl, Nat.le_of_ble_eq_true rfl⟩) (fun v w' H locs hv _ hP9 hD9 hS9 => ?_)
    obtain ⟨rfl, rfl⟩ := hv
    have S : sS D A s cI cR o z u ([]) H locs := ⟨hP9, hD9, hS9⟩
    refine lv_iadd hx hb dX2_wages_35 ?_
    refine lv_topi (fun v2 ev2 => ?_)
    refine lv_istore_n (lv' := [(1, .int v2), (5, .ref (z.2.1 i)), (0, .ref o), (2, .ref (z.1 2)), (3, .int (nI u.2.1)), (4, .int (nI i))]) hx hb dX2_wages_36 rfl hl (by decide) rfl (fun ls hl => ?_)
    refine lv_iinc (v := nI (i + 1)) (lv' := [(4, .int (nI (i + 1))), (1, .int v2), (5, .ref (z.2.1 i)), (0, .ref o), (2, .ref (z.1 2)), (3, .int (nI u.2.1))]) hx hb dX2_wages_37 hl (k := 5) rfl (nI_1 _) (by decide) rfl (fun ls hl => ?_)
    refine lv_goto (tgt := 13) hx hb dX2_wages_40 (by decide) ?_
    subst ev2
    exact ih (i + 1) (by omega) _ _ _ S (lv_sub hl [3, 1, 4, 5, 0] rfl)
set_option maxHeartbeats 4000000 in
set_option maxRecDepth 100000 in
theorem mX2_wages (l : Launch) (D : va_G) (t : Nat → Nat) (cI cR cB : ClassId) (o : Nat) (z : SA) (sz : Nat) (u : S0) (T : Nat) (B : rB T u) : gMi l yX2_wages (rw_ yX2_wages cX2_wages 6 (some .int)) (rm_ 2 0 0 45) [.ref o] D (ty3 cI cR cB) t (rs_w cI cR o z u) sz (fun r w' => r = rf_sm (rf_ww u 7) u.2.1 ∧ w' = rs_w cI cR o z u) := by
  refine g_of (cc := cX2_wages) (nL := 6) (rt := (some .int)) (Q := fun A => va_Qi _ (fun w' U => gQ D A w' U) A) (by decide) (Nat.le_of_ble_eq_true rfl) (fun p e s m args below meth c A ls H C hrt hnm hS hP hD hl => ?_)
  have hx := C.1
  have hb := C.2.1
  have hown := C.2.2.2.1
  have hts := C.2.2.2.2.1
  have hl : lv_has ls 6 [(0, .ref o)] := hl
  have S : sS D A s cI cR o z u [] H [] := ⟨by rw [List.append_nil]; exact hP, by rw [List.append_nil]; exact hD, hS⟩
  obtain ⟨locs, elocs⟩ : ∃ z : List Loc, z = [] := ⟨_, rfl⟩
  rw [← elocs] at S ⊢
  have hu8 : u.2.1 ≤ 8 := B.1
  refine lv_iconst (v := 0) hx hb dX2_wages_0 (by decide) ?_
  refine lv_istore_n (lv' := [(1, .int 0), (0, .ref o)]) hx hb dX2_wages_1 rfl hl (by decide) rfl (fun ls hl => ?_)
  refine lv_aload_n hx hb dX2_wages_2 rfl (lv_at hl 1 rfl) ?_
  refine s_gf C S 3 (by decide) (v := .ref (z.1 2)) rfl rfl q36 dX2_wages_3 ?_
  refine lv_astore_n (lv' := [(2, .ref (z.1 2)), (1, .int 0), (0, .ref o)]) hx hb dX2_wages_6 rfl hl (by decide) rfl (fun ls hl => ?_)
  refine lv_aload_n hx hb dX2_wages_7 rfl (lv_at hl 0 rfl) ?_
  refine s_an C S dX2_wages_8 ?_
  refine lv_istore_n (lv' := [(3, .int (nI u.2.1)), (2, .ref (z.1 2)), (1, .int 0), (0, .ref o)]) hx hb dX2_wages_9 rfl hl (by decide) rfl (fun ls hl => ?_)
  refine lv_iconst (v := 0) hx hb dX2_wages_10 (by decide) ?_
  refine lv_istore (lv' := [(4, .int 0), (3, .int (nI u.2.1)), (2, .ref (z.1 2)), (1, .int 0), (0, .ref o)]) hx hb dX2_wages_11 hl (by decide) rfl (fun ls hl => ?_)
  refine lpX2_wages C B (fun H locs ls S hl => ?_) u.2.1 0 (by omega) _ _ _ S (lv_sub hl [4, 3, 2, 1, 0] rfl)
  refine lv_iload_n hx hb dX2_wages_43 rfl (lv_at hl 1 rfl) ?_
  exact g_iret C hrt (rp_left S.1) (rd_left S.2.1) S.2.2 dX2_wages_44 ⟨rfl, rfl⟩
end
section
theorem ra_s2 {u : S0} {k i : Nat} {x : Int32} : (ra_s u k i x).2 = u.2 := rfl
theorem i32_a (x y : Int32) : x - (x - y) = y := by grind
/-! PAYING, by numbers: coins one after another -/
def ks (s : Int32) (p : Nat → Int32) : Nat → Int32
  | 0 => s
  | c + 1 => ks s p c - rf_min (rf_wp (ks s p c) (rt_RX0_COIN_WORTH c)) (p c) * rt_RX0_COIN_WORTH c
def km (s : Int32) (p : Nat → Int32) (c : Nat) : Int32 := rf_min (rf_wp (ks s p c) (rt_RX0_COIN_WORTH c)) (p c)
theorem ks_1 {s : Int32} {p : Nat → Int32} {c : Nat} : ks s p (c + 1) = ks s p c - km s p c * rt_RX0_COIN_WORTH c := rfl
theorem ho_1 {u : S0} {k : Nat} {s : Int32} (hk : k = 8 ∨ k = 12) : ∀ c : Nat, (rf_ho u k s c).1 = ks s (u.1 k) c ∧ (∀ j : Nat, (rf_ho u k s c).2.1 k j = if j < c then u.1 k j - km s (u.1 k) j else u.1 k j) ∧ (∀ j : Nat, (rf_ho u k s c).2.1 13 j = if j < c then km s (u.1 k) j else u.1 13 j) ∧ (∀ i : Nat, i ≠ k → i ≠ 13 → (rf_ho u k s c).2.1 i = u.1 i) ∧ (rf_ho u k s c).2.2 = u.2 := by
  have hk13 : k ≠ 13 := by omega
  intro c
  induction c with
  | zero => exact ⟨rfl, fun j => by rw [if_neg (Nat.not_lt_zero j)]; rfl, fun j => by rw [if_neg (Nat.not_lt_zero j)]; rfl, fun i _ _ => rfl, rfl⟩
  | succ c ih =>
    obtain ⟨h1, h2, h3, h4, h5⟩ := ih
    have hm : rf_hm k (rf_ho u k s c) c = km s (u.1 k) c := by
      unfold rf_hm km
      rw [h1, h2 c, if_neg (Nat.lt_irrefl c)]
    refine ⟨?_, fun j => ?_, fun j => ?_, fun i hi hi3 => ?_, h5⟩
    · show (rf_ho u k s c).1 - rf_hm k (rf_ho u k s c) c * rt_RX0_COIN_WORTH c = _
      rw [hm, h1, ks_1]
    · show (ra_s (ra_s (rf_ho u k s c).2 k c ((rf_ho u k s c).2.1 k c - rf_hm k (rf_ho u k s c) c)) 13 c (rf_hm k (rf_ho u k s c) c)).1 k j = _
      rw [ra_sN hk13, hm]
      by_cases e : j = c
      · subst e
        rw [ra_sS, h2 j, if_neg (Nat.lt_irrefl j), if_pos (Nat.lt_succ_self j)]
      · rw [ra_sO e, h2 j]
        by_cases hj : j < c
        · rw [if_pos hj, if_pos (by omega)]
        · rw [if_neg hj, if_neg (by omega)]
    · show (ra_s (ra_s (rf_ho u k s c).2 k c ((rf_ho u k s c).2.1 k c - rf_hm k (rf_ho u k s c) c)) 13 c (rf_hm k (rf_ho u k s c) c)).1 13 j = _
      by_cases e : j = c
      · subst e
        rw [ra_sS, hm, if_pos (Nat.lt_succ_self j)]
      · rw [ra_sO e, ra_sO e, h3 j]
        by_cases hj : j < c
        · rw [if_pos hj, if_pos (by omega)]
        · rw [if_neg hj, if_neg (by omega)]
    · show (ra_s (ra_s (rf_ho u k s c).2 k c ((rf_ho u k s c).2.1 k c - rf_hm k (rf_ho u k s c) c)) 13 c (rf_hm k (rf_ho u k s c) c)).1 i = _
      rw [ra_sN hi3, ra_sN hi]
      exact h4 i hi hi3
theorem cw_b {c : Nat} (h : c < 3) : 4 ≤ (rt_RX0_COIN_WORTH c).toInt ∧ (rt_RX0_COIN_WORTH c).toInt ≤ 120 := by
  rcases (show c = 0 ∨ c = 1 ∨ c = 2 by omega) with rfl | rfl | rfl <;> decide
theorem mul_div_le {a w : Int} (ha : 0 ≤ a) (hw : 0 < w) : a / w * w ≤ a := by
  have := Int.mul_ediv_add_emod a w
  have h2 := Int.emod_nonneg a (show w ≠ 0 by omega)
  rw [Int.mul_comm] at this
  omega
theorem km_t {s : Int32} {p : Nat → Int32} (hp : ∀ c : Nat, c < 3 → 0 ≤ (p c).toInt) {c : Nat} (hc : c < 3) (h0 : 0 ≤ (ks s p c).toInt) : (km s p c).toInt = min ((ks s p c).toInt / (rt_RX0_COIN_WORTH c).toInt) (p c).toInt ∧ 0 ≤ (km s p c).toInt ∧ (km s p c).toInt * (rt_RX0_COIN_WORTH c).toInt ≤ (ks s p c).toInt ∧ (ks s p (c + 1)).toInt = (ks s p c).toInt - (km s p c).toInt * (rt_RX0_COIN_WORTH c).toInt ∧ 0 ≤ (ks s p (c + 1)).toInt := by
  have w := cw_b hc
  have e1 : (km s p c).toInt = min ((ks s p c).toInt / (rt_RX0_COIN_WORTH c).toInt) (p c).toInt := by
    unfold km
    rw [tI_min, tI_wp h0 (by omega)]
  have d0 : 0 ≤ (ks s p c).toInt / (rt_RX0_COIN_WORTH c).toInt := Int.ediv_nonneg h0 (by omega)
  have hp0 := hp c hc
  have e2 : 0 ≤ (km s p c).toInt := by omega
  have e3 : (km s p c).toInt * (rt_RX0_COIN_WORTH c).toInt ≤ (ks s p c).toInt := by
    have h1 : (km s p c).toInt * (rt_RX0_COIN_WORTH c).toInt ≤ (ks s p c).toInt / (rt_RX0_COIN_WORTH c).toInt * (rt_RX0_COIN_WORTH c).toInt := Int.mul_le_mul_of_nonneg_right (by omega) (by omega)
    have h2 := mul_div_le h0 (show 0 < (rt_RX0_COIN_WORTH c).toInt by omega)
    omega
  have e4 : 0 ≤ (km s p c).toInt * (rt_RX0_COIN_WORTH c).toInt := Int.mul_nonneg e2 (by omega)
  have r := tI_rng (ks s p c)
  have e5 : (km s p c * rt_RX0_COIN_WORTH c).toInt = (km s p c).toInt * (rt_RX0_COIN_WORTH c).toInt := tI_mul (by omega) (by omega)
  have e6 : (ks s p (c + 1)).toInt = (ks s p c).toInt - (km s p c).toInt * (rt_RX0_COIN_WORTH c).toInt := by
    rw [ks_1, tI_sub (by rw [e5]; omega) (by rw [e5]; omega), e5]
  exact ⟨e1, e2, e3, e6, by omega⟩
theorem ks_n {s : Int32} {p : Nat → Int32} (hs : 0 ≤ s.toInt) (hp : ∀ c : Nat, c < 3 → 0 ≤ (p c).toInt) : 0 ≤ (ks s p 1).toInt ∧ 0 ≤ (ks s p 2).toInt ∧ 0 ≤ (ks s p 3).toInt := by
  have h1 := (km_t hp (c := 0) (by omega) hs).2.2.2.2
  have h2 := (km_t hp (c := 1) (by omega) h1).2.2.2.2
  exact ⟨h1, h2, (km_t hp (c := 2) (by omega) h2).2.2.2.2⟩
/-- the three coins at once, in whole numbers -/
theorem ks_all {s : Int32} {p : Nat → Int32} (hs : 0 ≤ s.toInt) (hp : ∀ c : Nat, c < 3 → 0 ≤ (p c).toInt) :
    (0 ≤ (km s p 0).toInt ∧ (km s p 0).toInt ≤ (p 0).toInt) ∧ (0 ≤ (km s p 1).toInt ∧ (km s p 1).toInt ≤ (p 1).toInt) ∧ (0 ≤ (km s p 2).toInt ∧ (km s p 2).toInt ≤ (p 2).toInt) ∧ 0 ≤ (ks s p 3).toInt ∧ (ks s p 3).toInt = s.toInt - 120 * (km s p 0).toInt - 48 * (km s p 1).toInt - 4 * (km s p 2).toInt := by
  obtain ⟨n1, n2, n3⟩ := ks_n hs hp
  obtain ⟨a1, a2, a3, a4, -⟩ := km_t hp (c := 0) (by omega) hs
  obtain ⟨b1, b2, b3, b4, -⟩ := km_t hp (c := 1) (by omega) n1
  obtain ⟨c1, c2, c3, c4, -⟩ := km_t hp (c := 2) (by omega) n2
  have w0 : (rt_RX0_COIN_WORTH 0).toInt = 120 := rfl
  have w1 : (rt_RX0_COIN_WORTH 1).toInt = 48 := rfl
  have w2 : (rt_RX0_COIN_WORTH 2).toInt = 4 := rfl
  rw [w0] at a4
  rw [w1] at b4
  rw [w2] at c4
  have z : (ks s p 0).toInt = s.toInt := rfl
  have z1 : (ks s p (0 + 1)).toInt = (ks s p 1).toInt := rfl
  have z2 : (ks s p (1 + 1)).toInt = (ks s p 2).toInt := rfl
  have z3 : (ks s p (2 + 1)).toInt = (ks s p 3).toInt := rfl
  refine ⟨⟨a2, by omega⟩, ⟨b2, by omega⟩, ⟨c2, by omega⟩, n3, by omega⟩
/-! a reaper's own numbers -/
theorem tI_hw {T : Nat} {u : S0} {r : Nat} (V : rV u) (B : rR T u r) (hT : T ≤ 400) : (rf_hw u 7 r).toInt = (u.1 7 1).toInt * hcI (u.1 2 r).toInt (u.1 3 r).toInt ∧ 0 ≤ (rf_hw u 7 r).toInt ∧ (rf_hw u 7 r).toInt ≤ 11781 := by
  have e := tI_hc B hT
  have b := hcI_b (h := (u.1 2 r).toInt) (l := (u.1 3 r).toInt) B.2.2.1.1 B.2.2.1.2 B.2.2.2.1.1
  have v := V.2.1
  have h1 : 0 ≤ (u.1 7 1).toInt * hcI (u.1 2 r).toInt (u.1 3 r).toInt := Int.mul_nonneg (by omega) b.1
  have h2 : (u.1 7 1).toInt * hcI (u.1 2 r).toInt (u.1 3 r).toInt ≤ 99 * 119 := Int.mul_le_mul v.2 b.2 b.1 (by omega)
  have e2 : (rf_hw u 7 r).toInt = (u.1 7 1).toInt * hcI (u.1 2 r).toInt (u.1 3 r).toInt := by
    unfold rf_hw
    rw [tI_mul (by rw [e]; omega) (by rw [e]; omega), e]
  omega
theorem pc_bd {T : Nat} {u : S0} {r : Nat} (V : rV u) (B : rR T u r) : 0 ≤ (rf_pc u 7 r).toInt ∧ (rf_pc u 7 r).toInt ≤ 51592 := by
  rw [tI_pc V B]
  exact pcI_b V.1 B.2.1 V.2.2.1 V.2.2.2.1
theorem ww_bd {T : Nat} {u : S0} {r : Nat} (V : rV u) (B : rR T u r) (hT : T ≤ 400) : 0 ≤ (rf_ww u 7 r).toInt ∧ (rf_ww u 7 r).toInt ≤ 52000 := by
  have h1 := pc_bd V B
  have h2 := (tI_hw V B hT).2
  unfold rf_ww
  split
  · omega
  · split
    · omega
    · rw [tI_max]
      omega
theorem cm_t {T : Nat} {u : S0} {r : Nat} (V : rV u) (B : rR T u r) (hT : T ≤ 400) : (rf_cm u r).toInt = (rf_ww u 7 r).toInt + (u.1 5 r).toInt := by
  have h1 := ww_bd V B hT
  obtain ⟨-, -, -, -, -, h5, h6, h7⟩ := B
  exact tI_add (by omega) (by omega)
theorem tk_t {T : Nat} {u : S0} {r : Nat} (V : rV u) (B : rR T u r) (hT : T ≤ 400) : (rf_tk u r).toInt = min (u.1 4 r).toInt ((rf_cm u r).toInt / (u.1 7 4).toInt) ∧ 0 ≤ (rf_tk u r).toInt ∧ (rf_tk u r).toInt ≤ (u.1 4 r).toInt ∧ (rf_tk u r).toInt ≤ (rf_cm u r).toInt := by
  have c := cm_t V B hT
  have h1 := ww_bd V B hT
  have v := V.2.2.2.2
  obtain ⟨-, -, -, -, h4, h5, h6, h7⟩ := B
  have c0 : 0 ≤ (rf_cm u r).toInt := by omega
  have e : (rf_tk u r).toInt = min (u.1 4 r).toInt ((rf_cm u r).toInt / (u.1 7 4).toInt) := by
    unfold rf_tk rf_tb
    rw [tI_min, tI_wp c0 v.1]
  have d1 : 0 ≤ (rf_cm u r).toInt / (u.1 7 4).toInt := Int.ediv_nonneg c0 (by omega)
  have d2 : (rf_cm u r).toInt / (u.1 7 4).toInt ≤ (rf_cm u r).toInt := Int.ediv_le_self _ c0
  omega
/-- what is left to pay -/
def rl_L (u : S0) (r : Nat) : Int32 := rf_cm u r - rf_tk u r
theorem L_t {T : Nat} {u : S0} {r : Nat} (V : rV u) (B : rR T u r) (hT : T ≤ 400) : (rl_L u r).toInt = (rf_cm u r).toInt - (rf_tk u r).toInt ∧ 0 ≤ (rl_L u r).toInt := by
  have c := cm_t V B hT
  have k := tk_t V B hT
  have r1 := tI_rng (rf_cm u r)
  have e : (rl_L u r).toInt = (rf_cm u r).toInt - (rf_tk u r).toInt := tI_sub (by omega) (by omega)
  omega
/-- a reaper paid: what the class's rows hold behind it -/
theorem st_rows {u : S0} {r : Nat} : (rf_st u r).2 = u.2 ∧ (∀ j : Nat, (rf_st u r).1 8 j = if j < 3 then u.1 8 j - km (rl_L u r) (u.1 8) j else u.1 8 j) ∧ (∀ j : Nat, (rf_st u r).1 13 j = if j < 3 then km (rl_L u r) (u.1 8) j else u.1 13 j) ∧ (∀ k j : Nat, k < 8 → j ≠ r → (rf_st u r).1 k j = u.1 k j) ∧ (rf_st u r).1 0 = u.1 0 ∧ (rf_st u r).1 7 = u.1 7 ∧ (rf_st u r).1 1 r = 0 ∧ (rf_st u r).1 2 r = 0 ∧ (rf_st u r).1 3 r = 0 ∧ (rf_st u r).1 4 r = u.1 4 r - rf_tk u r ∧ (rf_st u r).1 5 r = ks (rl_L u r) (u.1 8) 3 ∧ (rf_st u r).1 6 r = u.1 6 r + (rl_L u r - ks (rl_L u r) (u.1 8) 3) ∧ rf_sv u r = rl_L u r - ks (rl_L u r) (u.1 8) 3 := by
  obtain ⟨h1, h2, h3, h4, h5⟩ := ho_1 (u := u) (s := rl_L u r) (Or.inl rfl : (8 : Nat) = 8 ∨ (8 : Nat) = 12) 3
  have eL : rf_cm u r - rf_tk u r = rl_L u r := rfl
  generalize rl_L u r = L at *
  have sv : rf_sv u r = L - ks L (u.1 8) 3 := by
    unfold rf_sv rf_hv
    rw [eL, h1]
  have s1 : rf_s1 u r = ra_s (rf_ho u 8 L 3).2 4 r (u.1 4 r - rf_tk u r) := by
    unfold rf_s1 rf_hs
    rw [eL, h4 4 (by decide) (by decide)]
  have s3 : rf_s3 u r = ra_s (ra_s (ra_s (rf_ho u 8 (L) 3).2 4 r (u.1 4 r - rf_tk u r)) 5 r (ks (L) (u.1 8) 3)) 6 r (u.1 6 r + (L - ks (L) (u.1 8) 3)) := by
    unfold rf_s3 rf_s2
    rw [s1, sv, eL]
    have e5 : L - (L - ks (L) (u.1 8) 3) = ks (L) (u.1 8) 3 := by
      exact i32_a _ _
    rw [e5]
    rw [ra_sN (show (6 : Nat) ≠ 5 by decide), ra_sN (show (6 : Nat) ≠ 4 by decide), h4 6 (by decide) (by decide)]
  have st : rf_st u r = ra_s (ra_s (ra_s (ra_s (ra_s (ra_s (rf_ho u 8 (L) 3).2 4 r (u.1 4 r - rf_tk u r)) 5 r (ks (L) (u.1 8) 3)) 6 r (u.1 6 r + (L - ks (L) (u.1 8) 3))) 1 r 0) 2 r 0) 3 r 0 := by
    unfold rf_st
    rw [s3]
  have frame : ∀ i : Nat, 7 ≤ i → (rf_st u r).1 i = (rf_ho u 8 (L) 3).2.1 i := fun i hi => by
    rw [st, ra_sN (by omega), ra_sN (by omega), ra_sN (by omega), ra_sN (by omega), ra_sN (by omega), ra_sN (by omega)]
  refine ⟨by rw [st, ra_s2, ra_s2, ra_s2, ra_s2, ra_s2, ra_s2, h5], fun j => by rw [frame 8 (by decide)]; exact h2 j, fun j => by rw [frame 13 (by decide)]; exact h3 j, fun k j hk hj => ?_, ?_, by rw [frame 7 (by decide)]; exact h4 7 (by decide) (by decide), ?_, ?_, ?_, ?_, ?_, ?_, sv⟩
  · rw [st, ra_sO hj, ra_sO hj, ra_sO hj, ra_sO hj, ra_sO hj, ra_sO hj, h4 k (by omega) (by omega)]
  · rw [st, ra_sN (by decide), ra_sN (by decide), ra_sN (by decide), ra_sN (by decide), ra_sN (by decide), ra_sN (by decide)]
    exact h4 0 (by decide) (by decide)
  · rw [st, ra_sN (by decide), ra_sN (by decide), ra_sS]
  · rw [st, ra_sN (by decide), ra_sS]
  · rw [st, ra_sS]
  · rw [st, ra_sN (by decide), ra_sN (by decide), ra_sN (by decide), ra_sN (by decide), ra_sN (by decide), ra_sS]
  · rw [st, ra_sN (by decide), ra_sN (by decide), ra_sN (by decide), ra_sN (by decide), ra_sS]
  · rw [st, ra_sN (by decide), ra_sN (by decide), ra_sN (by decide), ra_sS]
end
section
/-! a week paid keeps the bounds -/
theorem z32 : (0 : Int32).toInt = 0 := rfl
def pyI (T : Nat) (u : S0) (i : Nat) (v : S0) : Prop := v.2 = u.2 ∧ v.1 0 = u.1 0 ∧ v.1 7 = u.1 7 ∧ rC T v ∧ (∀ k r : Nat, k < 7 → i ≤ r → v.1 k r = u.1 k r) ∧ ∀ r : Nat, r < i → rR (T + 1) v r ∧ v.1 1 r = 0 ∧ v.1 2 r = 0 ∧ v.1 3 r = 0
theorem rR.of {T : Nat} {u v : S0} {r : Nat} (h : rR T u r) (e : ∀ k : Nat, k < 7 → v.1 k r = u.1 k r) : rR T v r := by
  unfold rR
  rw [e 0 (by decide), e 1 (by decide), e 2 (by decide), e 3 (by decide), e 4 (by decide), e 5 (by decide), e 6 (by decide)]
  exact h
theorem rV.of {u v : S0} (h : rV u) (e : v.1 7 = u.1 7) : rV v := by
  unfold rV
  rw [e]
  exact h
theorem pyI_0 {T : Nat} {u : S0} (B : rB T u) : pyI T u 0 u := ⟨rfl, rfl, rfl, B.2.2.2.1, fun _ _ _ _ => rfl, fun r h => absurd h (Nat.not_lt_zero r)⟩
theorem pyI_R {T : Nat} {u v : S0} {i r : Nat} (B : rB T u) (h : pyI T u i v) (hi : i ≤ r) (hr : r < 8) : rR T v r := (B.2.2.2.2.1 r hr).of fun k hk => h.2.2.2.2.1 k r hk hi
theorem st_R {T : Nat} {v : S0} {i : Nat} (V : rV v) (hT : T ≤ 400) (C : rC T v) (R : rR T v i) : rR (T + 1) (rf_st v i) i := by
  obtain ⟨t2, t8, t13, to, t0, t7, t1, t2', t3, t4, t5, t6, tsv⟩ := st_rows (u := v) (r := i)
  have hp : ∀ c : Nat, c < 3 → 0 ≤ (v.1 8 c).toInt := fun c hc => (C c hc).1
  have Lt := L_t V R hT
  have ct := cm_t V R hT
  have kt := tk_t V R hT
  have wt := ww_bd V R hT
  obtain ⟨k0, k1, k2, k3, k4⟩ := ks_all Lt.2 hp
  obtain ⟨r0, r1, r2, r3, r4, r5, r6, r7⟩ := R
  have e4 : (v.1 4 i - rf_tk v i).toInt = (v.1 4 i).toInt - (rf_tk v i).toInt := tI_sub (by omega) (by omega)
  have e5 : (rl_L v i - ks (rl_L v i) (v.1 8) 3).toInt = (rl_L v i).toInt - (ks (rl_L v i) (v.1 8) 3).toInt := tI_sub (by omega) (by omega)
  have e6 : (v.1 6 i + (rl_L v i - ks (rl_L v i) (v.1 8) 3)).toInt = (v.1 6 i).toInt + ((rl_L v i).toInt - (ks (rl_L v i) (v.1 8) 3).toInt) := by
    rw [tI_add (by rw [e5]; omega) (by rw [e5]; omega), e5]
  unfold rR
  rw [t0, t1, t2', t3, t4, t5, t6, e4, e6, z32]
  refine ⟨r0, by omega, by omega, by omega, by omega, by omega, by omega, by omega⟩
theorem st_C {T : Nat} {v : S0} {i : Nat} (V : rV v) (hT : T ≤ 400) (C : rC T v) (R : rR T v i) : ∀ c : Nat, c < 3 → ((rf_st v i).1 8 c).toInt = (v.1 8 c).toInt - (km (rl_L v i) (v.1 8) c).toInt ∧ 0 ≤ ((rf_st v i).1 8 c).toInt ∧ 0 ≤ (km (rl_L v i) (v.1 8) c).toInt := by
  intro c hc
  obtain ⟨t2, t8, -⟩ := st_rows (u := v) (r := i)
  have hp : ∀ c : Nat, c < 3 → 0 ≤ (v.1 8 c).toInt := fun c hc => (C c hc).1
  have Lt := L_t V R hT
  obtain ⟨k0, k1, k2, k3, k4⟩ := ks_all Lt.2 hp
  have hk : 0 ≤ (km (rl_L v i) (v.1 8) c).toInt ∧ (km (rl_L v i) (v.1 8) c).toInt ≤ (v.1 8 c).toInt := by
    rcases (show c = 0 ∨ c = 1 ∨ c = 2 by omega) with rfl | rfl | rfl
    · exact k0
    · exact k1
    · exact k2
  have b := (C c hc)
  rw [t8 c, if_pos hc, tI_sub (by omega) (by omega)]
  omega
theorem pyI_1 {T : Nat} {u v : S0} {i : Nat} (B : rB T u) (hi : i < u.2.1) (h : pyI T u i v) : pyI T u (i + 1) (rf_st v i) := by
  have h8 := B.1
  have hT := B.2.1
  have V : rV v := B.2.2.1.of h.2.2.1
  have R := pyI_R B h (Nat.le_refl i) (by omega)
  have sR := st_R V hT h.2.2.2.1 R
  have sC := st_C V hT h.2.2.2.1 R
  obtain ⟨t2, t8, t13, to, t0, t7, t1, t2', t3, -⟩ := st_rows (u := v) (r := i)
  obtain ⟨a2, a0, a7, aC, ak, ar⟩ := h
  refine ⟨t2.trans a2, t0.trans a0, t7.trans a7, fun c hc => ?_, fun k r hk hr => ?_, fun r hr => ?_⟩
  · have := sC c hc
    have := aC c hc
    omega
  · rw [to k r (by omega) (by omega)]
    exact ak k r hk (by omega)
  · by_cases e : r = i
    · subst e
      exact ⟨sR, t1, t2', t3⟩
    · obtain ⟨b1, b2, b3, b4⟩ := ar r (by omega)
      exact ⟨b1.of fun k hk => to k r (by omega) e, by rw [to 1 r (by decide) e, b2], by rw [to 2 r (by decide) e, b3], by rw [to 3 r (by decide) e, b4]⟩
theorem pyI_py {T : Nat} {u : S0} (B : rB T u) : ∀ i : Nat, i ≤ u.2.1 → pyI T u i (rf_py u i).2
  | 0, _ => pyI_0 B
  | i + 1, h => pyI_1 B h (pyI_py B i (Nat.le_of_succ_le h))
theorem pyI_B {T : Nat} {u v : S0} {i : Nat} (B : rB T u) (hT : T + 1 ≤ 400) (hi : i ≤ u.2.1) (h : pyI T u i v) : rB (T + 1) v := by
  obtain ⟨a2, a0, a7, aC, ak, ar⟩ := id h
  refine ⟨by rw [a2]; exact B.1, hT, B.2.2.1.of a7, fun c hc => ?_, fun r hr => ?_, fun r k hr h8 hk1 hk7 => ?_⟩
  · have := aC c hc
    omega
  · by_cases hri : r < i
    · exact (ar r hri).1
    · exact (pyI_R B h (by omega) hr).mono (by omega)
  · rw [a2] at hr
    rw [ak k r hk7 (by omega)]
    exact B.2.2.2.2.2 r k hr h8 hk1 hk7
/-- the class's state behind a week -/
def rf_pay (u : S0) : S0 := ((rf_py u u.2.1).2.1, u.2.1, u.2.2 + 1)
theorem rB_pay {T : Nat} {u : S0} (B : rB T u) (hT : T + 1 ≤ 400) : rB (T + 1) (rf_pay u) := by
  have h := pyI_B B hT (Nat.le_refl _) (pyI_py B u.2.1 (Nat.le_refl _))
  have e : (rf_py u u.2.1).2.2.1 = u.2.1 := congrArg Prod.fst (pyI_py B u.2.1 (Nat.le_refl _)).1
  obtain ⟨h1, h2, h3, h4, h5, h6⟩ := h
  exact ⟨B.1, h2, h3, h4, h5, fun r k hr => h6 r k (by rw [e]; exact hr)⟩
/-! the sim's steps -/
def sw (y : S0) (i c : Nat) (a b : Int32) : S0 := ra_s (ra_s y 8 c a) 6 i b
theorem ra_ext {u v : S0} (h : ∀ k j : Nat, u.1 k j = v.1 k j) (h2 : u.2 = v.2) : u = v := Prod.ext (funext fun k => funext fun j => h k j) h2
theorem ra_sv {u : S0} {k i : Nat} {x : Int32} {a b : Nat} : (ra_s u k i x).1 a b = if a = k ∧ b = i then x else u.1 a b := by
  by_cases h : a = k ∧ b = i
  · obtain ⟨rfl, rfl⟩ := h
    rw [ra_sS, if_pos ⟨rfl, rfl⟩]
  · rw [if_neg h]
    by_cases ha : a = k
    · exact ra_sO fun hb => h ⟨ha, hb⟩
    · rw [ra_sN ha]
theorem sw_1 {y : S0} {i c : Nat} {a b a' : Int32} : ra_s (sw y i c a b) 8 c a' = sw y i c a' b := by
  unfold sw
  refine ra_ext (fun k j => ?_) rfl
  rw [ra_sv, ra_sv, ra_sv, ra_sv, ra_sv]
  split <;> split <;> try split
  all_goals first | rfl | omega
theorem sw_2 {y : S0} {i c : Nat} {a b b' : Int32} : ra_s (sw y i c a b) 6 i b' = sw y i c a b' := by
  unfold sw
  refine ra_ext (fun k j => ?_) rfl
  rw [ra_sv, ra_sv, ra_sv, ra_sv, ra_sv]
  by_cases h : k = 6 ∧ j = i
  · rw [if_pos h, if_pos h]
  · simp only [if_neg h]
theorem sw_8 {y : S0} {i c : Nat} {a b : Int32} : (sw y i c a b).1 8 c = a := by
  unfold sw
  rw [ra_sN (by decide), ra_sS]
theorem sw_6 {y : S0} {i c : Nat} {a b : Int32} : (sw y i c a b).1 6 i = b := by
  unfold sw
  rw [ra_sS]
theorem sw_0 {y : S0} {i c : Nat} {a b : Int32} (ha : a = y.1 8 c) (hb : b = y.1 6 i) : sw y i c a b = y := by
  unfold sw
  refine ra_ext (fun k j => ?_) rfl
  rw [ra_sv, ra_sv]
  split
  · rename_i h
    rw [h.1, h.2, hb]
  · split
    · rename_i h
      rw [h.1, h.2, ha]
    · rfl
def gw (g : Nat → Nat → Int32) (i c : Nat) (x : Int32) : Nat → Nat → Int32 := va_up g i (upd (g i) c x)
theorem gw_v {g : Nat → Nat → Int32} {i c k j : Nat} {x : Int32} : gw g i c x k j = if k = i ∧ j = c then x else g k j := by
  unfold gw va_up upd
  by_cases h1 : k = i
  · by_cases h2 : j = c <;> simp [h1, h2]
  · simp [h1]
theorem gw_1 {g : Nat → Nat → Int32} {i c : Nat} {x x' : Int32} : va_up (gw g i c x) i (upd (gw g i c x i) c x') = gw g i c x' := by
  show gw (gw g i c x) i c x' = _
  funext k j
  rw [gw_v, gw_v, gw_v]
  split <;> rfl
theorem gw_0 {g : Nat → Nat → Int32} {i c : Nat} {x : Int32} (h : g i c = x) : gw g i c x = g := by
  funext k j
  rw [gw_v]
  split
  · rename_i e
    rw [e.1, e.2, h]
  · rfl
theorem gw_s {g : Nat → Nat → Int32} {i c : Nat} {x : Int32} : gw g i c x i c = x := by
  rw [gw_v, if_pos ⟨rfl, rfl⟩]
theorem rs_congr {cI cR : ClassId} {o : Nat} {z : SA} {u v : S0} (h2 : u.2 = v.2) (h7 : u.1 7 = v.1 7) (h8 : u.1 8 = v.1 8) (hr : ∀ j k : Nat, j < 7 → k < u.2.1 → u.1 j k = v.1 j k) : rs_w cI cR o z u = rs_w cI cR o z v := by
  have e1 : u.2.1 = v.2.1 := congrArg Prod.fst h2
  have e2 : u.2.2 = v.2.2 := congrArg Prod.snd h2
  have h : rs_h cI cR o z u = rs_h cI cR o z v := by
    unfold rs_h rs_f
    rw [h7, h8, e1, e2]
  show rs_h cI cR o z u ++ fam u.2.1 (rq_e z u) = rs_h cI cR o z v ++ fam v.2.1 (rq_e z v)
  rw [h, ← e1]
  refine congrArg (rs_h cI cR o z v ++ ·) (fam_congr fun k hk => ?_)
  unfold rq_e rq_f
  rw [hr 0 k (by decide) hk, hr 1 k (by decide) hk, hr 2 k (by decide) hk, hr 3 k (by decide) hk, hr 4 k (by decide) hk, hr 5 k (by decide) hk, hr 6 k (by decide) hk]
/-- the sim behind a reaper paid -/
def sm_st (v : S0) (i : Nat) (y3 : S0) (left : Int32) : S0 := ra_s (ra_s (ra_s (ra_s y3 5 i left) 1 i 0) 2 i 0) 3 i 0
def sm_y (v : S0) (i : Nat) : Nat → S0
  | 0 => ra_s v 4 i (v.1 4 i - rf_tk v i)
  | c + 1 => sw (sm_y v i c) i c ((sm_y v i c).1 8 c - km (rl_L v i) (v.1 8) c) ((sm_y v i c).1 6 i + km (rl_L v i) (v.1 8) c * rt_RX0_COIN_WORTH c)
theorem i32_b (a l k m w : Int32) : a + (l - k) + m * w = a + (l - (k - m * w)) := by grind
theorem i32_c (a l : Int32) : a = a + (l - l) := by grind
theorem sm_8 {v : S0} {i : Nat} : ∀ c j : Nat, (sm_y v i c).1 8 j = if j < c then v.1 8 j - km (rl_L v i) (v.1 8) j else v.1 8 j
  | 0, j => by
    show (ra_s v 4 i _).1 8 j = _
    rw [ra_sN (by decide), if_neg (Nat.not_lt_zero j)]
  | c + 1, j => by
    show (ra_s (ra_s (sm_y v i c) 8 c _) 6 i _).1 8 j = _
    rw [ra_sN (by decide)]
    by_cases e : j = c
    · subst e
      rw [ra_sS, sm_8 j j, if_neg (Nat.lt_irrefl j), if_pos (Nat.lt_succ_self j)]
    · rw [ra_sO e, sm_8 c j]
      by_cases hj : j < c
      · rw [if_pos hj, if_pos (by omega)]
      · rw [if_neg hj, if_neg (by omega)]
theorem sm_6 {v : S0} {i : Nat} : ∀ c : Nat, (sm_y v i c).1 6 i = v.1 6 i + (rl_L v i - ks (rl_L v i) (v.1 8) c)
  | 0 => by
    show (ra_s v 4 i _).1 6 i = v.1 6 i + (rl_L v i - rl_L v i)
    rw [ra_sN (by decide)]
    exact i32_c _ _
  | c + 1 => by
    show (ra_s _ 6 i ((sm_y v i c).1 6 i + km (rl_L v i) (v.1 8) c * rt_RX0_COIN_WORTH c)).1 6 i = _
    rw [ra_sS, sm_6 c, ks_1]
    exact i32_b _ _ _ _ _
theorem sm_o {v : S0} {i : Nat} : ∀ c k j : Nat, k ≠ 8 → (k = 4 → j ≠ i) → (k = 6 → j ≠ i) → (sm_y v i c).1 k j = v.1 k j
  | 0, k, j, _, h4, _ => by
    show (ra_s v 4 i _).1 k j = _
    by_cases e : k = 4
    · exact ra_sO (h4 e)
    · rw [ra_sN e]
  | c + 1, k, j, h8, h4, h6 => by
    show (ra_s (ra_s (sm_y v i c) 8 c _) 6 i _).1 k j = _
    by_cases e : k = 6
    · rw [ra_sO (h6 e), ra_sN h8]
      exact sm_o c k j h8 h4 h6
    · rw [ra_sN e, ra_sN h8]
      exact sm_o c k j h8 h4 h6
theorem sm_4 {v : S0} {i : Nat} : ∀ c : Nat, (sm_y v i c).1 4 i = v.1 4 i - rf_tk v i
  | 0 => by
    show (ra_s v 4 i _).1 4 i = _
    rw [ra_sS]
  | c + 1 => by
    show (ra_s (ra_s (sm_y v i c) 8 c _) 6 i _).1 4 i = _
    rw [ra_sN (by decide), ra_sN (by decide)]
    exact sm_4 c
theorem sm_2 {v : S0} {i : Nat} : ∀ c : Nat, (sm_y v i c).2 = v.2
  | 0 => rfl
  | c + 1 => sm_2 (v := v) (i := i) c
theorem sm_sim {cI cR : ClassId} {o : Nat} {z : SA} {v : S0} {i : Nat} : rs_w cI cR o z (sm_st v i (sm_y v i 3) (ks (rl_L v i) (v.1 8) 3)) = rs_w cI cR o z (rf_st v i) := by
  obtain ⟨t2, t8, t13, to, t0, t7, t1, t2', t3, t4, t5, t6, tsv⟩ := st_rows (u := v) (r := i)
  refine rs_congr ?_ ?_ ?_ (fun j k hj hk => ?_)
  · unfold sm_st
    rw [ra_s2, ra_s2, ra_s2, ra_s2, sm_2, t2]
  · rw [t7]
    funext j
    unfold sm_st
    rw [ra_sN (by decide), ra_sN (by decide), ra_sN (by decide), ra_sN (by decide)]
    exact sm_o 3 7 j (by decide) (fun h => absurd h (by decide)) (fun h => absurd h (by decide))
  · funext j
    rw [t8 j]
    unfold sm_st
    rw [ra_sN (by decide), ra_sN (by decide), ra_sN (by decide), ra_sN (by decide)]
    exact sm_8 3 j
  · unfold sm_st
    by_cases e : k = i
    · subst e
      rcases (show j = 0 ∨ j = 1 ∨ j = 2 ∨ j = 3 ∨ j = 4 ∨ j = 5 ∨ j = 6 by omega) with rfl | rfl | rfl | rfl | rfl | rfl | rfl
      · rw [ra_sN (by decide), ra_sN (by decide), ra_sN (by decide), ra_sN (by decide), t0]
        exact sm_o 3 0 k (by decide) (fun h => absurd h (by decide)) (fun h => absurd h (by decide))
      · rw [ra_sN (by decide), ra_sN (by decide), ra_sS, t1]
      · rw [ra_sN (by decide), ra_sS, t2']
      · rw [ra_sS, t3]
      · rw [ra_sN (by decide), ra_sN (by decide), ra_sN (by decide), ra_sN (by decide), t4]
        exact sm_4 3
      · rw [ra_sN (by decide), ra_sN (by decide), ra_sN (by decide), ra_sS, t5]
      · rw [ra_sN (by decide), ra_sN (by decide), ra_sN (by decide), ra_sN (by decide), t6]
        exact sm_6 3
    · rw [ra_sO e, ra_sO e, ra_sO e, ra_sO e, to j k (by omega) e]
      exact sm_o 3 j k (by omega) (fun _ => e) (fun _ => e)
end
section
theorem hw_q {cI cB : ClassId} {h n : Nat} {r : Nat → Nat} {g : Nat → Nat → Int32} {q : Nat × va_E} {Y : va_W} : (hw_w cI cB h n r g ++ (q :: Y))[1 + n]? = some q := by
  have hl : (hw_w cI cB h n r g).length = 1 + n := by
    show ((h, _) :: fam n (hw_e cI r g)).length = _
    rw [List.length_cons, fam_len]
    omega
  rw [List.getElem?_append_right (by omega), hl, Nat.sub_self]
  rfl
theorem i32_d (a w : Int32) (j : Nat) : a + nI j * w + w = a + nI (j + 1) * w := by
  rw [nI_succ]
  grind
theorem i32_e (a : Int32) (j : Nat) : a - nI j - 1 = a - nI (j + 1) := by
  rw [nI_succ]
  grind
theorem i32_f (a w : Int32) (j : Nat) : a - nI j * w - w = a - nI (j + 1) * w := by
  rw [nI_succ]
  grind
section PW
variable {L p w : Int32} {M j : Nat}
theorem pw_f (hL : 0 ≤ L.toInt) (hp : 0 ≤ p.toInt) (hw : 4 ≤ w.toInt ∧ w.toInt ≤ 120) (hM : (M : Int) = min (L.toInt / w.toInt) p.toInt) (hj : j ≤ M) : (L - nI j * w).toInt = L.toInt - j * w.toInt ∧ (p - nI j).toInt = p.toInt - j ∧ (j : Int) * w.toInt ≤ L.toInt := by
  have rL := tI_rng L
  have rp := tI_rng p
  have d1 : L.toInt / w.toInt ≤ L.toInt := Int.ediv_le_self _ hL
  have hj' : (j : Int) ≤ L.toInt / w.toInt := by omega
  have e1 : (nI j).toInt = j := tI_nI (by omega)
  have h1 : (j : Int) * w.toInt ≤ L.toInt / w.toInt * w.toInt := Int.mul_le_mul_of_nonneg_right hj' (by omega)
  have h2 := mul_div_le hL (show 0 < w.toInt by omega)
  have h3 : 0 ≤ (j : Int) * w.toInt := Int.mul_nonneg (by omega) (by omega)
  have e2 : (nI j * w).toInt = j * w.toInt := by rw [tI_mul (by rw [e1]; omega) (by rw [e1]; omega), e1]
  refine ⟨?_, ?_, by omega⟩
  · rw [tI_sub (by rw [e2]; omega) (by rw [e2]; omega), e2]
  · rw [tI_sub (by rw [e1]; omega) (by rw [e1]; omega), e1]
theorem pw_go (hL : 0 ≤ L.toInt) (hp : 0 ≤ p.toInt) (hw : 4 ≤ w.toInt ∧ w.toInt ≤ 120) (hM : (M : Int) = min (L.toInt / w.toInt) p.toInt) (hj : j < M) : ¬ (L - nI j * w < w) ∧ ¬ (p - nI j ≤ 0) := by
  obtain ⟨a1, a2, a3⟩ := pw_f hL hp hw hM (Nat.le_of_lt hj)
  obtain ⟨b1, b2, b3⟩ := pw_f hL hp hw hM (show j + 1 ≤ M from hj)
  rw [show ((j + 1 : Nat) : Int) = (j : Int) + 1 by omega, Int.add_mul, Int.one_mul] at b3
  rw [tI_lt, tI_le, a1, a2]
  show ¬ _ ∧ ¬ p.toInt - j ≤ 0
  omega
theorem pw_st (hL : 0 ≤ L.toInt) (hp : 0 ≤ p.toInt) (hw : 4 ≤ w.toInt ∧ w.toInt ≤ 120) (hM : (M : Int) = min (L.toInt / w.toInt) p.toInt) (hj : j = M) : L - nI j * w < w ∨ p - nI j ≤ 0 := by
  subst hj
  obtain ⟨a1, a2, a3⟩ := pw_f hL hp hw hM (Nat.le_refl j)
  rw [tI_lt, tI_le, a1, a2]
  show _ ∨ p.toInt - j ≤ 0
  by_cases h : (j : Int) = p.toInt
  · omega
  · left
    have e : (j : Int) = L.toInt / w.toInt := by omega
    have := Int.lt_ediv_add_one_mul_self L.toInt (show 0 < w.toInt by omega)
    rw [← e, Int.add_mul, Int.one_mul] at this
    omega
end PW
set_option maxHeartbeats 4000000 in
set_option maxRecDepth 100000 in
theorem lpX2_payw {p : Program} {l : Launch} {e : Env} {s : State} {m : MethodId} {args : Array Value} {below : List Frame} {meth : Method} {c : Code} {Q : State → Prop} {D : va_G} {t : Nat → Nat} {A : Nat → Prop} {cI cR cB : ClassId} {o : Nat} {z : SA} {u : S0} {y : S0} {L S9 its : Int32} {ci rr h wq M : Nat} {r : Nat → Nat} {g : Nat → Nat → Int32} {wf : Nat → Int32} {kc nc KC NC FF LL : Nat} (C : gC p s m args meth c cX2_pay 8 RX2 D (ty3 cI cR cB) t A) (hz : z.2.2 = some h) (hu8 : y.2.1 ≤ 8) (hrr : rr < y.2.1) (hci : ci < 3) (hw : 4 ≤ (wf ci).toInt ∧ (wf ci).toInt ≤ 120) (hL : 0 ≤ L.toInt) (hp : 0 ≤ (y.1 8 ci).toInt) (hM : (M : Int) = min (L.toInt / (wf ci).toInt) (y.1 8 ci).toInt) (kk : ∀ (H : Heap) (locs : List Loc) (ls : Array Slot), sS D A s cI cR o z (sw y rr ci (y.1 8 ci - nI M) (y.1 6 rr + nI M * wf ci)) (hw_w cI cB h y.2.1 r (gw g rr ci (nI M)) ++ [(wq, .inl (cI, 3, .inl wf))]) H locs → lv_has ls 8 [(0, .ref o), (1, .int (S9 + nI M * wf ci)), (2, .int (nI rr)), (3, .ref (z.2.1 rr)), (4, .int its), (5, .int (L - nI M * wf ci)), (6, .ref wq), (7, .int (nI ci))] → W p l e (rm_ FF KC NC LL) s m args below meth c H locs kc nc Q (F0 m 177 ls [])) :
    ∀ (n i : Nat), i + n = M → ∀ (H : Heap) (locs : List Loc) (ls : Array Slot), sS D A s cI cR o z (sw y rr ci (y.1 8 ci - nI i) (y.1 6 rr + nI i * wf ci)) (hw_w cI cB h y.2.1 r (gw g rr ci (nI i)) ++ [(wq, .inl (cI, 3, .inl wf))]) H locs → lv_has ls 8 [(0, .ref o), (1, .int (S9 + nI i * wf ci)), (2, .int (nI rr)), (3, .ref (z.2.1 rr)), (4, .int its), (5, .int (L - nI i * wf ci)), (6, .ref wq), (7, .int (nI ci))] → W p l e (rm_ FF KC NC LL) s m args below meth c H locs kc nc Q (F0 m 98 ls []) := by
  have hx := C.1
  have hb := C.2.1
  have hown := C.2.2.2.1
  have hts := C.2.2.2.2.1
  intro n
  induction n with
  | zero =>
    intro i hi H locs ls S hl
    have hiN : i = M := by omega
    refine lv_iload hx hb dX2_pay_98 (lv_at hl 5 rfl) ?_
    refine lv_aload hx hb dX2_pay_100 (lv_at hl 6 rfl) ?_
    refine lv_iload hx hb dX2_pay_102 (lv_at hl 7 rfl) ?_
    refine x_ld C S (1 + y.2.1) (n := 3) (f := wf) (i := ci) hw_q (by omega) hci rfl dX2_pay_104 ?_
    refine lv_icmp_lt (tgt := 177) hx hb dX2_pay_105 (by decide) (fun c1 => ?_) (fun c1 => ?_)
    · rw [hiN] at S hl
      exact kk _ _ _ S (lv_sub hl [0, 1, 2, 3, 4, 5, 6, 7] rfl)
    · refine lv_aload_n hx hb dX2_pay_108 rfl (lv_at hl 0 rfl) ?_
      refine s_gf C S 2 (by decide) (v := .ref (z.1 1)) rfl rfl q34 dX2_pay_109 ?_
      refine lv_iload hx hb dX2_pay_112 (lv_at hl 7 rfl) ?_
      refine s_l8 C S (i := ci) hci rfl dX2_pay_114 ?_
      refine g_top (y := y.1 8 ci - nI i) sw_8 ?_
      refine lv_if_le (tgt := 177) hx hb dX2_pay_115 (by decide) (fun c2 => ?_) (fun c2 => absurd ((pw_st hL hp hw hM hiN).resolve_left c1) c2)
      rw [hiN] at S hl
      exact kk _ _ _ S (lv_sub hl [0, 1, 2, 3, 4, 5, 6, 7] rfl)
  | succ n ih =>
    intro i hi H locs ls S hl
    have hin : i < M := by omega
    refine lv_iload hx hb dX2_pay_98 (lv_at hl 5 rfl) ?_
    refine lv_aload hx hb dX2_pay_100 (lv_at hl 6 rfl) ?_
    refine lv_iload hx hb dX2_pay_102 (lv_at hl 7 rfl) ?_
    refine x_ld C S (1 + y.2.1) (n := 3) (f := wf) (i := ci) hw_q (by omega) hci rfl dX2_pay_104 ?_
    refine lv_icmp_lt (tgt := 177) hx hb dX2_pay_105 (by decide) (fun c1 => absurd c1 (fun h9 => (pw_go hL hp hw hM hin).1 h9)) (fun c1 => ?_)
    refine lv_aload_n hx hb dX2_pay_108 rfl (lv_at hl 0 rfl) ?_
    refine s_gf C S 2 (by decide) (v := .ref (z.1 1)) rfl rfl q34 dX2_pay_109 ?_
    refine lv_iload hx hb dX2_pay_112 (lv_at hl 7 rfl) ?_
    refine s_l8 C S (i := ci) hci rfl dX2_pay_114 ?_
    refine g_top (y := y.1 8 ci - nI i) sw_8 ?_
    refine lv_if_le (tgt := 177) hx hb dX2_pay_115 (by decide) (fun c2 => absurd c2 (fun h9 => (pw_go hL hp hw hM hin).2 h9)) (fun c2 => ?_)
    refine lv_iload hx hb dX2_pay_118 (lv_at hl 5 rfl) ?_
    refine lv_aload hx hb dX2_pay_120 (lv_at hl 6 rfl) ?_
    refine lv_iload hx hb dX2_pay_122 (lv_at hl 7 rfl) ?_
    refine x_ld C S (1 + y.2.1) (n := 3) (f := wf) (i := ci) hw_q (by omega) hci rfl dX2_pay_124 ?_
    refine lv_isub hx hb dX2_pay_125 ?_
    refine lv_istore (lv' := [(5, .int ((L - nI i * wf ci) - (wf ci))), (0, .ref o), (1, .int (S9 + nI i * wf ci)), (2, .int (nI rr)), (3, .ref (z.2.1 rr)), (4, .int its), (6, .ref wq), (7, .int (nI ci))]) hx hb dX2_pay_126 hl (by decide) rfl (fun ls hl => ?_)
    refine lv_aload_n hx hb dX2_pay_128 rfl (lv_at hl 1 rfl) ?_
    refine s_gf C S 2 (by decide) (v := .ref (z.1 1)) rfl rfl q34 dX2_pay_129 ?_
    refine lv_iload hx hb dX2_pay_132 (lv_at hl 7 rfl) ?_
    refine lv_dup2_11 hx hb dX2_pay_134 rfl rfl ?_
    refine s_l8 C S (i := ci) hci rfl dX2_pay_135 ?_
    refine g_top (y := y.1 8 ci - nI i) sw_8 ?_
    refine lv_iconst (v := 1) hx hb dX2_pay_136 (by decide) ?_
    refine lv_isub hx hb dX2_pay_137 ?_
    refine s_t8 C S (i := ci) hci rfl dX2_pay_138 (fun H locs S => ?_)
    rw [sw_1] at S
    refine lv_aload_n hx hb dX2_pay_139 rfl (lv_at hl 1 rfl) ?_
    refine s_gf C S 4 (by decide) (v := .ref h) (congrArg (fun q => some (va_rf q)) hz) rfl q160 dX2_pay_140 ?_
    refine lv_iload_n hx hb dX2_pay_143 rfl (lv_at hl 3 rfl) ?_
    refine x_al C S 0 (n := y.2.1) (f := fun k => some (r k)) (i := rr) rfl (by omega) hrr rfl dX2_pay_144 ?_
    refine lv_iload hx hb dX2_pay_145 (lv_at hl 7 rfl) ?_
    refine lv_dup2_11 hx hb dX2_pay_147 rfl rfl ?_
    refine x_ld C S (1 + rr) (n := 3) (f := gw g rr ci (nI i) rr) (i := ci) (hw_p hrr) (by omega) hci rfl dX2_pay_148 ?_
    refine g_top (y := nI i) gw_s ?_
    refine lv_iconst (v := 1) hx hb dX2_pay_149 (by decide) ?_
    refine lv_iadd hx hb dX2_pay_150 ?_
    refine x_st C S (1 + rr) (n := 3) (f := gw g rr ci (nI i) rr) (i := ci) (hw_p hrr) (by omega) hci rfl dX2_pay_151 (fun H locs S => ?_)
    rw [hw_s hrr, gw_1] at S
    refine lv_aload_n hx hb dX2_pay_152 rfl (lv_at hl 4 rfl) ?_
    refine lv_dup hx hb dX2_pay_153 rfl ?_
    refine r_gf C S 6 rr (by decide) hrr (v := .int ((sw y rr ci (y.1 8 ci - nI i - 1) (y.1 6 rr + nI i * wf ci)).1 6 rr)) rfl rfl q163 dX2_pay_154 ?_
    refine g_top (y := y.1 6 rr + nI i * wf ci) sw_6 ?_
    refine lv_aload hx hb dX2_pay_157 (lv_at hl 6 rfl) ?_
    refine lv_iload hx hb dX2_pay_159 (lv_at hl 7 rfl) ?_
    refine x_ld C S (1 + y.2.1) (n := 3) (f := wf) (i := ci) hw_q (by omega) hci rfl dX2_pay_161 ?_
    refine lv_iadd hx hb dX2_pay_162 ?_
    refine r_pf C S 6 rr (by decide) hrr rfl rfl (by decide +kernel) q163 dX2_pay_163 (fun H locs S => ?_)
    rw [sw_2] at S
    refine lv_iload_n hx hb dX2_pay_166 rfl (lv_at hl 2 rfl) ?_
    refine lv_aload hx hb dX2_pay_167 (lv_at hl 6 rfl) ?_
    refine lv_iload hx hb dX2_pay_169 (lv_at hl 7 rfl) ?_
    refine x_ld C S (1 + y.2.1) (n := 3) (f := wf) (i := ci) hw_q (by omega) hci rfl dX2_pay_171 ?_
    refine lv_iadd hx hb dX2_pay_172 ?_
    refine lv_istore_n (lv' := [(1, .int ((S9 + nI i * wf ci) + (wf ci))), (5, .int ((L - nI i * wf ci) - (wf ci))), (0, .ref o), (2, .int (nI rr)), (3, .ref (z.2.1 rr)), (4, .int its), (6, .ref wq), (7, .int (nI ci))]) hx hb dX2_pay_173 rfl hl (by decide) rfl (fun ls hl => ?_)
    refine lv_goto (tgt := 98) hx hb dX2_pay_174 (by decide) ?_
    rw [i32_d, i32_e, nI_1] at S
    have hl : lv_has ls 8 [(1, .int (S9 + nI (i + 1) * wf ci)), (5, .int (L - nI (i + 1) * wf ci)), (0, .ref o), (2, .int (nI rr)), (3, .ref (z.2.1 rr)), (4, .int its), (6, .ref wq), (7, .int (nI ci))] := by rw [← i32_d, ← i32_f]; exact hl
    exact ih (i + 1) (by omega) _ _ _ S (lv_sub hl [2, 0, 3, 4, 5, 1, 6, 7] rfl)
end
section
theorem i32_g (a w : Int32) : a + nI 0 * w = a := by
  rw [nI_0]
  grind
theorem i32_h (a : Int32) : a - nI 0 = a := by
  rw [nI_0]
  grind
theorem i32_i (a w : Int32) : a - nI 0 * w = a := by
  rw [nI_0]
  grind
theorem hw_qs {cI cB : ClassId} {h n : Nat} {r : Nat → Nat} {g : Nat → Nat → Int32} {q q' : Nat × va_E} : (hw_w cI cB h n r g ++ [q]).set (1 + n) q' = hw_w cI cB h n r g ++ [q'] := by
  have hl : (hw_w cI cB h n r g).length = 1 + n := by
    show ((h, _) :: fam n (hw_e cI r g)).length = _
    rw [List.length_cons, fam_len]
    omega
  rw [List.set_append_right _ _ (by omega), hl, Nat.sub_self]
  rfl
theorem st_sv {u : S0} {r : Nat} : rf_sv u r = rl_L u r - ks (rl_L u r) (u.1 8) 3 := st_rows.2.2.2.2.2.2.2.2.2.2.2.2
theorem kd_X2_pay : yX2_pay.cls = yX2_pay.cls ∧ yX2_pay.cls ≠ "java/lang/invoke/MethodHandle" ∧ yX2_pay.cls ≠ "java/lang/invoke/VarHandle" ∧ (parseMethodDescriptor yX2_pay.desc).map (fun d => d.parameters.length) = some 0 := by decide +kernel
set_option maxHeartbeats 4000000 in
set_option maxRecDepth 100000 in
theorem lpX2_payc {p : Program} {l : Launch} {e : Env} {s : State} {m : MethodId} {args : Array Value} {below : List Frame} {meth : Method} {c : Code} {Q : State → Prop} {D : va_G} {t : Nat → Nat} {A : Nat → Prop} {cI cR cB : ClassId} {o : Nat} {z : SA} {H : Heap} {locs : List Loc} {ls : Array Slot} {v : S0} {sm its : Int32} {ci rr h wq T kc nc KC NC FF LL : Nat} {r : Nat → Nat} {g : Nat → Nat → Int32} {wf : Nat → Int32} (C : gC p s m args meth c cX2_pay 8 RX2 D (ty3 cI cR cB) t A) (hz : z.2.2 = some h) (hu8 : v.2.1 ≤ 8) (hrr : rr < v.2.1) (hci : ci < 3) (hwf : wf ci = rt_RX0_COIN_WORTH ci) (hg : g rr ci = 0) (V : rV v) (hT : T ≤ 400) (R : rR T v rr) (Cc : rC T v)
    (S : sS D A s cI cR o z (sm_y v rr ci) (hw_w cI cB h v.2.1 r g ++ [(wq, .inl (cI, 3, .inl wf))]) H locs) (hl : lv_has ls 8 [(0, .ref o), (1, .int (sm + (rl_L v rr - ks (rl_L v rr) (v.1 8) ci))), (2, .int (nI rr)), (3, .ref (z.2.1 rr)), (4, .int its), (5, .int (ks (rl_L v rr) (v.1 8) ci)), (6, .ref wq), (7, .int (nI ci))]) (kk : ∀ (H : Heap) (locs : List Loc) (ls : Array Slot), sS D A s cI cR o z (sm_y v rr (ci + 1)) (hw_w cI cB h v.2.1 r (gw g rr ci (km (rl_L v rr) (v.1 8) ci)) ++ [(wq, .inl (cI, 3, .inl wf))]) H locs → lv_has ls 8 [(0, .ref o), (1, .int (sm + (rl_L v rr - ks (rl_L v rr) (v.1 8) (ci + 1)))), (2, .int (nI rr)), (3, .ref (z.2.1 rr)), (4, .int its), (5, .int (ks (rl_L v rr) (v.1 8) (ci + 1))), (6, .ref wq), (7, .int (nI ci))] → W p l e (rm_ FF KC NC LL) s m args below meth c H locs kc nc Q (F0 m 177 ls [])) : W p l e (rm_ FF KC NC LL) s m args below meth c H locs kc nc Q (F0 m 98 ls []) := by
  have hp3 : ∀ c : Nat, c < 3 → 0 ≤ (v.1 8 c).toInt := fun c hc => (Cc c hc).1
  have Lt := L_t V R hT
  have kn := ks_n Lt.2 hp3
  have hL : 0 ≤ (ks (rl_L v rr) (v.1 8) ci).toInt := by
    rcases (show ci = 0 ∨ ci = 1 ∨ ci = 2 by omega) with rfl | rfl | rfl
    · exact Lt.2
    · exact kn.1
    · exact kn.2.1
  have kt := km_t hp3 hci hL
  have e8 : (sm_y v rr ci).1 8 ci = v.1 8 ci := by rw [sm_8, if_neg (Nat.lt_irrefl ci)]
  have en : (sm_y v rr ci).2.1 = v.2.1 := congrArg Prod.fst (sm_2 ci)
  have hw := cw_b hci
  rw [← hwf] at hw kt
  have eM : ((km (rl_L v rr) (v.1 8) ci).toInt.toNat : Int) = (km (rl_L v rr) (v.1 8) ci).toInt := Int.toNat_of_nonneg kt.2.1
  have rk := tI_rng (km (rl_L v rr) (v.1 8) ci)
  have eK : nI (km (rl_L v rr) (v.1 8) ci).toInt.toNat = km (rl_L v rr) (v.1 8) ci := by
    rw [tI_eq, tI_nI (by omega), eM]
  have key := lpX2_payw (z := z) (o := o) (u := v) (y := sm_y v rr ci) (L := ks (rl_L v rr) (v.1 8) ci) (S9 := sm + (rl_L v rr - ks (rl_L v rr) (v.1 8) ci)) (its := its) (ci := ci) (rr := rr) (h := h) (wq := wq) (M := (km (rl_L v rr) (v.1 8) ci).toInt.toNat) (r := r) (g := g) (wf := wf) (kc := kc) (nc := nc) (KC := KC) (NC := NC) (FF := FF) (LL := LL) (l := l) (e := e) (Q := Q) (below := below) C hz (by rw [en]; exact hu8) (by rw [en]; exact hrr) hci hw hL (by rw [e8]; exact hp3 ci hci) (by rw [e8, eM]; exact kt.1)
  rw [eK, en] at key
  refine key (fun H locs ls S hl => ?_) _ 0 (Nat.zero_add _) _ _ _ ?_ ?_
  · rw [hwf] at S hl
    exact kk _ _ _ S (by rw [i32_b] at hl; exact hl)
  · rw [sw_0 (i32_h _) (i32_g _ _), gw_0 (by rw [nI_0]; exact hg)]
    exact S
  · rw [i32_g, i32_i]
    exact hl

set_option maxHeartbeats 4000000 in
set_option maxRecDepth 100000 in
theorem lpX2_pay {p : Program} {l : Launch} {e : Env} {s : State} {m : MethodId} {args : Array Value} {below : List Frame} {meth : Method} {c : Code} {Q : State → Prop} {D : va_G} {t : Nat → Nat} {A : Nat → Prop} {cI cR cB : ClassId} {o : Nat} {z : SA} {u : S0} {T h : Nat} {r : Nat → Nat} (C : gC p s m args meth c cX2_pay 8 RX2 D (ty3 cI cR cB) t A) (hz : z.2.2 = some h) (B0 : rB T u) (hT1 : T + 1 ≤ 400) (kk : ∀ (v : S0) (sm : Int32) (g : Nat → Nat → Int32) (H : Heap) (locs : List Loc) (ls : Array Slot), rf_py u u.2.1 = (sm, v) → (∀ k c : Nat, k < u.2.1 → c < 3 → g k c = (rf_py u (k + 1)).2.1 13 c) → (∀ k c : Nat, u.2.1 ≤ k → g k c = 0) → sS D A s cI cR o z v (hw_w cI cB h v.2.1 r g) H locs → lv_has ls 8 [(0, .ref o), (1, .int sm), (2, .int (nI u.2.1))] → W p l e (rm_ 3 17 56 67) s m args below meth c H locs (9 + u.2.1) (32 + 3 * u.2.1) Q (F0 m 210 ls [])) :
    ∀ (n i : Nat), i + n = u.2.1 → ∀ (v : S0) (sm : Int32) (g : Nat → Nat → Int32) (H : Heap) (locs : List Loc) (ls : Array Slot), rf_py u i = (sm, v) → (∀ k c : Nat, k < i → c < 3 → g k c = (rf_py u (k + 1)).2.1 13 c) → (∀ k c : Nat, i ≤ k → g k c = 0) → sS D A s cI cR o z v (hw_w cI cB h v.2.1 r g) H locs → lv_has ls 8 [(0, .ref o), (1, .int sm), (2, .int (nI i))] → W p l e (rm_ 3 17 56 67) s m args below meth c H locs (9 + i) (32 + 3 * i) Q (F0 m 18 ls []) := by
  have hx := C.1
  have hb := C.2.1
  have hown := C.2.2.2.1
  have hts := C.2.2.2.2.1
  intro n
  induction n with
  | zero =>
    intro i hi v sm g H locs ls hpy g1 g2 S hl
    have hiN : i = u.2.1 := by omega
    have en : v.2.1 = u.2.1 := by have := (pyI_py B0 i (by omega)).1; rw [hpy] at this; exact congrArg Prod.fst this
    have hv8 : v.2.1 ≤ 8 := by have := B0.1; omega
    refine lv_iload_n hx hb dX2_pay_18 rfl (lv_at hl 2 rfl) ?_
    refine lv_aload_n hx hb dX2_pay_19 rfl (lv_at hl 0 rfl) ?_
    refine s_gf C S 3 (by decide) (v := .ref (z.1 2)) rfl rfl q36 dX2_pay_20 ?_
    refine s_an C S dX2_pay_23 ?_
    refine lv_icmp_ge (tgt := 210) hx hb dX2_pay_24 (by decide) (fun c1 => ?_) (fun c1 => absurd ((nI_leI (a := v.2.1) (b := i) (by omega) (by omega)).mpr (by omega)) c1)
    rw [hiN] at hpy g1 g2 hl ⊢
    exact kk _ _ _ _ _ _ hpy g1 g2 S (lv_sub hl [0, 1, 2] rfl)
  | succ n ih =>
    intro i hi v sm g H locs ls hpy g1 g2 S hl
    have hin : i < u.2.1 := by omega
    have hIv : pyI T u i v := by have := pyI_py B0 i (by omega); rw [hpy] at this; exact this
    have en : v.2.1 = u.2.1 := congrArg Prod.fst hIv.1
    have hv8 : v.2.1 ≤ 8 := by have := B0.1; omega
    have hiv : i < v.2.1 := by omega
    have Bv : rB (T + 1) v := pyI_B B0 hT1 (by omega) hIv
    have Ri : rR (T + 1) v i := Bv.2.2.2.2.1 i (by omega)
    have B := Bv
    refine lv_iload_n hx hb dX2_pay_18 rfl (lv_at hl 2 rfl) ?_
    refine lv_aload_n hx hb dX2_pay_19 rfl (lv_at hl 0 rfl) ?_
    refine s_gf C S 3 (by decide) (v := .ref (z.1 2)) rfl rfl q36 dX2_pay_20 ?_
    refine s_an C S dX2_pay_23 ?_
    refine lv_icmp_ge (tgt := 210) hx hb dX2_pay_24 (by decide) (fun c1 => absurd c1 (fun h9 => absurd ((nI_leI (a := v.2.1) (b := i) (by omega) (by omega)).mp h9) (by omega))) (fun c1 => ?_)
    refine lv_aload_n hx hb dX2_pay_27 rfl (lv_at hl 0 rfl) ?_
    refine s_gf C S 3 (by decide) (v := .ref (z.1 2)) rfl rfl q36 dX2_pay_28 ?_
    refine lv_iload_n hx hb dX2_pay_31 rfl (lv_at hl 2 rfl) ?_
    refine s_al C S hv8 hiv rfl dX2_pay_32 ?_
    refine lv_astore_n (lv' := [(3, .ref (z.2.1 i)), (0, .ref o), (1, .int sm), (2, .int (nI i))]) hx hb dX2_pay_33 rfl hl (by decide) rfl (fun ls hl => ?_)
    refine lv_aload_n hx hb dX2_pay_34 rfl (lv_at hl 1 rfl) ?_
    refine lv_aload_n hx hb dX2_pay_35 rfl (lv_at hl 0 rfl) ?_
    refine m_ci (wa := []) (wb := rs_w cI cR o z v) (wd := hw_w cI cB h v.2.1 r g) (cells' := 9 + i) (slots' := 32 + 3 * i) rfl rfl C S.1 S.2.1 S.2.2 (fun hPb hDb => g_runVj (n := 1) (As := [.ref (z.2.1 i)]) C (mX2_back l D t cI cR cB o z H.size v (T + 1) B i hiv) (rw_V q168 q169 q170 q29 q171) kd_X2_back ⟨Nat.le_of_ble_eq_true rfl, Nat.le_of_ble_eq_true rfl⟩ (ci := 2) rfl rfl 0 rfl C.2.2.2.2.2.1 hPb hDb S.2.2 hl.1 rfl rfl (Nat.le_of_ble_eq_true rfl) dX2_pay_36 ⟨(show 9 + i + 0 ≤ 17 by omega), (show 32 + 3 * i + 0 ≤ 56 by omega)⟩) (fun v w' H locs hv _ hP9 hD9 hS9 => ?_)
    obtain ⟨rfl, rfl⟩ := hv
    have S : sS D A s cI cR o z v (hw_w cI cB h v.2.1 r g) H locs := ⟨hP9, hD9, hS9⟩
    refine lv_istore (lv' := [(4, .int (rf_tk v i)), (3, .ref (z.2.1 i)), (0, .ref o), (1, .int sm), (2, .int (nI i))]) hx hb dX2_pay_39 hl (by decide) rfl (fun ls hl => ?_)
    refine lv_aload_n hx hb dX2_pay_41 rfl (lv_at hl 1 rfl) ?_
    refine lv_aload_n hx hb dX2_pay_42 rfl (lv_at hl 2 rfl) ?_
    refine s_gf C S 1 (by decide) (v := .ref (z.1 0)) rfl rfl q33 dX2_pay_43 ?_
    refine m_ci (wa := []) (wb := rs_w cI cR o z v) (wd := hw_w cI cB h v.2.1 r g) (cells' := 9 + i) (slots' := 32 + 3 * i) rfl rfl C S.1 S.2.1 S.2.2 (fun hPb hDb => g_runVj (n := 1) (As := [.ref (z.1 0)]) C (mX1_wage l D t cI cR cB o z H.size v (T + 1) B i hiv) (rw_V q172 q173 q174 q51 q175) kd_X1_wage ⟨Nat.le_of_ble_eq_true rfl, Nat.le_of_ble_eq_true rfl⟩ (ci := 1) rfl rfl (4 + i) (rs_rp hiv) C.2.2.2.2.2.1 hPb hDb S.2.2 hl.1 rfl rfl (Nat.le_of_ble_eq_true rfl) dX2_pay_46 ⟨(show 9 + i + 0 ≤ 17 by omega), (show 32 + 3 * i + 0 ≤ 56 by omega)⟩) (fun v w' H locs hv _ hP9 hD9 hS9 => ?_)
    obtain ⟨rfl, rfl⟩ := hv
    have S : sS D A s cI cR o z v (hw_w cI cB h v.2.1 r g) H locs := ⟨hP9, hD9, hS9⟩
    refine lv_aload_n hx hb dX2_pay_49 rfl (lv_at hl 1 rfl) ?_
    refine r_gf C S 5 i (by decide) hiv (v := .int (v.1 5 i)) rfl rfl q161 dX2_pay_50 ?_
    refine lv_iadd hx hb dX2_pay_53 ?_
    refine lv_iload hx hb dX2_pay_54 (lv_at hl 0 rfl) ?_
    refine lv_isub hx hb dX2_pay_56 ?_
    refine g_top (y := rl_L v i) rfl ?_
    refine lv_istore (lv' := [(5, .int (rl_L v i)), (4, .int (rf_tk v i)), (3, .ref (z.2.1 i)), (0, .ref o), (1, .int sm), (2, .int (nI i))]) hx hb dX2_pay_57 hl (by decide) rfl (fun ls hl => ?_)
    refine lv_aload_n hx hb dX2_pay_59 rfl (lv_at hl 2 rfl) ?_
    refine lv_dup hx hb dX2_pay_60 rfl ?_
    refine r_gf C S 4 i (by decide) hiv (v := .int (v.1 4 i)) rfl rfl q162 dX2_pay_61 ?_
    refine lv_iload hx hb dX2_pay_64 (lv_at hl 1 rfl) ?_
    refine lv_isub hx hb dX2_pay_66 ?_
    refine r_pf C S 4 i (by decide) hiv rfl rfl (by decide +kernel) q162 dX2_pay_67 (fun H locs S => ?_)
    have S : sS D A s cI cR o z (sm_y v i 0) (hw_w cI cB h v.2.1 r g) H locs := S
    refine lv_iconst (v := 3) hx hb dX2_pay_70 (by decide) ?_
    refine x_new C S (N := 3) rfl (by omega) q4 (cells' := 9 + i + 1) (slots' := 32 + 3 * i + 3) rfl rfl (show 9 + i + 1 ≤ 17 by omega) (show 32 + 3 * i + 3 ≤ 56 by omega) dX2_pay_71 (fun wq H S => ?_)
    refine lv_dup hx hb dX2_pay_73 rfl ?_
    refine lv_iconst (v := 0) hx hb dX2_pay_74 (by decide) ?_
    refine lv_bipush (v := 120) hx hb dX2_pay_75 (by decide) ?_
    refine x_st C S (1 + v.2.1) (n := 3) (f := (fun _ => 0)) (i := 0) hw_q (by omega) (by decide) rfl dX2_pay_77 (fun H locs S => ?_)
    rw [hw_qs] at S
    refine lv_dup hx hb dX2_pay_78 rfl ?_
    refine lv_iconst (v := 1) hx hb dX2_pay_79 (by decide) ?_
    refine lv_bipush (v := 48) hx hb dX2_pay_80 (by decide) ?_
    refine x_st C S (1 + v.2.1) (n := 3) (f := (upd (fun _ => 0) 0 120)) (i := 1) hw_q (by omega) (by decide) rfl dX2_pay_82 (fun H locs S => ?_)
    rw [hw_qs] at S
    refine lv_dup hx hb dX2_pay_83 rfl ?_
    refine lv_iconst (v := 2) hx hb dX2_pay_84 (by decide) ?_
    refine lv_iconst (v := 4) hx hb dX2_pay_85 (by decide) ?_
    refine x_st C S (1 + v.2.1) (n := 3) (f := (upd (upd (fun _ => 0) 0 120) 1 48)) (i := 2) hw_q (by omega) (by decide) rfl dX2_pay_86 (fun H locs S => ?_)
    rw [hw_qs] at S
    refine lv_astore (lv' := [(6, .ref wq), (5, .int (rl_L v i)), (4, .int (rf_tk v i)), (3, .ref (z.2.1 i)), (0, .ref o), (1, .int sm), (2, .int (nI i))]) hx hb dX2_pay_87 hl (by decide) rfl (fun ls hl => ?_)
    obtain ⟨wf, ewf⟩ : ∃ f : Nat → Int32, f = (upd (upd (upd (fun _ => 0) 0 120) 1 48) 2 4) := ⟨_, rfl⟩
    rw [← ewf] at S
    have w0 : wf 0 = rt_RX0_COIN_WORTH 0 := by rw [ewf]; rfl
    have w1 : wf 1 = rt_RX0_COIN_WORTH 1 := by rw [ewf]; rfl
    have w2 : wf 2 = rt_RX0_COIN_WORTH 2 := by rw [ewf]; rfl
    refine lv_iconst (v := 0) hx hb dX2_pay_89 (by decide) ?_
    refine lv_istore (lv' := [(7, .int 0), (6, .ref wq), (5, .int (rl_L v i)), (4, .int (rf_tk v i)), (3, .ref (z.2.1 i)), (0, .ref o), (1, .int sm), (2, .int (nI i))]) hx hb dX2_pay_90 hl (by decide) rfl (fun ls hl => ?_)
    refine lv_iload hx hb dX2_pay_92 (lv_at hl 0 rfl) ?_
    refine lv_iconst (v := 3) hx hb dX2_pay_94 (by decide) ?_
    refine lv_icmp_ge (tgt := 183) hx hb dX2_pay_95 (by decide) (fun c2 => absurd c2 (by decide)) (fun c2 => ?_)
    have hl : lv_has ls 8 [(0, .ref o), (1, .int (sm + (rl_L v i - ks (rl_L v i) (v.1 8) 0))), (2, .int (nI i)), (3, .ref (z.2.1 i)), (4, .int (rf_tk v i)), (5, .int (ks (rl_L v i) (v.1 8) 0)), (6, .ref wq), (7, .int (nI 0))] := by have h9 : lv_has ls 8 [(0, .ref o), (1, .int sm), (2, .int (nI i)), (3, .ref (z.2.1 i)), (4, .int (rf_tk v i)), (5, .int (rl_L v i)), (6, .ref wq), (7, .int (nI 0))] := lv_sub hl [5, 6, 7, 4, 3, 2, 1, 0] rfl; rw [i32_c sm (rl_L v i)] at h9; exact h9
    refine lpX2_payc (v := v) (sm := sm) (its := rf_tk v i) (ci := 0) (rr := i) (h := h) (wq := wq) (T := T + 1) (r := r) (g := g) (wf := wf) C hz hv8 hiv (by decide) w0 (by skip; exact g2 i 0 (Nat.le_refl i)) Bv.2.2.1 hT1 Ri Bv.2.2.2.1 S hl (fun H locs ls S hl => ?_)
    refine lv_iinc (v := nI 1) (lv' := [(7, .int (nI 1)), (0, .ref o), (1, .int (sm + (rl_L v i - ks (rl_L v i) (v.1 8) 1))), (2, .int (nI i)), (3, .ref (z.2.1 i)), (4, .int (rf_tk v i)), (5, .int (ks (rl_L v i) (v.1 8) 1)), (6, .ref wq)]) hx hb dX2_pay_177 hl (k := 7) rfl (nI_1 _) (by decide) rfl (fun ls hl => ?_)
    refine lv_goto (tgt := 92) hx hb dX2_pay_180 (by decide) ?_
    refine lv_iload hx hb dX2_pay_92 (lv_at hl 0 rfl) ?_
    refine lv_iconst (v := 3) hx hb dX2_pay_94 (by decide) ?_
    refine lv_icmp_ge (tgt := 183) hx hb dX2_pay_95 (by decide) (fun c3 => absurd c3 (by decide)) (fun c3 => ?_)
    have hl : lv_has ls 8 [(0, .ref o), (1, .int (sm + (rl_L v i - ks (rl_L v i) (v.1 8) 1))), (2, .int (nI i)), (3, .ref (z.2.1 i)), (4, .int (rf_tk v i)), (5, .int (ks (rl_L v i) (v.1 8) 1)), (6, .ref wq), (7, .int (nI 1))] := lv_sub hl [1, 2, 3, 4, 5, 6, 7, 0] rfl
    refine lpX2_payc (v := v) (sm := sm) (its := rf_tk v i) (ci := 1) (rr := i) (h := h) (wq := wq) (T := T + 1) (r := r) (g := (gw g i 0 (km (rl_L v i) (v.1 8) 0))) (wf := wf) C hz hv8 hiv (by decide) w1 (by rw [gw_v, if_neg (fun h9 => absurd h9.2 (by decide))]; exact g2 i 1 (Nat.le_refl i)) Bv.2.2.1 hT1 Ri Bv.2.2.2.1 S hl (fun H locs ls S hl => ?_)
    refine lv_iinc (v := nI 2) (lv' := [(7, .int (nI 2)), (0, .ref o), (1, .int (sm + (rl_L v i - ks (rl_L v i) (v.1 8) 2))), (2, .int (nI i)), (3, .ref (z.2.1 i)), (4, .int (rf_tk v i)), (5, .int (ks (rl_L v i) (v.1 8) 2)), (6, .ref wq)]) hx hb dX2_pay_177 hl (k := 7) rfl (nI_1 _) (by decide) rfl (fun ls hl => ?_)
    refine lv_goto (tgt := 92) hx hb dX2_pay_180 (by decide) ?_
    refine lv_iload hx hb dX2_pay_92 (lv_at hl 0 rfl) ?_
    refine lv_iconst (v := 3) hx hb dX2_pay_94 (by decide) ?_
    refine lv_icmp_ge (tgt := 183) hx hb dX2_pay_95 (by decide) (fun c4 => absurd c4 (by decide)) (fun c4 => ?_)
    have hl : lv_has ls 8 [(0, .ref o), (1, .int (sm + (rl_L v i - ks (rl_L v i) (v.1 8) 2))), (2, .int (nI i)), (3, .ref (z.2.1 i)), (4, .int (rf_tk v i)), (5, .int (ks (rl_L v i) (v.1 8) 2)), (6, .ref wq), (7, .int (nI 2))] := lv_sub hl [1, 2, 3, 4, 5, 6, 7, 0] rfl
    refine lpX2_payc (v := v) (sm := sm) (its := rf_tk v i) (ci := 2) (rr := i) (h := h) (wq := wq) (T := T + 1) (r := r) (g := (gw (gw g i 0 (km (rl_L v i) (v.1 8) 0)) i 1 (km (rl_L v i) (v.1 8) 1))) (wf := wf) C hz hv8 hiv (by decide) w2 (by rw [gw_v, if_neg (fun h9 => absurd h9.2 (by decide)), gw_v, if_neg (fun h9 => absurd h9.2 (by decide))]; exact g2 i 2 (Nat.le_refl i)) Bv.2.2.1 hT1 Ri Bv.2.2.2.1 S hl (fun H locs ls S hl => ?_)
    refine lv_iinc (v := nI 3) (lv' := [(7, .int (nI 3)), (0, .ref o), (1, .int (sm + (rl_L v i - ks (rl_L v i) (v.1 8) 3))), (2, .int (nI i)), (3, .ref (z.2.1 i)), (4, .int (rf_tk v i)), (5, .int (ks (rl_L v i) (v.1 8) 3)), (6, .ref wq)]) hx hb dX2_pay_177 hl (k := 7) rfl (nI_1 _) (by decide) rfl (fun ls hl => ?_)
    refine lv_goto (tgt := 92) hx hb dX2_pay_180 (by decide) ?_
    refine lv_iload hx hb dX2_pay_92 (lv_at hl 0 rfl) ?_
    refine lv_iconst (v := 3) hx hb dX2_pay_94 (by decide) ?_
    refine lv_icmp_ge (tgt := 183) hx hb dX2_pay_95 (by decide) (fun c5 => ?_) (fun c5 => absurd (by decide) c5)
    refine lv_aload_n hx hb dX2_pay_183 rfl (lv_at hl 4 rfl) ?_
    refine lv_iload hx hb dX2_pay_184 (lv_at hl 6 rfl) ?_
    refine r_pf C S 5 i (by decide) hiv rfl rfl (by decide +kernel) q161 dX2_pay_186 (fun H locs S => ?_)
    refine lv_aload_n hx hb dX2_pay_189 rfl (lv_at hl 4 rfl) ?_
    refine lv_iconst (v := 0) hx hb dX2_pay_190 (by decide) ?_
    refine r_pf C S 1 i (by decide) hiv rfl rfl (by decide +kernel) q164 dX2_pay_191 (fun H locs S => ?_)
    refine lv_aload_n hx hb dX2_pay_194 rfl (lv_at hl 4 rfl) ?_
    refine lv_iconst (v := 0) hx hb dX2_pay_195 (by decide) ?_
    refine r_pf C S 2 i (by decide) hiv rfl rfl (by decide +kernel) q165 dX2_pay_196 (fun H locs S => ?_)
    refine lv_aload_n hx hb dX2_pay_199 rfl (lv_at hl 4 rfl) ?_
    refine lv_iconst (v := 0) hx hb dX2_pay_200 (by decide) ?_
    refine r_pf C S 3 i (by decide) hiv rfl rfl (by decide +kernel) q166 dX2_pay_201 (fun H locs S => ?_)
    have S : sS D A s cI cR o z (sm_st v i (sm_y v i 3) (ks (rl_L v i) (v.1 8) 3)) (hw_w cI cB h v.2.1 r (gw (gw (gw g i 0 (km (rl_L v i) (v.1 8) 0)) i 1 (km (rl_L v i) (v.1 8) 1)) i 2 (km (rl_L v i) (v.1 8) 2)) ++ [(wq, .inl (cI, 3, .inl wf))]) H locs := S
    have S := (S.E sm_sim).drop
    refine lv_iinc (v := nI (i + 1)) (lv' := [(2, .int (nI (i + 1))), (7, .int (nI 3)), (0, .ref o), (1, .int (sm + (rl_L v i - ks (rl_L v i) (v.1 8) 3))), (3, .ref (z.2.1 i)), (4, .int (rf_tk v i)), (5, .int (ks (rl_L v i) (v.1 8) 3)), (6, .ref wq)]) hx hb dX2_pay_204 hl (k := 3) rfl (nI_1 _) (by decide) rfl (fun ls hl => ?_)
    refine lv_goto (tgt := 18) hx hb dX2_pay_207 (by decide) ?_
    refine W.widen (k := 9 + (i + 1)) (n := 32 + 3 * (i + 1)) (by omega) (by omega) ?_
    have epy : rf_py u (i + 1) = (sm + (rl_L v i - ks (rl_L v i) (v.1 8) 3), rf_st v i) := by
      show ((rf_py u i).1 + rf_sv (rf_py u i).2 i, rf_st (rf_py u i).2 i) = _
      rw [hpy, st_sv]
    refine ih (i + 1) (by omega) (rf_st v i) _ _ _ _ _ epy (fun k c hk hc => ?_) (fun k c hk => ?_) S (lv_sub hl [2, 3, 0] rfl)
    · by_cases ek : k = i
      · subst ek
        rw [epy]
        show _ = (rf_st v k).1 13 c
        rw [st_rows.2.2.1 c, if_pos hc]
        rcases (show c = 0 ∨ c = 1 ∨ c = 2 by omega) with rfl | rfl | rfl
        · rw [gw_v, if_neg (fun h9 => absurd h9.2 (by decide)), gw_v, if_neg (fun h9 => absurd h9.2 (by decide)), gw_s]
        · rw [gw_v, if_neg (fun h9 => absurd h9.2 (by decide)), gw_s]
        · rw [gw_s]
      · rw [gw_v, if_neg (fun h9 => ek h9.1), gw_v, if_neg (fun h9 => ek h9.1), gw_v, if_neg (fun h9 => ek h9.1)]
        exact g1 k c (by omega) hc
    · rw [gw_v, if_neg (fun h9 => absurd h9.1 (by omega)), gw_v, if_neg (fun h9 => absurd h9.1 (by omega)), gw_v, if_neg (fun h9 => absurd h9.1 (by omega))]
      exact g2 k c (by omega)
set_option maxHeartbeats 4000000 in
set_option maxRecDepth 100000 in
theorem mX2_pay (l : Launch) (D : va_G) (t : Nat → Nat) (cI cR cB : ClassId) (o : Nat) (z : SA) (sz : Nat) (u : S0) (T : Nat) (B : rB T u) (hT1 : T + 1 ≤ 400) : gMi l yX2_pay (rw_ yX2_pay cX2_pay 8 (some .int)) (rm_ 3 17 56 67) [.ref o] D (ty3 cI cR cB) t (rs_w cI cR o z u) sz (fun x w' => x = (rf_py u u.2.1).1 ∧ ∃ (h : Nat) (r : Nat → Nat) (g : Nat → Nat → Int32), (∀ k c : Nat, k < u.2.1 → c < 3 → g k c = (rf_py u (k + 1)).2.1 13 c) ∧ w' = rs_w cI cR o (z.1, z.2.1, some h) (rf_pay u) ++ hw_w cI cB h u.2.1 r g) := by
  refine g_of (cc := cX2_pay) (nL := 8) (rt := (some .int)) (Q := fun A => va_Qi _ (fun w' U => gQ D A w' U) A) (by decide) (Nat.le_of_ble_eq_true rfl) (fun p e s m args below meth c A ls H C hrt hnm hS hP hD hl => ?_)
  have hx := C.1
  have hb := C.2.1
  have hown := C.2.2.2.1
  have hts := C.2.2.2.2.1
  have hl : lv_has ls 8 [(0, .ref o)] := hl
  have S : sS D A s cI cR o z u [] H [] := ⟨by rw [List.append_nil]; exact hP, by rw [List.append_nil]; exact hD, hS⟩
  obtain ⟨locs, elocs⟩ : ∃ z : List Loc, z = [] := ⟨_, rfl⟩
  rw [← elocs] at S ⊢
  refine lv_iconst (v := 0) hx hb dX2_pay_0 (by decide) ?_
  refine lv_istore_n (lv' := [(1, .int 0), (0, .ref o)]) hx hb dX2_pay_1 rfl hl (by decide) rfl (fun ls hl => ?_)
  refine lv_aload_n hx hb dX2_pay_2 rfl (lv_at hl 1 rfl) ?_
  refine lv_aload_n hx hb dX2_pay_3 rfl (lv_at hl 1 rfl) ?_
  refine s_gf C S 3 (by decide) (v := .ref (z.1 2)) rfl rfl q36 dX2_pay_4 ?_
  refine s_an C S dX2_pay_7 ?_
  refine lv_iconst (v := 3) hx hb dX2_pay_8 (by decide) ?_
  refine x_mna C S (N := u.2.1) rfl (by have := B.1; omega) q159 (C.2.2.2.2.2.2.2.1.2.2.2.2.2.2.2.2.2.2.1) (cells' := 0 + (1 + u.2.1)) (slots' := 0 + (u.2.1 + u.2.1 * 3)) rfl rfl (show 0 + (1 + u.2.1) ≤ 17 by have := B.1; omega) (show 0 + (u.2.1 + u.2.1 * 3) ≤ 56 by have := B.1; omega) dX2_pay_9 (fun h r H locs S => ?_)
  refine s_pz C S q160 dX2_pay_13 (fun H locs S => ?_)
  refine lv_iconst (v := 0) hx hb dX2_pay_16 (by decide) ?_
  refine lv_istore_n (lv' := [(2, .int 0), (1, .int 0), (0, .ref o)]) hx hb dX2_pay_17 rfl hl (by decide) rfl (fun ls hl => ?_)
  refine W.widen (k := 9 + 0) (n := 32 + 3 * 0) (by have := B.1; omega) (by have := B.1; omega) ?_
  rw [List.nil_append] at S
  refine lpX2_pay (z := (z.1, z.2.1, some h)) C rfl B hT1 (fun v sm g H locs ls hpy g1 g2 S hl => ?_) u.2.1 0 (by omega) u 0 (fun _ _ => 0) _ _ _ rfl (fun k c hk => absurd hk (Nat.not_lt_zero k)) (fun _ _ _ => rfl) S (lv_sub hl [2, 1, 0] rfl)
  have epv : (rf_py u u.2.1).2 = v := by rw [hpy]
  have eps : (rf_py u u.2.1).1 = sm := by rw [hpy]
  have en : v.2 = u.2 := by rw [← epv]; exact (pyI_py B u.2.1 (Nat.le_refl _)).1
  refine W.widen (k := 17) (n := 56) (by have := B.1; omega) (by have := B.1; omega) ?_
  refine lv_aload_n hx hb dX2_pay_210 rfl (lv_at hl 0 rfl) ?_
  refine lv_dup hx hb dX2_pay_211 rfl ?_
  refine s_gf C S 0 (by decide) (v := .int v.2.2) rfl rfl q167 dX2_pay_212 ?_
  refine lv_iconst (v := 1) hx hb dX2_pay_215 (by decide) ?_
  refine lv_iadd hx hb dX2_pay_216 ?_
  refine s_pw C S q167 dX2_pay_217 (fun H locs S => ?_)
  refine lv_iload_n hx hb dX2_pay_220 rfl (lv_at hl 1 rfl) ?_
  exact g_iret C hrt S.1 S.2.1 S.2.2 dX2_pay_221 ⟨eps.symm, h, r, g, g1, by unfold rf_pay; rw [epv, ← en]⟩
end
section
theorem dL_below_0 : decode cL_below 0 = .ok (.iload_n 0, 1) := by decide +kernel
theorem dL_below_1 : decode cL_below 1 = .ok (.ldc 7, 2) := by decide +kernel
theorem dL_below_3 : decode cL_below 3 = .ok (.iand, 1) := by decide +kernel
theorem dL_below_4 : decode cL_below 4 = .ok (.iload_n 1, 1) := by decide +kernel
theorem dL_below_5 : decode cL_below 5 = .ok (.irem, 1) := by decide +kernel
theorem dL_below_6 : decode cL_below 6 = .ok (.ireturn, 1) := by decide +kernel
theorem dL_cell_0 : decode cL_cell 0 = .ok (.iload_n 1, 1) := by decide +kernel
theorem dL_cell_1 : decode cL_cell 1 = .ok (.aload_n 0, 1) := by decide +kernel
theorem dL_cell_2 : decode cL_cell 2 = .ok (.arraylength, 1) := by decide +kernel
theorem dL_cell_3 : decode cL_cell 3 = .ok (.if_icmp .ge 9, 3) := by decide +kernel
theorem dL_cell_6 : decode cL_cell 6 = .ok (.aload_n 0, 1) := by decide +kernel
theorem dL_cell_7 : decode cL_cell 7 = .ok (.iload_n 1, 1) := by decide +kernel
theorem dL_cell_8 : decode cL_cell 8 = .ok (.iaload, 1) := by decide +kernel
theorem dL_cell_9 : decode cL_cell 9 = .ok (.goto 9, 3) := by decide +kernel
theorem dL_cell_12 : decode cL_cell 12 = .ok (.ldc 8, 2) := by decide +kernel
theorem dL_cell_14 : decode cL_cell 14 = .ok (.iload_n 1, 1) := by decide +kernel
theorem dL_cell_15 : decode cL_cell 15 = .ok (.iconst 3, 1) := by decide +kernel
theorem dL_cell_16 : decode cL_cell 16 = .ok (.iadd, 1) := by decide +kernel
theorem dL_cell_17 : decode cL_cell 17 = .ok (.imul, 1) := by decide +kernel
theorem dL_cell_18 : decode cL_cell 18 = .ok (.ireturn, 1) := by decide +kernel
theorem dL_rate_0 : decode cL_rate 0 = .ok (.iconst 5, 1) := by decide +kernel
theorem dL_rate_1 : decode cL_rate 1 = .ok (.newarray .int, 2) := by decide +kernel
theorem dL_rate_3 : decode cL_rate 3 = .ok (.dup, 1) := by decide +kernel
theorem dL_rate_4 : decode cL_rate 4 = .ok (.iconst 0, 1) := by decide +kernel
theorem dL_rate_5 : decode cL_rate 5 = .ok (.iconst 1, 1) := by decide +kernel
theorem dL_rate_6 : decode cL_rate 6 = .ok (.iastore, 1) := by decide +kernel
theorem dL_rate_7 : decode cL_rate 7 = .ok (.dup, 1) := by decide +kernel
theorem dL_rate_8 : decode cL_rate 8 = .ok (.iconst 1, 1) := by decide +kernel
theorem dL_rate_9 : decode cL_rate 9 = .ok (.iconst 1, 1) := by decide +kernel
theorem dL_rate_10 : decode cL_rate 10 = .ok (.iastore, 1) := by decide +kernel
theorem dL_rate_11 : decode cL_rate 11 = .ok (.dup, 1) := by decide +kernel
theorem dL_rate_12 : decode cL_rate 12 = .ok (.iconst 2, 1) := by decide +kernel
theorem dL_rate_13 : decode cL_rate 13 = .ok (.bipush 100, 2) := by decide +kernel
theorem dL_rate_15 : decode cL_rate 15 = .ok (.iastore, 1) := by decide +kernel
theorem dL_rate_16 : decode cL_rate 16 = .ok (.dup, 1) := by decide +kernel
theorem dL_rate_17 : decode cL_rate 17 = .ok (.iconst 3, 1) := by decide +kernel
theorem dL_rate_18 : decode cL_rate 18 = .ok (.iconst 0, 1) := by decide +kernel
theorem dL_rate_19 : decode cL_rate 19 = .ok (.iastore, 1) := by decide +kernel
theorem dL_rate_20 : decode cL_rate 20 = .ok (.dup, 1) := by decide +kernel
theorem dL_rate_21 : decode cL_rate 21 = .ok (.iconst 4, 1) := by decide +kernel
theorem dL_rate_22 : decode cL_rate 22 = .ok (.iconst 1, 1) := by decide +kernel
theorem dL_rate_23 : decode cL_rate 23 = .ok (.iastore, 1) := by decide +kernel
theorem dL_rate_24 : decode cL_rate 24 = .ok (.astore_n 2, 1) := by decide +kernel
theorem dL_rate_25 : decode cL_rate 25 = .ok (.iconst 5, 1) := by decide +kernel
theorem dL_rate_26 : decode cL_rate 26 = .ok (.newarray .int, 2) := by decide +kernel
theorem dL_rate_28 : decode cL_rate 28 = .ok (.dup, 1) := by decide +kernel
theorem dL_rate_29 : decode cL_rate 29 = .ok (.iconst 0, 1) := by decide +kernel
theorem dL_rate_30 : decode cL_rate 30 = .ok (.bipush 40, 2) := by decide +kernel
theorem dL_rate_32 : decode cL_rate 32 = .ok (.iastore, 1) := by decide +kernel
theorem dL_rate_33 : decode cL_rate 33 = .ok (.dup, 1) := by decide +kernel
theorem dL_rate_34 : decode cL_rate 34 = .ok (.iconst 1, 1) := by decide +kernel
theorem dL_rate_35 : decode cL_rate 35 = .ok (.bipush 99, 2) := by decide +kernel
theorem dL_rate_37 : decode cL_rate 37 = .ok (.iastore, 1) := by decide +kernel
theorem dL_rate_38 : decode cL_rate 38 = .ok (.dup, 1) := by decide +kernel
theorem dL_rate_39 : decode cL_rate 39 = .ok (.iconst 2, 1) := by decide +kernel
theorem dL_rate_40 : decode cL_rate 40 = .ok (.sipush 801, 3) := by decide +kernel
theorem dL_rate_43 : decode cL_rate 43 = .ok (.iastore, 1) := by decide +kernel
theorem dL_rate_44 : decode cL_rate 44 = .ok (.dup, 1) := by decide +kernel
theorem dL_rate_45 : decode cL_rate 45 = .ok (.iconst 3, 1) := by decide +kernel
theorem dL_rate_46 : decode cL_rate 46 = .ok (.bipush 101, 2) := by decide +kernel
theorem dL_rate_48 : decode cL_rate 48 = .ok (.iastore, 1) := by decide +kernel
theorem dL_rate_49 : decode cL_rate 49 = .ok (.dup, 1) := by decide +kernel
theorem dL_rate_50 : decode cL_rate 50 = .ok (.iconst 4, 1) := by decide +kernel
theorem dL_rate_51 : decode cL_rate 51 = .ok (.bipush 9, 2) := by decide +kernel
theorem dL_rate_53 : decode cL_rate 53 = .ok (.iastore, 1) := by decide +kernel
theorem dL_rate_54 : decode cL_rate 54 = .ok (.astore_n 3, 1) := by decide +kernel
theorem dL_rate_55 : decode cL_rate 55 = .ok (.aload_n 2, 1) := by decide +kernel
theorem dL_rate_56 : decode cL_rate 56 = .ok (.iload_n 0, 1) := by decide +kernel
theorem dL_rate_57 : decode cL_rate 57 = .ok (.iaload, 1) := by decide +kernel
theorem dL_rate_58 : decode cL_rate 58 = .ok (.iload_n 1, 1) := by decide +kernel
theorem dL_rate_59 : decode cL_rate 59 = .ok (.aload_n 3, 1) := by decide +kernel
theorem dL_rate_60 : decode cL_rate 60 = .ok (.iload_n 0, 1) := by decide +kernel
theorem dL_rate_61 : decode cL_rate 61 = .ok (.iaload, 1) := by decide +kernel
theorem dL_rate_62 : decode cL_rate 62 = .ok (.invokestatic 9, 3) := by decide +kernel
theorem dL_rate_65 : decode cL_rate 65 = .ok (.iadd, 1) := by decide +kernel
theorem dL_rate_66 : decode cL_rate 66 = .ok (.ireturn, 1) := by decide +kernel
theorem dL_act_0 : decode cL_act 0 = .ok (.aload_n 1, 1) := by decide +kernel
theorem dL_act_1 : decode cL_act 1 = .ok (.getfield 15, 3) := by decide +kernel
theorem dL_act_4 : decode cL_act 4 = .ok (.arraylength, 1) := by decide +kernel
theorem dL_act_5 : decode cL_act 5 = .ok (.istore_n 3, 1) := by decide +kernel
theorem dL_act_6 : decode cL_act 6 = .ok (.iload_n 3, 1) := by decide +kernel
theorem dL_act_7 : decode cL_act 7 = .ok (.ifCond .ne 7, 3) := by decide +kernel
theorem dL_act_10 : decode cL_act 10 = .ok (.iconst 0, 1) := by decide +kernel
theorem dL_act_11 : decode cL_act 11 = .ok (.goto 10, 3) := by decide +kernel
theorem dL_act_14 : decode cL_act 14 = .ok (.iload_n 2, 1) := by decide +kernel
theorem dL_act_15 : decode cL_act 15 = .ok (.iconst 1, 1) := by decide +kernel
theorem dL_act_16 : decode cL_act 16 = .ok (.ishr, 1) := by decide +kernel
theorem dL_act_17 : decode cL_act 17 = .ok (.iload_n 3, 1) := by decide +kernel
theorem dL_act_18 : decode cL_act 18 = .ok (.invokestatic 9, 3) := by decide +kernel
theorem dL_act_21 : decode cL_act 21 = .ok (.istore 4, 2) := by decide +kernel
theorem dL_act_23 : decode cL_act 23 = .ok (.iload_n 3, 1) := by decide +kernel
theorem dL_act_24 : decode cL_act 24 = .ok (.ifCond .ne 7, 3) := by decide +kernel
theorem dL_act_27 : decode cL_act 27 = .ok (.aconst_null, 1) := by decide +kernel
theorem dL_act_28 : decode cL_act 28 = .ok (.goto 10, 3) := by decide +kernel
theorem dL_act_31 : decode cL_act 31 = .ok (.aload_n 1, 1) := by decide +kernel
theorem dL_act_32 : decode cL_act 32 = .ok (.getfield 15, 3) := by decide +kernel
theorem dL_act_35 : decode cL_act 35 = .ok (.iload 4, 2) := by decide +kernel
theorem dL_act_37 : decode cL_act 37 = .ok (.aaload, 1) := by decide +kernel
theorem dL_act_38 : decode cL_act 38 = .ok (.astore 5, 2) := by decide +kernel
theorem dL_act_40 : decode cL_act 40 = .ok (.iload_n 2, 1) := by decide +kernel
theorem dL_act_41 : decode cL_act 41 = .ok (.bipush 9, 2) := by decide +kernel
theorem dL_act_43 : decode cL_act 43 = .ok (.ishr, 1) := by decide +kernel
theorem dL_act_44 : decode cL_act 44 = .ok (.bipush 18, 2) := by decide +kernel
theorem dL_act_46 : decode cL_act 46 = .ok (.invokestatic 9, 3) := by decide +kernel
theorem dL_act_49 : decode cL_act 49 = .ok (.tableswitch 469 0 10 #[59, 59, 154, 211, 211, 282, 282, 282, 359, 359, 442], 59) := by decide +kernel
theorem dL_act_108 : decode cL_act 108 = .ok (.iload_n 3, 1) := by decide +kernel
theorem dL_act_109 : decode cL_act 109 = .ok (.bipush 8, 2) := by decide +kernel
theorem dL_act_111 : decode cL_act 111 = .ok (.if_icmp .ne 5, 3) := by decide +kernel
theorem dL_act_114 : decode cL_act 114 = .ok (.iconst 1, 1) := by decide +kernel
theorem dL_act_115 : decode cL_act 115 = .ok (.ireturn, 1) := by decide +kernel
theorem dL_act_116 : decode cL_act 116 = .ok (.iload_n 3, 1) := by decide +kernel
theorem dL_act_117 : decode cL_act 117 = .ok (.iconst 1, 1) := by decide +kernel
theorem dL_act_118 : decode cL_act 118 = .ok (.iadd, 1) := by decide +kernel
theorem dL_act_119 : decode cL_act 119 = .ok (.anewarray 21, 3) := by decide +kernel
theorem dL_act_122 : decode cL_act 122 = .ok (.astore 6, 2) := by decide +kernel
theorem dL_act_124 : decode cL_act 124 = .ok (.iconst 0, 1) := by decide +kernel
theorem dL_act_125 : decode cL_act 125 = .ok (.istore 7, 2) := by decide +kernel
theorem dL_act_127 : decode cL_act 127 = .ok (.iload 7, 2) := by decide +kernel
theorem dL_act_129 : decode cL_act 129 = .ok (.iload_n 3, 1) := by decide +kernel
theorem dL_act_130 : decode cL_act 130 = .ok (.if_icmp .ge 21, 3) := by decide +kernel
theorem dL_act_133 : decode cL_act 133 = .ok (.aload 6, 2) := by decide +kernel
theorem dL_act_135 : decode cL_act 135 = .ok (.iload 7, 2) := by decide +kernel
theorem dL_act_137 : decode cL_act 137 = .ok (.aload_n 1, 1) := by decide +kernel
theorem dL_act_138 : decode cL_act 138 = .ok (.getfield 15, 3) := by decide +kernel
theorem dL_act_141 : decode cL_act 141 = .ok (.iload 7, 2) := by decide +kernel
theorem dL_act_143 : decode cL_act 143 = .ok (.aaload, 1) := by decide +kernel
theorem dL_act_144 : decode cL_act 144 = .ok (.aastore, 1) := by decide +kernel
theorem dL_act_145 : decode cL_act 145 = .ok (.iinc 7 1, 3) := by decide +kernel
theorem dL_act_148 : decode cL_act 148 = .ok (.goto (-21), 3) := by decide +kernel
theorem dL_act_151 : decode cL_act 151 = .ok (.aload 6, 2) := by decide +kernel
theorem dL_act_153 : decode cL_act 153 = .ok (.iload_n 3, 1) := by decide +kernel
theorem dL_act_154 : decode cL_act 154 = .ok (.new 21, 3) := by decide +kernel
theorem dL_act_157 : decode cL_act 157 = .ok (.dup, 1) := by decide +kernel
theorem dL_act_158 : decode cL_act 158 = .ok (.invokespecial 23, 3) := by decide +kernel
theorem dL_act_161 : decode cL_act 161 = .ok (.aastore, 1) := by decide +kernel
theorem dL_act_162 : decode cL_act 162 = .ok (.aload 6, 2) := by decide +kernel
theorem dL_act_164 : decode cL_act 164 = .ok (.iload_n 3, 1) := by decide +kernel
theorem dL_act_165 : decode cL_act 165 = .ok (.aaload, 1) := by decide +kernel
theorem dL_act_166 : decode cL_act 166 = .ok (.iload_n 2, 1) := by decide +kernel
theorem dL_act_167 : decode cL_act 167 = .ok (.iconst 1, 1) := by decide +kernel
theorem dL_act_168 : decode cL_act 168 = .ok (.ishr, 1) := by decide +kernel
theorem dL_act_169 : decode cL_act 169 = .ok (.iconst 3, 1) := by decide +kernel
theorem dL_act_170 : decode cL_act 170 = .ok (.invokestatic 9, 3) := by decide +kernel
theorem dL_act_173 : decode cL_act 173 = .ok (.putfield 24, 3) := by decide +kernel
theorem dL_act_176 : decode cL_act 176 = .ok (.aload_n 1, 1) := by decide +kernel
theorem dL_act_177 : decode cL_act 177 = .ok (.aload 6, 2) := by decide +kernel
theorem dL_act_179 : decode cL_act 179 = .ok (.putfield 15, 3) := by decide +kernel
theorem dL_act_182 : decode cL_act 182 = .ok (.aload_n 0, 1) := by decide +kernel
theorem dL_act_183 : decode cL_act 183 = .ok (.aload 6, 2) := by decide +kernel
theorem dL_act_185 : decode cL_act 185 = .ok (.iload_n 3, 1) := by decide +kernel
theorem dL_act_186 : decode cL_act 186 = .ok (.aaload, 1) := by decide +kernel
theorem dL_act_187 : decode cL_act 187 = .ok (.getfield 24, 3) := by decide +kernel
theorem dL_act_190 : decode cL_act 190 = .ok (.invokevirtual 28, 3) := by decide +kernel
theorem dL_act_193 : decode cL_act 193 = .ok (.iload_n 3, 1) := by decide +kernel
theorem dL_act_194 : decode cL_act 194 = .ok (.if_icmp .ne 7, 3) := by decide +kernel
theorem dL_act_197 : decode cL_act 197 = .ok (.iconst 1, 1) := by decide +kernel
theorem dL_act_198 : decode cL_act 198 = .ok (.goto 4, 3) := by decide +kernel
theorem dL_act_201 : decode cL_act 201 = .ok (.iconst 0, 1) := by decide +kernel
theorem dL_act_202 : decode cL_act 202 = .ok (.ireturn, 1) := by decide +kernel
theorem dL_act_203 : decode cL_act 203 = .ok (.iload_n 2, 1) := by decide +kernel
theorem dL_act_204 : decode cL_act 204 = .ok (.iconst 1, 1) := by decide +kernel
theorem dL_act_205 : decode cL_act 205 = .ok (.ishr, 1) := by decide +kernel
theorem dL_act_206 : decode cL_act 206 = .ok (.iconst 5, 1) := by decide +kernel
theorem dL_act_207 : decode cL_act 207 = .ok (.invokestatic 9, 3) := by decide +kernel
theorem dL_act_210 : decode cL_act 210 = .ok (.istore 7, 2) := by decide +kernel
theorem dL_act_212 : decode cL_act 212 = .ok (.aload_n 1, 1) := by decide +kernel
theorem dL_act_213 : decode cL_act 213 = .ok (.getfield 34, 3) := by decide +kernel
theorem dL_act_216 : decode cL_act 216 = .ok (.iload 7, 2) := by decide +kernel
theorem dL_act_218 : decode cL_act 218 = .ok (.iaload, 1) := by decide +kernel
theorem dL_act_219 : decode cL_act 219 = .ok (.istore 8, 2) := by decide +kernel
theorem dL_act_221 : decode cL_act 221 = .ok (.aload_n 1, 1) := by decide +kernel
theorem dL_act_222 : decode cL_act 222 = .ok (.getfield 34, 3) := by decide +kernel
theorem dL_act_225 : decode cL_act 225 = .ok (.iload 7, 2) := by decide +kernel
theorem dL_act_227 : decode cL_act 227 = .ok (.iload 7, 2) := by decide +kernel
theorem dL_act_229 : decode cL_act 229 = .ok (.iload_n 2, 1) := by decide +kernel
theorem dL_act_230 : decode cL_act 230 = .ok (.iconst 3, 1) := by decide +kernel
theorem dL_act_231 : decode cL_act 231 = .ok (.ishr, 1) := by decide +kernel
theorem dL_act_232 : decode cL_act 232 = .ok (.invokestatic 38, 3) := by decide +kernel
theorem dL_act_235 : decode cL_act 235 = .ok (.iastore, 1) := by decide +kernel
theorem dL_act_236 : decode cL_act 236 = .ok (.aload_n 0, 1) := by decide +kernel
theorem dL_act_237 : decode cL_act 237 = .ok (.iload 7, 2) := by decide +kernel
theorem dL_act_239 : decode cL_act 239 = .ok (.aload_n 1, 1) := by decide +kernel
theorem dL_act_240 : decode cL_act 240 = .ok (.getfield 34, 3) := by decide +kernel
theorem dL_act_243 : decode cL_act 243 = .ok (.iload 7, 2) := by decide +kernel
theorem dL_act_245 : decode cL_act 245 = .ok (.iaload, 1) := by decide +kernel
theorem dL_act_246 : decode cL_act 246 = .ok (.invokevirtual 41, 3) := by decide +kernel
theorem dL_act_249 : decode cL_act 249 = .ok (.iload 8, 2) := by decide +kernel
theorem dL_act_251 : decode cL_act 251 = .ok (.if_icmp .ne 7, 3) := by decide +kernel
theorem dL_act_254 : decode cL_act 254 = .ok (.iconst 1, 1) := by decide +kernel
theorem dL_act_255 : decode cL_act 255 = .ok (.goto 4, 3) := by decide +kernel
theorem dL_act_258 : decode cL_act 258 = .ok (.iconst 0, 1) := by decide +kernel
theorem dL_act_259 : decode cL_act 259 = .ok (.ireturn, 1) := by decide +kernel
theorem dL_act_260 : decode cL_act 260 = .ok (.iload_n 2, 1) := by decide +kernel
theorem dL_act_261 : decode cL_act 261 = .ok (.iconst 1, 1) := by decide +kernel
theorem dL_act_262 : decode cL_act 262 = .ok (.ishr, 1) := by decide +kernel
theorem dL_act_263 : decode cL_act 263 = .ok (.iconst 3, 1) := by decide +kernel
theorem dL_act_264 : decode cL_act 264 = .ok (.invokestatic 9, 3) := by decide +kernel
theorem dL_act_267 : decode cL_act 267 = .ok (.istore 9, 2) := by decide +kernel
theorem dL_act_269 : decode cL_act 269 = .ok (.iconst 1, 1) := by decide +kernel
theorem dL_act_270 : decode cL_act 270 = .ok (.iload_n 2, 1) := by decide +kernel
theorem dL_act_271 : decode cL_act 271 = .ok (.iconst 3, 1) := by decide +kernel
theorem dL_act_272 : decode cL_act 272 = .ok (.ishr, 1) := by decide +kernel
theorem dL_act_273 : decode cL_act 273 = .ok (.iload_n 2, 1) := by decide +kernel
theorem dL_act_274 : decode cL_act 274 = .ok (.iconst 3, 1) := by decide +kernel
theorem dL_act_275 : decode cL_act 275 = .ok (.invokestatic 9, 3) := by decide +kernel
theorem dL_act_278 : decode cL_act 278 = .ok (.ifCond .ne 9, 3) := by decide +kernel
theorem dL_act_281 : decode cL_act 281 = .ok (.sipush 500, 3) := by decide +kernel
theorem dL_act_284 : decode cL_act 284 = .ok (.goto 5, 3) := by decide +kernel
theorem dL_act_287 : decode cL_act 287 = .ok (.bipush 30, 2) := by decide +kernel
theorem dL_act_289 : decode cL_act 289 = .ok (.invokestatic 9, 3) := by decide +kernel
theorem dL_act_292 : decode cL_act 292 = .ok (.iadd, 1) := by decide +kernel
theorem dL_act_293 : decode cL_act 293 = .ok (.istore 10, 2) := by decide +kernel
theorem dL_act_295 : decode cL_act 295 = .ok (.aload_n 1, 1) := by decide +kernel
theorem dL_act_296 : decode cL_act 296 = .ok (.getfield 44, 3) := by decide +kernel
theorem dL_act_299 : decode cL_act 299 = .ok (.iload 9, 2) := by decide +kernel
theorem dL_act_301 : decode cL_act 301 = .ok (.dup2, 1) := by decide +kernel
theorem dL_act_302 : decode cL_act 302 = .ok (.iaload, 1) := by decide +kernel
theorem dL_act_303 : decode cL_act 303 = .ok (.iload 10, 2) := by decide +kernel
theorem dL_act_305 : decode cL_act 305 = .ok (.iadd, 1) := by decide +kernel
theorem dL_act_306 : decode cL_act 306 = .ok (.iastore, 1) := by decide +kernel
theorem dL_act_307 : decode cL_act 307 = .ok (.aload_n 0, 1) := by decide +kernel
theorem dL_act_308 : decode cL_act 308 = .ok (.iload 9, 2) := by decide +kernel
theorem dL_act_310 : decode cL_act 310 = .ok (.iload 10, 2) := by decide +kernel
theorem dL_act_312 : decode cL_act 312 = .ok (.invokevirtual 47, 3) := by decide +kernel
theorem dL_act_315 : decode cL_act 315 = .ok (.aload_n 1, 1) := by decide +kernel
theorem dL_act_316 : decode cL_act 316 = .ok (.getfield 44, 3) := by decide +kernel
theorem dL_act_319 : decode cL_act 319 = .ok (.iload 9, 2) := by decide +kernel
theorem dL_act_321 : decode cL_act 321 = .ok (.iaload, 1) := by decide +kernel
theorem dL_act_322 : decode cL_act 322 = .ok (.if_icmp .ne 7, 3) := by decide +kernel
theorem dL_act_325 : decode cL_act 325 = .ok (.iconst 1, 1) := by decide +kernel
theorem dL_act_326 : decode cL_act 326 = .ok (.goto 4, 3) := by decide +kernel
theorem dL_act_329 : decode cL_act 329 = .ok (.iconst 0, 1) := by decide +kernel
theorem dL_act_330 : decode cL_act 330 = .ok (.ireturn, 1) := by decide +kernel
theorem dL_act_331 : decode cL_act 331 = .ok (.iload_n 3, 1) := by decide +kernel
theorem dL_act_332 : decode cL_act 332 = .ok (.ifCond .eq 14, 3) := by decide +kernel
theorem dL_act_335 : decode cL_act 335 = .ok (.aload 5, 2) := by decide +kernel
theorem dL_act_337 : decode cL_act 337 = .ok (.getfield 50, 3) := by decide +kernel
theorem dL_act_340 : decode cL_act 340 = .ok (.sipush 5000, 3) := by decide +kernel
theorem dL_act_343 : decode cL_act 343 = .ok (.if_icmp .le 5, 3) := by decide +kernel
theorem dL_act_346 : decode cL_act 346 = .ok (.iconst 1, 1) := by decide +kernel
theorem dL_act_347 : decode cL_act 347 = .ok (.ireturn, 1) := by decide +kernel
theorem dL_act_348 : decode cL_act 348 = .ok (.iconst 1, 1) := by decide +kernel
theorem dL_act_349 : decode cL_act 349 = .ok (.iload_n 2, 1) := by decide +kernel
theorem dL_act_350 : decode cL_act 350 = .ok (.iconst 3, 1) := by decide +kernel
theorem dL_act_351 : decode cL_act 351 = .ok (.ishr, 1) := by decide +kernel
theorem dL_act_352 : decode cL_act 352 = .ok (.iload_n 2, 1) := by decide +kernel
theorem dL_act_353 : decode cL_act 353 = .ok (.iconst 2, 1) := by decide +kernel
theorem dL_act_354 : decode cL_act 354 = .ok (.invokestatic 9, 3) := by decide +kernel
theorem dL_act_357 : decode cL_act 357 = .ok (.ifCond .ne 9, 3) := by decide +kernel
theorem dL_act_360 : decode cL_act 360 = .ok (.sipush 999, 3) := by decide +kernel
theorem dL_act_363 : decode cL_act 363 = .ok (.goto 5, 3) := by decide +kernel
theorem dL_act_366 : decode cL_act 366 = .ok (.bipush 90, 2) := by decide +kernel
theorem dL_act_368 : decode cL_act 368 = .ok (.invokestatic 9, 3) := by decide +kernel
theorem dL_act_371 : decode cL_act 371 = .ok (.iadd, 1) := by decide +kernel
theorem dL_act_372 : decode cL_act 372 = .ok (.istore 11, 2) := by decide +kernel
theorem dL_act_374 : decode cL_act 374 = .ok (.aload 5, 2) := by decide +kernel
theorem dL_act_376 : decode cL_act 376 = .ok (.dup, 1) := by decide +kernel
theorem dL_act_377 : decode cL_act 377 = .ok (.getfield 50, 3) := by decide +kernel
theorem dL_act_380 : decode cL_act 380 = .ok (.iload 11, 2) := by decide +kernel
theorem dL_act_382 : decode cL_act 382 = .ok (.iadd, 1) := by decide +kernel
theorem dL_act_383 : decode cL_act 383 = .ok (.putfield 50, 3) := by decide +kernel
theorem dL_act_386 : decode cL_act 386 = .ok (.aload_n 0, 1) := by decide +kernel
theorem dL_act_387 : decode cL_act 387 = .ok (.iload 4, 2) := by decide +kernel
theorem dL_act_389 : decode cL_act 389 = .ok (.iload 11, 2) := by decide +kernel
theorem dL_act_391 : decode cL_act 391 = .ok (.invokevirtual 53, 3) := by decide +kernel
theorem dL_act_394 : decode cL_act 394 = .ok (.aload 5, 2) := by decide +kernel
theorem dL_act_396 : decode cL_act 396 = .ok (.getfield 50, 3) := by decide +kernel
theorem dL_act_399 : decode cL_act 399 = .ok (.if_icmp .ne 7, 3) := by decide +kernel
theorem dL_act_402 : decode cL_act 402 = .ok (.iconst 1, 1) := by decide +kernel
theorem dL_act_403 : decode cL_act 403 = .ok (.goto 4, 3) := by decide +kernel
theorem dL_act_406 : decode cL_act 406 = .ok (.iconst 0, 1) := by decide +kernel
theorem dL_act_407 : decode cL_act 407 = .ok (.ireturn, 1) := by decide +kernel
theorem dL_act_408 : decode cL_act 408 = .ok (.iload_n 3, 1) := by decide +kernel
theorem dL_act_409 : decode cL_act 409 = .ok (.ifCond .ne 5, 3) := by decide +kernel
theorem dL_act_412 : decode cL_act 412 = .ok (.iconst 1, 1) := by decide +kernel
theorem dL_act_413 : decode cL_act 413 = .ok (.ireturn, 1) := by decide +kernel
theorem dL_act_414 : decode cL_act 414 = .ok (.iconst 1, 1) := by decide +kernel
theorem dL_act_415 : decode cL_act 415 = .ok (.iload_n 2, 1) := by decide +kernel
theorem dL_act_416 : decode cL_act 416 = .ok (.iconst 3, 1) := by decide +kernel
theorem dL_act_417 : decode cL_act 417 = .ok (.ishr, 1) := by decide +kernel
theorem dL_act_418 : decode cL_act 418 = .ok (.iload_n 2, 1) := by decide +kernel
theorem dL_act_419 : decode cL_act 419 = .ok (.iconst 2, 1) := by decide +kernel
theorem dL_act_420 : decode cL_act 420 = .ok (.invokestatic 9, 3) := by decide +kernel
theorem dL_act_423 : decode cL_act 423 = .ok (.ifCond .ne 9, 3) := by decide +kernel
theorem dL_act_426 : decode cL_act 426 = .ok (.sipush 2000, 3) := by decide +kernel
theorem dL_act_429 : decode cL_act 429 = .ok (.goto 6, 3) := by decide +kernel
theorem dL_act_432 : decode cL_act 432 = .ok (.sipush 200, 3) := by decide +kernel
theorem dL_act_435 : decode cL_act 435 = .ok (.invokestatic 9, 3) := by decide +kernel
theorem dL_act_438 : decode cL_act 438 = .ok (.iadd, 1) := by decide +kernel
theorem dL_act_439 : decode cL_act 439 = .ok (.istore 12, 2) := by decide +kernel
theorem dL_act_441 : decode cL_act 441 = .ok (.aload 5, 2) := by decide +kernel
theorem dL_act_443 : decode cL_act 443 = .ok (.getfield 56, 3) := by decide +kernel
theorem dL_act_446 : decode cL_act 446 = .ok (.iload 12, 2) := by decide +kernel
theorem dL_act_448 : decode cL_act 448 = .ok (.iadd, 1) := by decide +kernel
theorem dL_act_449 : decode cL_act 449 = .ok (.sipush 5000, 3) := by decide +kernel
theorem dL_act_452 : decode cL_act 452 = .ok (.if_icmp .le 5, 3) := by decide +kernel
theorem dL_act_455 : decode cL_act 455 = .ok (.iconst 1, 1) := by decide +kernel
theorem dL_act_456 : decode cL_act 456 = .ok (.ireturn, 1) := by decide +kernel
theorem dL_act_457 : decode cL_act 457 = .ok (.aload 5, 2) := by decide +kernel
theorem dL_act_459 : decode cL_act 459 = .ok (.dup, 1) := by decide +kernel
theorem dL_act_460 : decode cL_act 460 = .ok (.getfield 56, 3) := by decide +kernel
theorem dL_act_463 : decode cL_act 463 = .ok (.iload 12, 2) := by decide +kernel
theorem dL_act_465 : decode cL_act 465 = .ok (.iadd, 1) := by decide +kernel
theorem dL_act_466 : decode cL_act 466 = .ok (.putfield 56, 3) := by decide +kernel
theorem dL_act_469 : decode cL_act 469 = .ok (.aload_n 0, 1) := by decide +kernel
theorem dL_act_470 : decode cL_act 470 = .ok (.iload 4, 2) := by decide +kernel
theorem dL_act_472 : decode cL_act 472 = .ok (.iload 12, 2) := by decide +kernel
theorem dL_act_474 : decode cL_act 474 = .ok (.invokevirtual 59, 3) := by decide +kernel
theorem dL_act_477 : decode cL_act 477 = .ok (.aload 5, 2) := by decide +kernel
theorem dL_act_479 : decode cL_act 479 = .ok (.getfield 56, 3) := by decide +kernel
theorem dL_act_482 : decode cL_act 482 = .ok (.if_icmp .ne 7, 3) := by decide +kernel
theorem dL_act_485 : decode cL_act 485 = .ok (.iconst 1, 1) := by decide +kernel
theorem dL_act_486 : decode cL_act 486 = .ok (.goto 4, 3) := by decide +kernel
theorem dL_act_489 : decode cL_act 489 = .ok (.iconst 0, 1) := by decide +kernel
theorem dL_act_490 : decode cL_act 490 = .ok (.ireturn, 1) := by decide +kernel
theorem dL_act_491 : decode cL_act 491 = .ok (.iload_n 2, 1) := by decide +kernel
theorem dL_act_492 : decode cL_act 492 = .ok (.iconst 2, 1) := by decide +kernel
theorem dL_act_493 : decode cL_act 493 = .ok (.invokestatic 9, 3) := by decide +kernel
theorem dL_act_496 : decode cL_act 496 = .ok (.ifCond .ne 5, 3) := by decide +kernel
theorem dL_act_499 : decode cL_act 499 = .ok (.iconst 1, 1) := by decide +kernel
theorem dL_act_500 : decode cL_act 500 = .ok (.ireturn, 1) := by decide +kernel
theorem dL_act_501 : decode cL_act 501 = .ok (.aload_n 0, 1) := by decide +kernel
theorem dL_act_502 : decode cL_act 502 = .ok (.invokevirtual 62, 3) := by decide +kernel
theorem dL_act_505 : decode cL_act 505 = .ok (.aload_n 1, 1) := by decide +kernel
theorem dL_act_506 : decode cL_act 506 = .ok (.invokevirtual 66, 3) := by decide +kernel
theorem dL_act_509 : decode cL_act 509 = .ok (.if_icmp .ne 7, 3) := by decide +kernel
theorem dL_act_512 : decode cL_act 512 = .ok (.iconst 1, 1) := by decide +kernel
theorem dL_act_513 : decode cL_act 513 = .ok (.goto 4, 3) := by decide +kernel
theorem dL_act_516 : decode cL_act 516 = .ok (.iconst 0, 1) := by decide +kernel
theorem dL_act_517 : decode cL_act 517 = .ok (.ireturn, 1) := by decide +kernel
theorem dL_act_518 : decode cL_act 518 = .ok (.iload_n 3, 1) := by decide +kernel
theorem dL_act_519 : decode cL_act 519 = .ok (.ifCond .ne 5, 3) := by decide +kernel
theorem dL_act_522 : decode cL_act 522 = .ok (.iconst 1, 1) := by decide +kernel
theorem dL_act_523 : decode cL_act 523 = .ok (.ireturn, 1) := by decide +kernel
theorem dL_act_524 : decode cL_act 524 = .ok (.iload_n 2, 1) := by decide +kernel
theorem dL_act_525 : decode cL_act 525 = .ok (.iconst 3, 1) := by decide +kernel
theorem dL_act_526 : decode cL_act 526 = .ok (.ishr, 1) := by decide +kernel
theorem dL_act_527 : decode cL_act 527 = .ok (.bipush 17, 2) := by decide +kernel
theorem dL_act_529 : decode cL_act 529 = .ok (.invokestatic 9, 3) := by decide +kernel
theorem dL_act_532 : decode cL_act 532 = .ok (.istore 13, 2) := by decide +kernel
theorem dL_act_534 : decode cL_act 534 = .ok (.aload 5, 2) := by decide +kernel
theorem dL_act_536 : decode cL_act 536 = .ok (.getfield 67, 3) := by decide +kernel
theorem dL_act_539 : decode cL_act 539 = .ok (.iload 13, 2) := by decide +kernel
theorem dL_act_541 : decode cL_act 541 = .ok (.iadd, 1) := by decide +kernel
theorem dL_act_542 : decode cL_act 542 = .ok (.bipush 99, 2) := by decide +kernel
theorem dL_act_544 : decode cL_act 544 = .ok (.if_icmp .le 5, 3) := by decide +kernel
theorem dL_act_547 : decode cL_act 547 = .ok (.iconst 1, 1) := by decide +kernel
theorem dL_act_548 : decode cL_act 548 = .ok (.ireturn, 1) := by decide +kernel
theorem dL_act_549 : decode cL_act 549 = .ok (.iload_n 2, 1) := by decide +kernel
theorem dL_act_550 : decode cL_act 550 = .ok (.iconst 2, 1) := by decide +kernel
theorem dL_act_551 : decode cL_act 551 = .ok (.ishr, 1) := by decide +kernel
theorem dL_act_552 : decode cL_act 552 = .ok (.iconst 3, 1) := by decide +kernel
theorem dL_act_553 : decode cL_act 553 = .ok (.invokestatic 9, 3) := by decide +kernel
theorem dL_act_556 : decode cL_act 556 = .ok (.ifCond .ne 7, 3) := by decide +kernel
theorem dL_act_559 : decode cL_act 559 = .ok (.iconst 1, 1) := by decide +kernel
theorem dL_act_560 : decode cL_act 560 = .ok (.goto 4, 3) := by decide +kernel
theorem dL_act_563 : decode cL_act 563 = .ok (.iconst 0, 1) := by decide +kernel
theorem dL_act_564 : decode cL_act 564 = .ok (.istore 14, 2) := by decide +kernel
theorem dL_act_566 : decode cL_act 566 = .ok (.aload 5, 2) := by decide +kernel
theorem dL_act_568 : decode cL_act 568 = .ok (.dup, 1) := by decide +kernel
theorem dL_act_569 : decode cL_act 569 = .ok (.getfield 67, 3) := by decide +kernel
theorem dL_act_572 : decode cL_act 572 = .ok (.iload 13, 2) := by decide +kernel
theorem dL_act_574 : decode cL_act 574 = .ok (.iadd, 1) := by decide +kernel
theorem dL_act_575 : decode cL_act 575 = .ok (.putfield 67, 3) := by decide +kernel
theorem dL_act_578 : decode cL_act 578 = .ok (.aload 5, 2) := by decide +kernel
theorem dL_act_580 : decode cL_act 580 = .ok (.dup, 1) := by decide +kernel
theorem dL_act_581 : decode cL_act 581 = .ok (.getfield 70, 3) := by decide +kernel
theorem dL_act_584 : decode cL_act 584 = .ok (.iload 14, 2) := by decide +kernel
theorem dL_act_586 : decode cL_act 586 = .ok (.ifCond .eq 7, 3) := by decide +kernel
theorem dL_act_589 : decode cL_act 589 = .ok (.iconst 1, 1) := by decide +kernel
theorem dL_act_590 : decode cL_act 590 = .ok (.goto 4, 3) := by decide +kernel
theorem dL_act_593 : decode cL_act 593 = .ok (.iconst 0, 1) := by decide +kernel
theorem dL_act_594 : decode cL_act 594 = .ok (.iadd, 1) := by decide +kernel
theorem dL_act_595 : decode cL_act 595 = .ok (.putfield 70, 3) := by decide +kernel
theorem dL_act_598 : decode cL_act 598 = .ok (.aload_n 0, 1) := by decide +kernel
theorem dL_act_599 : decode cL_act 599 = .ok (.iload 4, 2) := by decide +kernel
theorem dL_act_601 : decode cL_act 601 = .ok (.iload 13, 2) := by decide +kernel
theorem dL_act_603 : decode cL_act 603 = .ok (.iload 14, 2) := by decide +kernel
theorem dL_act_605 : decode cL_act 605 = .ok (.invokevirtual 73, 3) := by decide +kernel
theorem dL_act_608 : decode cL_act 608 = .ok (.aload 5, 2) := by decide +kernel
theorem dL_act_610 : decode cL_act 610 = .ok (.getfield 67, 3) := by decide +kernel
theorem dL_act_613 : decode cL_act 613 = .ok (.if_icmp .ne 7, 3) := by decide +kernel
theorem dL_act_616 : decode cL_act 616 = .ok (.iconst 1, 1) := by decide +kernel
theorem dL_act_617 : decode cL_act 617 = .ok (.goto 4, 3) := by decide +kernel
theorem dL_act_620 : decode cL_act 620 = .ok (.iconst 0, 1) := by decide +kernel
theorem dL_act_621 : decode cL_act 621 = .ok (.ireturn, 1) := by decide +kernel
theorem dL_build_0 : decode cL_build 0 = .ok (.new 16, 3) := by decide +kernel
theorem dL_build_3 : decode cL_build 3 = .ok (.dup, 1) := by decide +kernel
theorem dL_build_4 : decode cL_build 4 = .ok (.invokespecial 77, 3) := by decide +kernel
theorem dL_build_7 : decode cL_build 7 = .ok (.astore_n 2, 1) := by decide +kernel
theorem dL_build_8 : decode cL_build 8 = .ok (.bipush 20, 2) := by decide +kernel
theorem dL_build_10 : decode cL_build 10 = .ok (.aload_n 1, 1) := by decide +kernel
theorem dL_build_11 : decode cL_build 11 = .ok (.iconst 0, 1) := by decide +kernel
theorem dL_build_12 : decode cL_build 12 = .ok (.invokestatic 78, 3) := by decide +kernel
theorem dL_build_15 : decode cL_build 15 = .ok (.bipush 60, 2) := by decide +kernel
theorem dL_build_17 : decode cL_build 17 = .ok (.invokestatic 9, 3) := by decide +kernel
theorem dL_build_20 : decode cL_build 20 = .ok (.iadd, 1) := by decide +kernel
theorem dL_build_21 : decode cL_build 21 = .ok (.istore_n 3, 1) := by decide +kernel
theorem dL_build_22 : decode cL_build 22 = .ok (.iconst 0, 1) := by decide +kernel
theorem dL_build_23 : decode cL_build 23 = .ok (.istore 4, 2) := by decide +kernel
theorem dL_build_25 : decode cL_build 25 = .ok (.iload 4, 2) := by decide +kernel
theorem dL_build_27 : decode cL_build 27 = .ok (.iload_n 3, 1) := by decide +kernel
theorem dL_build_28 : decode cL_build 28 = .ok (.if_icmp .ge 57, 3) := by decide +kernel
theorem dL_build_31 : decode cL_build 31 = .ok (.aload_n 0, 1) := by decide +kernel
theorem dL_build_32 : decode cL_build 32 = .ok (.aload_n 2, 1) := by decide +kernel
theorem dL_build_33 : decode cL_build 33 = .ok (.aload_n 1, 1) := by decide +kernel
theorem dL_build_34 : decode cL_build 34 = .ok (.iload 4, 2) := by decide +kernel
theorem dL_build_36 : decode cL_build 36 = .ok (.bipush 16, 2) := by decide +kernel
theorem dL_build_38 : decode cL_build 38 = .ok (.irem, 1) := by decide +kernel
theorem dL_build_39 : decode cL_build 39 = .ok (.invokestatic 78, 3) := by decide +kernel
theorem dL_build_42 : decode cL_build 42 = .ok (.iload 4, 2) := by decide +kernel
theorem dL_build_44 : decode cL_build 44 = .ok (.bipush 16, 2) := by decide +kernel
theorem dL_build_46 : decode cL_build 46 = .ok (.idiv, 1) := by decide +kernel
theorem dL_build_47 : decode cL_build 47 = .ok (.iconst 3, 1) := by decide +kernel
theorem dL_build_48 : decode cL_build 48 = .ok (.imul, 1) := by decide +kernel
theorem dL_build_49 : decode cL_build 49 = .ok (.ishr, 1) := by decide +kernel
theorem dL_build_50 : decode cL_build 50 = .ok (.sipush 401, 3) := by decide +kernel
theorem dL_build_53 : decode cL_build 53 = .ok (.iload 4, 2) := by decide +kernel
theorem dL_build_55 : decode cL_build 55 = .ok (.imul, 1) := by decide +kernel
theorem dL_build_56 : decode cL_build 56 = .ok (.iadd, 1) := by decide +kernel
theorem dL_build_57 : decode cL_build 57 = .ok (.iload 4, 2) := by decide +kernel
theorem dL_build_59 : decode cL_build 59 = .ok (.iconst 3, 1) := by decide +kernel
theorem dL_build_60 : decode cL_build 60 = .ok (.if_icmp .ge 9, 3) := by decide +kernel
theorem dL_build_63 : decode cL_build 63 = .ok (.sipush 512, 3) := by decide +kernel
theorem dL_build_66 : decode cL_build 66 = .ok (.goto 4, 3) := by decide +kernel
theorem dL_build_69 : decode cL_build 69 = .ok (.iconst 0, 1) := by decide +kernel
theorem dL_build_70 : decode cL_build 70 = .ok (.iadd, 1) := by decide +kernel
theorem dL_build_71 : decode cL_build 71 = .ok (.invokestatic 82, 3) := by decide +kernel
theorem dL_build_74 : decode cL_build 74 = .ok (.ifCond .ne 5, 3) := by decide +kernel
theorem dL_build_77 : decode cL_build 77 = .ok (.aconst_null, 1) := by decide +kernel
theorem dL_build_78 : decode cL_build 78 = .ok (.areturn, 1) := by decide +kernel
theorem dL_build_79 : decode cL_build 79 = .ok (.iinc 4 1, 3) := by decide +kernel
theorem dL_build_82 : decode cL_build 82 = .ok (.goto (-57), 3) := by decide +kernel
theorem dL_build_85 : decode cL_build 85 = .ok (.aload_n 2, 1) := by decide +kernel
theorem dL_build_86 : decode cL_build 86 = .ok (.areturn, 1) := by decide +kernel
end
section
section X1NEW
variable {p : Program} {l : Launch} {e : Env} {R : Room} {s : State} {m : MethodId} {args : Array Value} {below : List Frame} {meth : Method} {c : Code} {H : Heap} {locs : List Loc} {cells slots : Nat} {Q : State → Prop}
variable {cc : ByteArray} {nL pc : Nat} {ls : Array Slot} {rest : List Value} {D : va_G} {cI : ClassId} {t : Nat → Nat} {A : Nat → Prop} {own : String} {ws : va_W}
/-- a new row of numbers -/
theorem g_newa (C : gC p s m args meth c cc nL own D [(cI, .int)] t A) (hP : va_P D vwCl ws H) (hD : va_D A ws) (hS : va_S A s.heap H locs) {n : Int32} {N : Nat} (hn : n = nI N) (hN : N ≤ 1000) (hq : Cond.arrayClass .int ∈ wsL_law) {cells' slots' : Nat} (hc : cells + 1 = cells') (hs : slots + N = slots') (hRc : cells' ≤ R.cells) (hRs : slots' ≤ R.slots) (hdg : decode cc pc = .ok (.newarray .int, 2))
    (kk : ∀ (q : Nat) (H1 : Heap), va_P D vwCl (ws ++ [(q, .inl (cI, N, .inl (fun _ => 0)))]) H1 → va_D A (ws ++ [(q, .inl (cI, N, .inl (fun _ => 0)))]) → va_S A s.heap H1 locs → W p l e R s m args below meth c H1 locs cells' slots' Q (F0 m (pc + 2) ls (.ref q :: rest))) : W p l e R s m args below meth c H locs cells slots Q (F0 m pc ls (.int n :: rest)) := by
  subst hn
  subst hc
  subst hs
  refine va_newa (D := D) (atype := .int) (ty := .int) (a0 := (N, .inl (fun _ => 0))) C.1 C.2.1 (C.2.2.2.2.1 _ hq) rfl C.2.2.2.2.2.1 hP hD hS C.2.2.2.2.2.2.1 (fun _ => rfl) (nI_pos (by omega)) (nI_clamp (by omega)) (by show N * 4 ≤ 536870912; omega) hRc hRs hdg (fun q cA H1 hK1 hP1 hD1 hS1 => ?_)
  have e1 := (hK1.2 0 (cI, .int) rfl).2
  have e2 := (hK1.2 1 (cA, .int) rfl).2
  have e3 : cI = cA := Option.some.inj (e1.symm.trans e2)
  subst e3
  exact kk q H1 hP1 hD1 hS1
/-- a store into the row at place k -/
theorem g_st (C : gC p s m args meth c cc nL own D [(cI, .int)] t A) (hP : va_P D vwCl ws H) (hD : va_D A ws) (hS : va_S A s.heap H locs) (k : Nat) {a n i : Nat} {f : Nat → Int32} {i0 x : Int32} (ha : ws[k]? = some (a, .inl (cI, n, .inl f))) (hi : i < n) (hn : n ≤ 1000) (h0 : i0 = nI i) (hdg : decode cc pc = .ok (.iastore, 1))
    (kk : ∀ (H1 : Heap) (locs1 : List Loc), va_P D vwCl (ws.set k (a, .inl (cI, n, .inl (upd f i x)))) H1 → va_D A (ws.set k (a, .inl (cI, n, .inl (upd f i x)))) → va_S A s.heap H1 locs1 → W p l e R s m args below meth c H1 locs1 cells slots Q (F0 m (pc + 1) ls rest)) : W p l e R s m args below meth c H locs cells slots Q (F0 m pc ls (.int x :: .int i0 :: .ref a :: rest)) := by
  subst h0
  refine va_iast (D := D) C.1 C.2.1 C.2.2.2.2.2.1 hP hD hS k 0 ha rfl (vp_in_nI hi (by omega)) hdg (fun H1 locs1 hP1 hD1 hS1 => ?_)
  rw [nI_clamp (by omega)] at hP1 hD1
  exact kk H1 locs1 hP1 hD1 hS1
end X1NEW
section NNEW
variable {p : Program} {l : Launch} {e : Env} {R : Room} {s : State} {m : MethodId} {args : Array Value} {below : List Frame} {meth : Method} {c : Code} {H : Heap} {locs : List Loc} {cells slots : Nat} {Q : State → Prop}
variable {cc : ByteArray} {nL pc : Nat} {ls : Array Slot} {rest : List Value} {D : va_G} {cI : ClassId} {t : Nat → Nat} {A : Nat → Prop} {own : String} {ws : va_W} {ty : List (ClassId × FieldType)}
/-- a new row of numbers -/
theorem n_new (h0 : ty[0]? = some (cI, .int)) (C : gC p s m args meth c cc nL own D ty t A) (hP : va_P D vwCl ws H) (hD : va_D A ws) (hS : va_S A s.heap H locs) {n : Int32} {N : Nat} (hn : n = nI N) (hN : N ≤ 1000) (hq : Cond.arrayClass .int ∈ wsL_law) {cells' slots' : Nat} (hc : cells + 1 = cells') (hs : slots + N = slots') (hRc : cells' ≤ R.cells) (hRs : slots' ≤ R.slots) (hdg : decode cc pc = .ok (.newarray .int, 2))
    (kk : ∀ (q : Nat) (H1 : Heap), va_P D vwCl (ws ++ [(q, .inl (cI, N, .inl (fun _ => 0)))]) H1 → va_D A (ws ++ [(q, .inl (cI, N, .inl (fun _ => 0)))]) → va_S A s.heap H1 locs → W p l e R s m args below meth c H1 locs cells' slots' Q (F0 m (pc + 2) ls (.ref q :: rest))) : W p l e R s m args below meth c H locs cells slots Q (F0 m pc ls (.int n :: rest)) := by
  subst hn
  subst hc
  subst hs
  refine va_newa (D := D) (atype := .int) (ty := .int) (a0 := (N, .inl (fun _ => 0))) C.1 C.2.1 (C.2.2.2.2.1 _ hq) rfl C.2.2.2.2.2.1 hP hD hS C.2.2.2.2.2.2.1 (fun _ => rfl) (nI_pos (by omega)) (nI_clamp (by omega)) (by show N * 4 ≤ 536870912; omega) hRc hRs hdg (fun q cA H1 hK1 hP1 hD1 hS1 => ?_)
  have e1 := (C.2.2.2.2.2.1.2 0 (cI, .int) h0).2
  have e2 := (hK1.2 ty.length (cA, .int) (by rw [List.getElem?_append_right (Nat.le_refl _), Nat.sub_self]; rfl)).2
  have e3 : cI = cA := Option.some.inj (e1.symm.trans e2)
  subst e3
  exact kk q H1 hP1 hD1 hS1
/-- a store into the row at place k -/
theorem n_st (hty : ty[0]? = some (cI, .int)) (C : gC p s m args meth c cc nL own D ty t A) (hP : va_P D vwCl ws H) (hD : va_D A ws) (hS : va_S A s.heap H locs) (k : Nat) {a n i : Nat} {f : Nat → Int32} {i0 x : Int32} (ha : ws[k]? = some (a, .inl (cI, n, .inl f))) (hi : i < n) (hn : n ≤ 1000) (h0 : i0 = nI i) (hdg : decode cc pc = .ok (.iastore, 1))
    (kk : ∀ (H1 : Heap) (locs1 : List Loc), va_P D vwCl (ws.set k (a, .inl (cI, n, .inl (upd f i x)))) H1 → va_D A (ws.set k (a, .inl (cI, n, .inl (upd f i x)))) → va_S A s.heap H1 locs1 → W p l e R s m args below meth c H1 locs1 cells slots Q (F0 m (pc + 1) ls rest)) : W p l e R s m args below meth c H locs cells slots Q (F0 m pc ls (.int x :: .int i0 :: .ref a :: rest)) := by
  subst h0
  refine va_iast (D := D) C.1 C.2.1 C.2.2.2.2.2.1 hP hD hS k 0 ha hty (vp_in_nI hi (by omega)) hdg (fun H1 locs1 hP1 hD1 hS1 => ?_)
  rw [nI_clamp (by omega)] at hP1 hD1
  exact kk H1 locs1 hP1 hD1 hS1
theorem n_ld (hty : ty[0]? = some (cI, .int)) (C : gC p s m args meth c cc nL own D ty t A) (hP : va_P D vwCl ws H) (k : Nat) {a n i : Nat} {f : Nat → Int32} {i0 : Int32} (ha : ws[k]? = some (a, .inl (cI, n, .inl f))) (hi : i < n) (hn : n ≤ 1000) (h0 : i0 = nI i) (hdg : decode cc pc = .ok (.iaload, 1))
    (kk : W p l e R s m args below meth c H locs cells slots Q (F0 m (pc + 1) ls (.int (f i) :: rest))) : W p l e R s m args below meth c H locs cells slots Q (F0 m pc ls (.int i0 :: .ref a :: rest)) := by
  subst h0
  exact va_iald (D := D) C.1 C.2.1 C.2.2.2.2.2.1 hP k 0 ha hty (vp_in_nI hi (by omega)) hdg (by rw [nI_clamp (by omega)]; exact kk)
end NNEW
def gMd (l : Launch) (y : MethodName) (ws : List Cond) (rm : Room) (av : List Value) (D : va_G) (ty : List (ClassId × FieldType)) (t : Nat → Nat) (w : va_W) (sz : Nat) (post : UInt64 → va_W → Prop) : Prop := Met l y ws rm (va_Pc av (gP D ty t w sz)) (va_Qd post (fun w' U => gQ D (va_A w sz) w' U) (va_A w sz)) rm.cells rm.slots (va_A w sz)
theorem g_dret {p : Program} {l : Launch} {e : Env} {R : Room} {s : State} {m : MethodId} {args : Array Value} {below : List Frame} {meth : Method} {c : Code} {H : Heap} {locs : List Loc} {cells slots : Nat} {cc : ByteArray} {nL pc : Nat} {ls : Array Slot} {own : String} {D : va_G} {ty : List (ClassId × FieldType)} {t : Nat → Nat} {A : Nat → Prop} {w' : va_W} {post : UInt64 → va_W → Prop} {v : UInt64} (C : gC p s m args meth c cc nL own D ty t A) (hr : meth.sig.returnType = some .double) (hP : va_P D vwCl w' H) (hD : va_D A w') (hS : va_S A s.heap H locs) (hdg : decode cc pc = .ok (.dreturn, 1)) (hpost : post v w') :
    W p l e R s m args below meth c H locs cells slots (MQ below (va_Qd post (fun w' U => gQ D A w' U) A) args s cells slots A) (F0 m pc ls [.double v]) :=
  W.dret C.1 C.2.1 hr (fun t ht hW => ⟨⟨v, w', rfl, hpost, by rw [ht]; exact hP, hD⟩, hS.F ht⟩) hS.2.2 hdg C.2.2.2.2.2.2.2.2
theorem g_cd {p : Program} {l : Launch} {e : Env} {R : Room} {s : State} {m : MethodId} {args : Array Value} {below : List Frame} {meth : Method} {c : Code} {H : Heap} {locs : List Loc} {cells slots : Nat} {Q : State → Prop} {cc : ByteArray} {nL pc : Nat} {ls : Array Slot} {own : String} {D : va_G} {ty : List (ClassId × FieldType)} {t : Nat → Nat} {A : Nat → Prop} {wr wc : va_W} {rest st0 : List Value} {mc ms : Nat} {a : Array Value} {post : UInt64 → va_W → Prop} {cells' slots' : Nat} (hc : cells + mc = cells') (hs : slots + ms = slots') (C : gC p s m args meth c cc nL own D ty t A) (hPr : va_P D vwCl wr H) (hD : va_D A (wr ++ wc)) (hS : va_S A s.heap H locs) (hr : va_Run p l e R s m args below meth c H locs cells slots mc ms (F0 m pc ls st0) rest (va_Qd post (fun w' U => gQ D (va_A wc H.size) w' U) (va_A wc H.size) a) (va_A wc H.size))
    (kk : ∀ (r : UInt64) (w' : va_W) (H1 : Heap) (locs1 : List Loc), post r w' → H.size ≤ H1.size → va_P D vwCl wr H1 → va_P D vwCl w' H1 → va_D A (wr ++ w') → va_S A s.heap H1 locs1 → W p l e R s m args below meth c H1 locs1 cells' slots' Q (F0 m (pc + 3) ls (.double r :: rest))) : W p l e R s m args below meth c H locs cells slots Q (F0 m pc ls st0) := by
  subst hc
  subst hs
  have hF := rd_AA (rd_right hD) C.2.2.2.2.2.2.1 hS.1
  refine va_calld hr hS (fun q _ h => hF q h) hF (fun r w' t H1 locs1 ht _ hp hB hz hk hS1 => ?_)
  obtain ⟨b1, b2⟩ := hB
  rw [ht] at b1
  obtain ⟨c1, c2⟩ := rd_frame hPr hD hF hk b2
  exact kk r w' H1 locs1 hp hz c1 b1 c2 hS1
theorem bl_and (v : Int32) : 0 ≤ (v &&& 2147483647).toInt := by
  have h : (v &&& 2147483647).toBitVec.msb = false := by
    rw [Int32.toBitVec_and, BitVec.msb_and, show (2147483647 : Int32).toBitVec.msb = false from by decide +kernel, Bool.and_false]
  have e : (v &&& 2147483647).toInt = ((v &&& 2147483647).toBitVec.toNat : Int) := BitVec.toInt_eq_toNat_of_msb h
  omega
/-- what below answers -/
theorem bl_r (v : Int32) {n : Nat} (h0 : 0 < n) (h1 : n < 2147483648) : ∃ j : Nat, j < n ∧ (v &&& 2147483647) - (v &&& 2147483647) / nI n * nI n = nI j := by
  have a := bl_and v
  have e := rem_toInt (v &&& 2147483647) (nI n)
  rw [tI_nI h1, Int.tmod_eq_emod_of_nonneg a] at e
  have b0 := Int.emod_nonneg (v &&& 2147483647).toInt (show (n : Int) ≠ 0 by omega)
  have b1 := Int.emod_lt_of_pos (v &&& 2147483647).toInt (show 0 < (n : Int) by omega)
  refine ⟨((v &&& 2147483647).toInt % n).toNat, by omega, ?_⟩
  rw [tI_eq, e, tI_nI (by omega)]
  omega
/-- the answers of rate -/
def rl_low : Nat → Int32 := upd (upd (upd (upd (upd (fun _ => 0) 0 1) 1 1) 2 100) 3 0) 4 1
def rl_many : Nat → Int32 := upd (upd (upd (upd (upd (fun _ => 0) 0 40) 1 99) 2 801) 3 101) 4 9
def rl_mN (k : Nat) : Nat := match k with
  | 0 => 40
  | 1 => 99
  | 2 => 801
  | 3 => 101
  | _ => 9
theorem rl_mn {k : Nat} (hk : k < 5) : rl_many k = nI (rl_mN k) ∧ 0 < rl_mN k ∧ rl_mN k < 2147483648 := by
  rcases (show k = 0 ∨ k = 1 ∨ k = 2 ∨ k = 3 ∨ k = 4 by omega) with rfl | rfl | rfl | rfl | rfl <;> exact ⟨by decide +kernel, by decide, by decide⟩
theorem rl_rt {k j : Nat} (hk : k < 5) (hj : j < rl_mN k) : ¬ (rl_low k + nI j < rt_RX0_LEAST_RATE k) ∧ rl_low k + nI j ≤ rt_RX0_MOST_RATE k := by
  have e : ∀ (a b m : Int32), 0 ≤ a.toInt → a.toInt ≤ 100 → j < 801 → b = a → a.toInt + j ≤ m.toInt → ¬ (a + nI j < b) ∧ a + nI j ≤ m := by
    intro a b m h0 h1 h2 h3 h4
    have ej : (nI j).toInt = j := tI_nI (by omega)
    have ea : (a + nI j).toInt = a.toInt + j := by rw [tI_add (by rw [ej]; omega) (by rw [ej]; omega), ej]
    subst h3
    rw [tI_lt, tI_le, ea]
    omega
  rcases (show k = 0 ∨ k = 1 ∨ k = 2 ∨ k = 3 ∨ k = 4 by omega) with rfl | rfl | rfl | rfl | rfl
  · have hj : j < 40 := hj
    exact e 1 1 40 (by decide) (by decide) (by omega) rfl (by show (1 : Int) + j ≤ 40; omega)
  · have hj : j < 99 := hj
    exact e 1 1 99 (by decide) (by decide) (by omega) rfl (by show (1 : Int) + j ≤ 99; omega)
  · have hj : j < 801 := hj
    exact e 100 100 900 (by decide) (by decide) (by omega) rfl (by show (100 : Int) + j ≤ 900; omega)
  · have hj : j < 101 := hj
    exact e 0 0 100 (by decide) (by decide) (by omega) rfl (by show (0 : Int) + j ≤ 100; omega)
  · have hj : j < 9 := hj
    exact e 1 1 9 (by decide) (by decide) (by omega) rfl (by show (1 : Int) + j ≤ 9; omega)
end
section
def ra_u0 : S0 := (fun k => if k = 7 then upd (upd (upd (upd (upd (fun _ => 0) 0 12) 1 20) 2 400) 3 25) 4 4 else fun _ => 0, 0, 0)
theorem kd_X0_init : yX0_init.cls = yX0_init.cls ∧ yX0_init.cls ≠ "java/lang/invoke/MethodHandle" ∧ yX0_init.cls ≠ "java/lang/invoke/VarHandle" ∧ (parseMethodDescriptor yX0_init.desc).map (fun d => d.parameters.length) = some 0 := by decide +kernel
set_option maxHeartbeats 4000000 in
set_option maxRecDepth 100000 in
theorem mX0_init (l : Launch) (D : va_G) (t : Nat → Nat) (cI : ClassId) (o : Nat) (sz : Nat) : gMv l yX0_init (rw_ yX0_init cX0_init 1 none) (rm_ 1 12 75 60) [.ref o] D [(cI, .int)] t ([(o, .inr (0, [.null, .null, .null, .null, .null, .null, .null, .null, .null, .int 0, .int 0, .null, .null, .null]))]) sz (fun w' => ∃ ad, w' = ra_w cI o ad ra_u0) := by
  refine g_of (cc := cX0_init) (nL := 1) (rt := none) (Q := fun A => va_Qv _ (fun w' U => gQ D A w' U) A) (by decide) (Nat.le_of_ble_eq_true rfl) (fun p e s m args below meth c A ls H C hrt hnm hS hP hD hl => ?_)
  have hx := C.1
  have hb := C.2.1
  have hown := C.2.2.2.1
  have hts := C.2.2.2.2.1
  have hin : meth.name = "<init>" := hnm
  have hl : lv_has ls 1 [(0, .ref o)] := hl
  refine lv_aload_n hx hb dX0_init_0 rfl (lv_at hl 0 rfl) ?_
  refine W.objInit hx hb hown (hts _ q8) (hts _ q9) (hts _ q10) rfl (by rw [C.2.2.1]; exact hl.1) rfl dX0_init_1 (Nat.le_of_ble_eq_true rfl) (Nat.le_of_ble_eq_true rfl) ?_
  refine W.eq (g2 := F0 m 4 ls []) rfl ?_
  refine lv_aload_n hx hb dX0_init_4 rfl (lv_at hl 0 rfl) ?_
  refine lv_bipush (v := 8) hx hb dX0_init_5 (by decide) ?_
  refine g_newa C hP hD hS (N := 8) rfl (by decide) q4 (cells' := 1) (slots' := 8) rfl rfl (Nat.le_of_ble_eq_true rfl) (Nat.le_of_ble_eq_true rfl) dX0_init_7 (fun qa0 H hP hD hS => ?_)
  have hP : va_P D vwCl [(o, .inr (0, [.null, .null, .null, .null, .null, .null, .null, .null, .null, .int 0, .int 0, .null, .null, .null])), (qa0, .inl (cI, 8, .inl (fun _ => 0)))] H := hP
  have hD : va_D A [(o, .inr (0, [.null, .null, .null, .null, .null, .null, .null, .null, .null, .int 0, .int 0, .null, .null, .null])), (qa0, .inl (cI, 8, .inl (fun _ => 0)))] := hD
  refine va_putF (D := D) (ci := 0) (v := .ref qa0) (ty := .array .int) (C := RX0) (T := TX0) (N := 14) hx hb hts inlX0 tyX0 tyX0_ok nmX0 hown C.2.2.2.2.2.1 hP hD hS 0 rfl rfl 0 (by decide) (hts _ q11) (fun x h => h) rfl hin rfl (by decide +kernel) rfl rfl (Nat.le_of_ble_eq_true rfl) dX0_init_9 (fun H locs hP hD hS => ?_)
  have hP : va_P D vwCl [(o, .inr (0, [.ref qa0, .null, .null, .null, .null, .null, .null, .null, .null, .int 0, .int 0, .null, .null, .null])), (qa0, .inl (cI, 8, .inl (fun _ => 0)))] H := hP
  have hD : va_D A [(o, .inr (0, [.ref qa0, .null, .null, .null, .null, .null, .null, .null, .null, .int 0, .int 0, .null, .null, .null])), (qa0, .inl (cI, 8, .inl (fun _ => 0)))] := hD
  refine lv_aload_n hx hb dX0_init_12 rfl (lv_at hl 0 rfl) ?_
  refine lv_bipush (v := 8) hx hb dX0_init_13 (by decide) ?_
  refine g_newa C hP hD hS (N := 8) rfl (by decide) q4 (cells' := 2) (slots' := 16) rfl rfl (Nat.le_of_ble_eq_true rfl) (Nat.le_of_ble_eq_true rfl) dX0_init_15 (fun qa1 H hP hD hS => ?_)
  have hP : va_P D vwCl [(o, .inr (0, [.ref qa0, .null, .null, .null, .null, .null, .null, .null, .null, .int 0, .int 0, .null, .null, .null])), (qa0, .inl (cI, 8, .inl (fun _ => 0))), (qa1, .inl (cI, 8, .inl (fun _ => 0)))] H := hP
  have hD : va_D A [(o, .inr (0, [.ref qa0, .null, .null, .null, .null, .null, .null, .null, .null, .int 0, .int 0, .null, .null, .null])), (qa0, .inl (cI, 8, .inl (fun _ => 0))), (qa1, .inl (cI, 8, .inl (fun _ => 0)))] := hD
  refine va_putF (D := D) (ci := 0) (v := .ref qa1) (ty := .array .int) (C := RX0) (T := TX0) (N := 14) hx hb hts inlX0 tyX0 tyX0_ok nmX0 hown C.2.2.2.2.2.1 hP hD hS 0 rfl rfl 1 (by decide) (hts _ q12) (fun x h => h) rfl hin rfl (by decide +kernel) rfl rfl (Nat.le_of_ble_eq_true rfl) dX0_init_17 (fun H locs hP hD hS => ?_)
  have hP : va_P D vwCl [(o, .inr (0, [.ref qa0, .ref qa1, .null, .null, .null, .null, .null, .null, .null, .int 0, .int 0, .null, .null, .null])), (qa0, .inl (cI, 8, .inl (fun _ => 0))), (qa1, .inl (cI, 8, .inl (fun _ => 0)))] H := hP
  have hD : va_D A [(o, .inr (0, [.ref qa0, .ref qa1, .null, .null, .null, .null, .null, .null, .null, .int 0, .int 0, .null, .null, .null])), (qa0, .inl (cI, 8, .inl (fun _ => 0))), (qa1, .inl (cI, 8, .inl (fun _ => 0)))] := hD
  refine lv_aload_n hx hb dX0_init_20 rfl (lv_at hl 0 rfl) ?_
  refine lv_bipush (v := 8) hx hb dX0_init_21 (by decide) ?_
  refine g_newa C hP hD hS (N := 8) rfl (by decide) q4 (cells' := 3) (slots' := 24) rfl rfl (Nat.le_of_ble_eq_true rfl) (Nat.le_of_ble_eq_true rfl) dX0_init_23 (fun qa2 H hP hD hS => ?_)
  have hP : va_P D vwCl [(o, .inr (0, [.ref qa0, .ref qa1, .null, .null, .null, .null, .null, .null, .null, .int 0, .int 0, .null, .null, .null])), (qa0, .inl (cI, 8, .inl (fun _ => 0))), (qa1, .inl (cI, 8, .inl (fun _ => 0))), (qa2, .inl (cI, 8, .inl (fun _ => 0)))] H := hP
  have hD : va_D A [(o, .inr (0, [.ref qa0, .ref qa1, .null, .null, .null, .null, .null, .null, .null, .int 0, .int 0, .null, .null, .null])), (qa0, .inl (cI, 8, .inl (fun _ => 0))), (qa1, .inl (cI, 8, .inl (fun _ => 0))), (qa2, .inl (cI, 8, .inl (fun _ => 0)))] := hD
  refine va_putF (D := D) (ci := 0) (v := .ref qa2) (ty := .array .int) (C := RX0) (T := TX0) (N := 14) hx hb hts inlX0 tyX0 tyX0_ok nmX0 hown C.2.2.2.2.2.1 hP hD hS 0 rfl rfl 2 (by decide) (hts _ q13) (fun x h => h) rfl hin rfl (by decide +kernel) rfl rfl (Nat.le_of_ble_eq_true rfl) dX0_init_25 (fun H locs hP hD hS => ?_)
  have hP : va_P D vwCl [(o, .inr (0, [.ref qa0, .ref qa1, .ref qa2, .null, .null, .null, .null, .null, .null, .int 0, .int 0, .null, .null, .null])), (qa0, .inl (cI, 8, .inl (fun _ => 0))), (qa1, .inl (cI, 8, .inl (fun _ => 0))), (qa2, .inl (cI, 8, .inl (fun _ => 0)))] H := hP
  have hD : va_D A [(o, .inr (0, [.ref qa0, .ref qa1, .ref qa2, .null, .null, .null, .null, .null, .null, .int 0, .int 0, .null, .null, .null])), (qa0, .inl (cI, 8, .inl (fun _ => 0))), (qa1, .inl (cI, 8, .inl (fun _ => 0))), (qa2, .inl (cI, 8, .inl (fun _ => 0)))] := hD
  refine lv_aload_n hx hb dX0_init_28 rfl (lv_at hl 0 rfl) ?_
  refine lv_bipush (v := 8) hx hb dX0_init_29 (by decide) ?_
  refine g_newa C hP hD hS (N := 8) rfl (by decide) q4 (cells' := 4) (slots' := 32) rfl rfl (Nat.le_of_ble_eq_true rfl) (Nat.le_of_ble_eq_true rfl) dX0_init_31 (fun qa3 H hP hD hS => ?_)
  have hP : va_P D vwCl [(o, .inr (0, [.ref qa0, .ref qa1, .ref qa2, .null, .null, .null, .null, .null, .null, .int 0, .int 0, .null, .null, .null])), (qa0, .inl (cI, 8, .inl (fun _ => 0))), (qa1, .inl (cI, 8, .inl (fun _ => 0))), (qa2, .inl (cI, 8, .inl (fun _ => 0))), (qa3, .inl (cI, 8, .inl (fun _ => 0)))] H := hP
  have hD : va_D A [(o, .inr (0, [.ref qa0, .ref qa1, .ref qa2, .null, .null, .null, .null, .null, .null, .int 0, .int 0, .null, .null, .null])), (qa0, .inl (cI, 8, .inl (fun _ => 0))), (qa1, .inl (cI, 8, .inl (fun _ => 0))), (qa2, .inl (cI, 8, .inl (fun _ => 0))), (qa3, .inl (cI, 8, .inl (fun _ => 0)))] := hD
  refine va_putF (D := D) (ci := 0) (v := .ref qa3) (ty := .array .int) (C := RX0) (T := TX0) (N := 14) hx hb hts inlX0 tyX0 tyX0_ok nmX0 hown C.2.2.2.2.2.1 hP hD hS 0 rfl rfl 3 (by decide) (hts _ q14) (fun x h => h) rfl hin rfl (by decide +kernel) rfl rfl (Nat.le_of_ble_eq_true rfl) dX0_init_33 (fun H locs hP hD hS => ?_)
  have hP : va_P D vwCl [(o, .inr (0, [.ref qa0, .ref qa1, .ref qa2, .ref qa3, .null, .null, .null, .null, .null, .int 0, .int 0, .null, .null, .null])), (qa0, .inl (cI, 8, .inl (fun _ => 0))), (qa1, .inl (cI, 8, .inl (fun _ => 0))), (qa2, .inl (cI, 8, .inl (fun _ => 0))), (qa3, .inl (cI, 8, .inl (fun _ => 0)))] H := hP
  have hD : va_D A [(o, .inr (0, [.ref qa0, .ref qa1, .ref qa2, .ref qa3, .null, .null, .null, .null, .null, .int 0, .int 0, .null, .null, .null])), (qa0, .inl (cI, 8, .inl (fun _ => 0))), (qa1, .inl (cI, 8, .inl (fun _ => 0))), (qa2, .inl (cI, 8, .inl (fun _ => 0))), (qa3, .inl (cI, 8, .inl (fun _ => 0)))] := hD
  refine lv_aload_n hx hb dX0_init_36 rfl (lv_at hl 0 rfl) ?_
  refine lv_bipush (v := 8) hx hb dX0_init_37 (by decide) ?_
  refine g_newa C hP hD hS (N := 8) rfl (by decide) q4 (cells' := 5) (slots' := 40) rfl rfl (Nat.le_of_ble_eq_true rfl) (Nat.le_of_ble_eq_true rfl) dX0_init_39 (fun qa4 H hP hD hS => ?_)
  have hP : va_P D vwCl [(o, .inr (0, [.ref qa0, .ref qa1, .ref qa2, .ref qa3, .null, .null, .null, .null, .null, .int 0, .int 0, .null, .null, .null])), (qa0, .inl (cI, 8, .inl (fun _ => 0))), (qa1, .inl (cI, 8, .inl (fun _ => 0))), (qa2, .inl (cI, 8, .inl (fun _ => 0))), (qa3, .inl (cI, 8, .inl (fun _ => 0))), (qa4, .inl (cI, 8, .inl (fun _ => 0)))] H := hP
  have hD : va_D A [(o, .inr (0, [.ref qa0, .ref qa1, .ref qa2, .ref qa3, .null, .null, .null, .null, .null, .int 0, .int 0, .null, .null, .null])), (qa0, .inl (cI, 8, .inl (fun _ => 0))), (qa1, .inl (cI, 8, .inl (fun _ => 0))), (qa2, .inl (cI, 8, .inl (fun _ => 0))), (qa3, .inl (cI, 8, .inl (fun _ => 0))), (qa4, .inl (cI, 8, .inl (fun _ => 0)))] := hD
  refine va_putF (D := D) (ci := 0) (v := .ref qa4) (ty := .array .int) (C := RX0) (T := TX0) (N := 14) hx hb hts inlX0 tyX0 tyX0_ok nmX0 hown C.2.2.2.2.2.1 hP hD hS 0 rfl rfl 4 (by decide) (hts _ q15) (fun x h => h) rfl hin rfl (by decide +kernel) rfl rfl (Nat.le_of_ble_eq_true rfl) dX0_init_41 (fun H locs hP hD hS => ?_)
  have hP : va_P D vwCl [(o, .inr (0, [.ref qa0, .ref qa1, .ref qa2, .ref qa3, .ref qa4, .null, .null, .null, .null, .int 0, .int 0, .null, .null, .null])), (qa0, .inl (cI, 8, .inl (fun _ => 0))), (qa1, .inl (cI, 8, .inl (fun _ => 0))), (qa2, .inl (cI, 8, .inl (fun _ => 0))), (qa3, .inl (cI, 8, .inl (fun _ => 0))), (qa4, .inl (cI, 8, .inl (fun _ => 0)))] H := hP
  have hD : va_D A [(o, .inr (0, [.ref qa0, .ref qa1, .ref qa2, .ref qa3, .ref qa4, .null, .null, .null, .null, .int 0, .int 0, .null, .null, .null])), (qa0, .inl (cI, 8, .inl (fun _ => 0))), (qa1, .inl (cI, 8, .inl (fun _ => 0))), (qa2, .inl (cI, 8, .inl (fun _ => 0))), (qa3, .inl (cI, 8, .inl (fun _ => 0))), (qa4, .inl (cI, 8, .inl (fun _ => 0)))] := hD
  refine lv_aload_n hx hb dX0_init_44 rfl (lv_at hl 0 rfl) ?_
  refine lv_bipush (v := 8) hx hb dX0_init_45 (by decide) ?_
  refine g_newa C hP hD hS (N := 8) rfl (by decide) q4 (cells' := 6) (slots' := 48) rfl rfl (Nat.le_of_ble_eq_true rfl) (Nat.le_of_ble_eq_true rfl) dX0_init_47 (fun qa5 H hP hD hS => ?_)
  have hP : va_P D vwCl [(o, .inr (0, [.ref qa0, .ref qa1, .ref qa2, .ref qa3, .ref qa4, .null, .null, .null, .null, .int 0, .int 0, .null, .null, .null])), (qa0, .inl (cI, 8, .inl (fun _ => 0))), (qa1, .inl (cI, 8, .inl (fun _ => 0))), (qa2, .inl (cI, 8, .inl (fun _ => 0))), (qa3, .inl (cI, 8, .inl (fun _ => 0))), (qa4, .inl (cI, 8, .inl (fun _ => 0))), (qa5, .inl (cI, 8, .inl (fun _ => 0)))] H := hP
  have hD : va_D A [(o, .inr (0, [.ref qa0, .ref qa1, .ref qa2, .ref qa3, .ref qa4, .null, .null, .null, .null, .int 0, .int 0, .null, .null, .null])), (qa0, .inl (cI, 8, .inl (fun _ => 0))), (qa1, .inl (cI, 8, .inl (fun _ => 0))), (qa2, .inl (cI, 8, .inl (fun _ => 0))), (qa3, .inl (cI, 8, .inl (fun _ => 0))), (qa4, .inl (cI, 8, .inl (fun _ => 0))), (qa5, .inl (cI, 8, .inl (fun _ => 0)))] := hD
  refine va_putF (D := D) (ci := 0) (v := .ref qa5) (ty := .array .int) (C := RX0) (T := TX0) (N := 14) hx hb hts inlX0 tyX0 tyX0_ok nmX0 hown C.2.2.2.2.2.1 hP hD hS 0 rfl rfl 5 (by decide) (hts _ q16) (fun x h => h) rfl hin rfl (by decide +kernel) rfl rfl (Nat.le_of_ble_eq_true rfl) dX0_init_49 (fun H locs hP hD hS => ?_)
  have hP : va_P D vwCl [(o, .inr (0, [.ref qa0, .ref qa1, .ref qa2, .ref qa3, .ref qa4, .ref qa5, .null, .null, .null, .int 0, .int 0, .null, .null, .null])), (qa0, .inl (cI, 8, .inl (fun _ => 0))), (qa1, .inl (cI, 8, .inl (fun _ => 0))), (qa2, .inl (cI, 8, .inl (fun _ => 0))), (qa3, .inl (cI, 8, .inl (fun _ => 0))), (qa4, .inl (cI, 8, .inl (fun _ => 0))), (qa5, .inl (cI, 8, .inl (fun _ => 0)))] H := hP
  have hD : va_D A [(o, .inr (0, [.ref qa0, .ref qa1, .ref qa2, .ref qa3, .ref qa4, .ref qa5, .null, .null, .null, .int 0, .int 0, .null, .null, .null])), (qa0, .inl (cI, 8, .inl (fun _ => 0))), (qa1, .inl (cI, 8, .inl (fun _ => 0))), (qa2, .inl (cI, 8, .inl (fun _ => 0))), (qa3, .inl (cI, 8, .inl (fun _ => 0))), (qa4, .inl (cI, 8, .inl (fun _ => 0))), (qa5, .inl (cI, 8, .inl (fun _ => 0)))] := hD
  refine lv_aload_n hx hb dX0_init_52 rfl (lv_at hl 0 rfl) ?_
  refine lv_bipush (v := 8) hx hb dX0_init_53 (by decide) ?_
  refine g_newa C hP hD hS (N := 8) rfl (by decide) q4 (cells' := 7) (slots' := 56) rfl rfl (Nat.le_of_ble_eq_true rfl) (Nat.le_of_ble_eq_true rfl) dX0_init_55 (fun qa6 H hP hD hS => ?_)
  have hP : va_P D vwCl [(o, .inr (0, [.ref qa0, .ref qa1, .ref qa2, .ref qa3, .ref qa4, .ref qa5, .null, .null, .null, .int 0, .int 0, .null, .null, .null])), (qa0, .inl (cI, 8, .inl (fun _ => 0))), (qa1, .inl (cI, 8, .inl (fun _ => 0))), (qa2, .inl (cI, 8, .inl (fun _ => 0))), (qa3, .inl (cI, 8, .inl (fun _ => 0))), (qa4, .inl (cI, 8, .inl (fun _ => 0))), (qa5, .inl (cI, 8, .inl (fun _ => 0))), (qa6, .inl (cI, 8, .inl (fun _ => 0)))] H := hP
  have hD : va_D A [(o, .inr (0, [.ref qa0, .ref qa1, .ref qa2, .ref qa3, .ref qa4, .ref qa5, .null, .null, .null, .int 0, .int 0, .null, .null, .null])), (qa0, .inl (cI, 8, .inl (fun _ => 0))), (qa1, .inl (cI, 8, .inl (fun _ => 0))), (qa2, .inl (cI, 8, .inl (fun _ => 0))), (qa3, .inl (cI, 8, .inl (fun _ => 0))), (qa4, .inl (cI, 8, .inl (fun _ => 0))), (qa5, .inl (cI, 8, .inl (fun _ => 0))), (qa6, .inl (cI, 8, .inl (fun _ => 0)))] := hD
  refine va_putF (D := D) (ci := 0) (v := .ref qa6) (ty := .array .int) (C := RX0) (T := TX0) (N := 14) hx hb hts inlX0 tyX0 tyX0_ok nmX0 hown C.2.2.2.2.2.1 hP hD hS 0 rfl rfl 6 (by decide) (hts _ q17) (fun x h => h) rfl hin rfl (by decide +kernel) rfl rfl (Nat.le_of_ble_eq_true rfl) dX0_init_57 (fun H locs hP hD hS => ?_)
  have hP : va_P D vwCl [(o, .inr (0, [.ref qa0, .ref qa1, .ref qa2, .ref qa3, .ref qa4, .ref qa5, .ref qa6, .null, .null, .int 0, .int 0, .null, .null, .null])), (qa0, .inl (cI, 8, .inl (fun _ => 0))), (qa1, .inl (cI, 8, .inl (fun _ => 0))), (qa2, .inl (cI, 8, .inl (fun _ => 0))), (qa3, .inl (cI, 8, .inl (fun _ => 0))), (qa4, .inl (cI, 8, .inl (fun _ => 0))), (qa5, .inl (cI, 8, .inl (fun _ => 0))), (qa6, .inl (cI, 8, .inl (fun _ => 0)))] H := hP
  have hD : va_D A [(o, .inr (0, [.ref qa0, .ref qa1, .ref qa2, .ref qa3, .ref qa4, .ref qa5, .ref qa6, .null, .null, .int 0, .int 0, .null, .null, .null])), (qa0, .inl (cI, 8, .inl (fun _ => 0))), (qa1, .inl (cI, 8, .inl (fun _ => 0))), (qa2, .inl (cI, 8, .inl (fun _ => 0))), (qa3, .inl (cI, 8, .inl (fun _ => 0))), (qa4, .inl (cI, 8, .inl (fun _ => 0))), (qa5, .inl (cI, 8, .inl (fun _ => 0))), (qa6, .inl (cI, 8, .inl (fun _ => 0)))] := hD
  refine lv_aload_n hx hb dX0_init_60 rfl (lv_at hl 0 rfl) ?_
  refine lv_iconst (v := 5) hx hb dX0_init_61 (by decide) ?_
  refine g_newa C hP hD hS (N := 5) rfl (by decide) q4 (cells' := 8) (slots' := 61) rfl rfl (Nat.le_of_ble_eq_true rfl) (Nat.le_of_ble_eq_true rfl) dX0_init_62 (fun qa7 H hP hD hS => ?_)
  have hP : va_P D vwCl [(o, .inr (0, [.ref qa0, .ref qa1, .ref qa2, .ref qa3, .ref qa4, .ref qa5, .ref qa6, .null, .null, .int 0, .int 0, .null, .null, .null])), (qa0, .inl (cI, 8, .inl (fun _ => 0))), (qa1, .inl (cI, 8, .inl (fun _ => 0))), (qa2, .inl (cI, 8, .inl (fun _ => 0))), (qa3, .inl (cI, 8, .inl (fun _ => 0))), (qa4, .inl (cI, 8, .inl (fun _ => 0))), (qa5, .inl (cI, 8, .inl (fun _ => 0))), (qa6, .inl (cI, 8, .inl (fun _ => 0))), (qa7, .inl (cI, 5, .inl (fun _ => 0)))] H := hP
  have hD : va_D A [(o, .inr (0, [.ref qa0, .ref qa1, .ref qa2, .ref qa3, .ref qa4, .ref qa5, .ref qa6, .null, .null, .int 0, .int 0, .null, .null, .null])), (qa0, .inl (cI, 8, .inl (fun _ => 0))), (qa1, .inl (cI, 8, .inl (fun _ => 0))), (qa2, .inl (cI, 8, .inl (fun _ => 0))), (qa3, .inl (cI, 8, .inl (fun _ => 0))), (qa4, .inl (cI, 8, .inl (fun _ => 0))), (qa5, .inl (cI, 8, .inl (fun _ => 0))), (qa6, .inl (cI, 8, .inl (fun _ => 0))), (qa7, .inl (cI, 5, .inl (fun _ => 0)))] := hD
  refine lv_dup hx hb dX0_init_64 rfl ?_
  refine lv_iconst (v := 0) hx hb dX0_init_65 (by decide) ?_
  refine lv_bipush (v := 12) hx hb dX0_init_66 (by decide) ?_
  refine g_st C hP hD hS 8 (i := 0) rfl (by decide) (by decide) rfl dX0_init_68 (fun H locs hP hD hS => ?_)
  have hP : va_P D vwCl [(o, .inr (0, [.ref qa0, .ref qa1, .ref qa2, .ref qa3, .ref qa4, .ref qa5, .ref qa6, .null, .null, .int 0, .int 0, .null, .null, .null])), (qa0, .inl (cI, 8, .inl (fun _ => 0))), (qa1, .inl (cI, 8, .inl (fun _ => 0))), (qa2, .inl (cI, 8, .inl (fun _ => 0))), (qa3, .inl (cI, 8, .inl (fun _ => 0))), (qa4, .inl (cI, 8, .inl (fun _ => 0))), (qa5, .inl (cI, 8, .inl (fun _ => 0))), (qa6, .inl (cI, 8, .inl (fun _ => 0))), (qa7, .inl (cI, 5, .inl (upd (fun _ => 0) 0 12)))] H := hP
  have hD : va_D A [(o, .inr (0, [.ref qa0, .ref qa1, .ref qa2, .ref qa3, .ref qa4, .ref qa5, .ref qa6, .null, .null, .int 0, .int 0, .null, .null, .null])), (qa0, .inl (cI, 8, .inl (fun _ => 0))), (qa1, .inl (cI, 8, .inl (fun _ => 0))), (qa2, .inl (cI, 8, .inl (fun _ => 0))), (qa3, .inl (cI, 8, .inl (fun _ => 0))), (qa4, .inl (cI, 8, .inl (fun _ => 0))), (qa5, .inl (cI, 8, .inl (fun _ => 0))), (qa6, .inl (cI, 8, .inl (fun _ => 0))), (qa7, .inl (cI, 5, .inl (upd (fun _ => 0) 0 12)))] := hD
  refine lv_dup hx hb dX0_init_69 rfl ?_
  refine lv_iconst (v := 1) hx hb dX0_init_70 (by decide) ?_
  refine lv_bipush (v := 20) hx hb dX0_init_71 (by decide) ?_
  refine g_st C hP hD hS 8 (i := 1) rfl (by decide) (by decide) rfl dX0_init_73 (fun H locs hP hD hS => ?_)
  have hP : va_P D vwCl [(o, .inr (0, [.ref qa0, .ref qa1, .ref qa2, .ref qa3, .ref qa4, .ref qa5, .ref qa6, .null, .null, .int 0, .int 0, .null, .null, .null])), (qa0, .inl (cI, 8, .inl (fun _ => 0))), (qa1, .inl (cI, 8, .inl (fun _ => 0))), (qa2, .inl (cI, 8, .inl (fun _ => 0))), (qa3, .inl (cI, 8, .inl (fun _ => 0))), (qa4, .inl (cI, 8, .inl (fun _ => 0))), (qa5, .inl (cI, 8, .inl (fun _ => 0))), (qa6, .inl (cI, 8, .inl (fun _ => 0))), (qa7, .inl (cI, 5, .inl (upd (upd (fun _ => 0) 0 12) 1 20)))] H := hP
  have hD : va_D A [(o, .inr (0, [.ref qa0, .ref qa1, .ref qa2, .ref qa3, .ref qa4, .ref qa5, .ref qa6, .null, .null, .int 0, .int 0, .null, .null, .null])), (qa0, .inl (cI, 8, .inl (fun _ => 0))), (qa1, .inl (cI, 8, .inl (fun _ => 0))), (qa2, .inl (cI, 8, .inl (fun _ => 0))), (qa3, .inl (cI, 8, .inl (fun _ => 0))), (qa4, .inl (cI, 8, .inl (fun _ => 0))), (qa5, .inl (cI, 8, .inl (fun _ => 0))), (qa6, .inl (cI, 8, .inl (fun _ => 0))), (qa7, .inl (cI, 5, .inl (upd (upd (fun _ => 0) 0 12) 1 20)))] := hD
  refine lv_dup hx hb dX0_init_74 rfl ?_
  refine lv_iconst (v := 2) hx hb dX0_init_75 (by decide) ?_
  refine lv_sipush (v := 400) hx hb dX0_init_76 (by decide) ?_
  refine g_st C hP hD hS 8 (i := 2) rfl (by decide) (by decide) rfl dX0_init_79 (fun H locs hP hD hS => ?_)
  have hP : va_P D vwCl [(o, .inr (0, [.ref qa0, .ref qa1, .ref qa2, .ref qa3, .ref qa4, .ref qa5, .ref qa6, .null, .null, .int 0, .int 0, .null, .null, .null])), (qa0, .inl (cI, 8, .inl (fun _ => 0))), (qa1, .inl (cI, 8, .inl (fun _ => 0))), (qa2, .inl (cI, 8, .inl (fun _ => 0))), (qa3, .inl (cI, 8, .inl (fun _ => 0))), (qa4, .inl (cI, 8, .inl (fun _ => 0))), (qa5, .inl (cI, 8, .inl (fun _ => 0))), (qa6, .inl (cI, 8, .inl (fun _ => 0))), (qa7, .inl (cI, 5, .inl (upd (upd (upd (fun _ => 0) 0 12) 1 20) 2 400)))] H := hP
  have hD : va_D A [(o, .inr (0, [.ref qa0, .ref qa1, .ref qa2, .ref qa3, .ref qa4, .ref qa5, .ref qa6, .null, .null, .int 0, .int 0, .null, .null, .null])), (qa0, .inl (cI, 8, .inl (fun _ => 0))), (qa1, .inl (cI, 8, .inl (fun _ => 0))), (qa2, .inl (cI, 8, .inl (fun _ => 0))), (qa3, .inl (cI, 8, .inl (fun _ => 0))), (qa4, .inl (cI, 8, .inl (fun _ => 0))), (qa5, .inl (cI, 8, .inl (fun _ => 0))), (qa6, .inl (cI, 8, .inl (fun _ => 0))), (qa7, .inl (cI, 5, .inl (upd (upd (upd (fun _ => 0) 0 12) 1 20) 2 400)))] := hD
  refine lv_dup hx hb dX0_init_80 rfl ?_
  refine lv_iconst (v := 3) hx hb dX0_init_81 (by decide) ?_
  refine lv_bipush (v := 25) hx hb dX0_init_82 (by decide) ?_
  refine g_st C hP hD hS 8 (i := 3) rfl (by decide) (by decide) rfl dX0_init_84 (fun H locs hP hD hS => ?_)
  have hP : va_P D vwCl [(o, .inr (0, [.ref qa0, .ref qa1, .ref qa2, .ref qa3, .ref qa4, .ref qa5, .ref qa6, .null, .null, .int 0, .int 0, .null, .null, .null])), (qa0, .inl (cI, 8, .inl (fun _ => 0))), (qa1, .inl (cI, 8, .inl (fun _ => 0))), (qa2, .inl (cI, 8, .inl (fun _ => 0))), (qa3, .inl (cI, 8, .inl (fun _ => 0))), (qa4, .inl (cI, 8, .inl (fun _ => 0))), (qa5, .inl (cI, 8, .inl (fun _ => 0))), (qa6, .inl (cI, 8, .inl (fun _ => 0))), (qa7, .inl (cI, 5, .inl (upd (upd (upd (upd (fun _ => 0) 0 12) 1 20) 2 400) 3 25)))] H := hP
  have hD : va_D A [(o, .inr (0, [.ref qa0, .ref qa1, .ref qa2, .ref qa3, .ref qa4, .ref qa5, .ref qa6, .null, .null, .int 0, .int 0, .null, .null, .null])), (qa0, .inl (cI, 8, .inl (fun _ => 0))), (qa1, .inl (cI, 8, .inl (fun _ => 0))), (qa2, .inl (cI, 8, .inl (fun _ => 0))), (qa3, .inl (cI, 8, .inl (fun _ => 0))), (qa4, .inl (cI, 8, .inl (fun _ => 0))), (qa5, .inl (cI, 8, .inl (fun _ => 0))), (qa6, .inl (cI, 8, .inl (fun _ => 0))), (qa7, .inl (cI, 5, .inl (upd (upd (upd (upd (fun _ => 0) 0 12) 1 20) 2 400) 3 25)))] := hD
  refine lv_dup hx hb dX0_init_85 rfl ?_
  refine lv_iconst (v := 4) hx hb dX0_init_86 (by decide) ?_
  refine lv_iconst (v := 4) hx hb dX0_init_87 (by decide) ?_
  refine g_st C hP hD hS 8 (i := 4) rfl (by decide) (by decide) rfl dX0_init_88 (fun H locs hP hD hS => ?_)
  have hP : va_P D vwCl [(o, .inr (0, [.ref qa0, .ref qa1, .ref qa2, .ref qa3, .ref qa4, .ref qa5, .ref qa6, .null, .null, .int 0, .int 0, .null, .null, .null])), (qa0, .inl (cI, 8, .inl (fun _ => 0))), (qa1, .inl (cI, 8, .inl (fun _ => 0))), (qa2, .inl (cI, 8, .inl (fun _ => 0))), (qa3, .inl (cI, 8, .inl (fun _ => 0))), (qa4, .inl (cI, 8, .inl (fun _ => 0))), (qa5, .inl (cI, 8, .inl (fun _ => 0))), (qa6, .inl (cI, 8, .inl (fun _ => 0))), (qa7, .inl (cI, 5, .inl (upd (upd (upd (upd (upd (fun _ => 0) 0 12) 1 20) 2 400) 3 25) 4 4)))] H := hP
  have hD : va_D A [(o, .inr (0, [.ref qa0, .ref qa1, .ref qa2, .ref qa3, .ref qa4, .ref qa5, .ref qa6, .null, .null, .int 0, .int 0, .null, .null, .null])), (qa0, .inl (cI, 8, .inl (fun _ => 0))), (qa1, .inl (cI, 8, .inl (fun _ => 0))), (qa2, .inl (cI, 8, .inl (fun _ => 0))), (qa3, .inl (cI, 8, .inl (fun _ => 0))), (qa4, .inl (cI, 8, .inl (fun _ => 0))), (qa5, .inl (cI, 8, .inl (fun _ => 0))), (qa6, .inl (cI, 8, .inl (fun _ => 0))), (qa7, .inl (cI, 5, .inl (upd (upd (upd (upd (upd (fun _ => 0) 0 12) 1 20) 2 400) 3 25) 4 4)))] := hD
  refine va_putF (D := D) (ci := 0) (v := .ref qa7) (ty := .array .int) (C := RX0) (T := TX0) (N := 14) hx hb hts inlX0 tyX0 tyX0_ok nmX0 hown C.2.2.2.2.2.1 hP hD hS 0 rfl rfl 7 (by decide) (hts _ q18) (fun x h => h) rfl hin rfl (by decide +kernel) rfl rfl (Nat.le_of_ble_eq_true rfl) dX0_init_89 (fun H locs hP hD hS => ?_)
  have hP : va_P D vwCl [(o, .inr (0, [.ref qa0, .ref qa1, .ref qa2, .ref qa3, .ref qa4, .ref qa5, .ref qa6, .ref qa7, .null, .int 0, .int 0, .null, .null, .null])), (qa0, .inl (cI, 8, .inl (fun _ => 0))), (qa1, .inl (cI, 8, .inl (fun _ => 0))), (qa2, .inl (cI, 8, .inl (fun _ => 0))), (qa3, .inl (cI, 8, .inl (fun _ => 0))), (qa4, .inl (cI, 8, .inl (fun _ => 0))), (qa5, .inl (cI, 8, .inl (fun _ => 0))), (qa6, .inl (cI, 8, .inl (fun _ => 0))), (qa7, .inl (cI, 5, .inl (upd (upd (upd (upd (upd (fun _ => 0) 0 12) 1 20) 2 400) 3 25) 4 4)))] H := hP
  have hD : va_D A [(o, .inr (0, [.ref qa0, .ref qa1, .ref qa2, .ref qa3, .ref qa4, .ref qa5, .ref qa6, .ref qa7, .null, .int 0, .int 0, .null, .null, .null])), (qa0, .inl (cI, 8, .inl (fun _ => 0))), (qa1, .inl (cI, 8, .inl (fun _ => 0))), (qa2, .inl (cI, 8, .inl (fun _ => 0))), (qa3, .inl (cI, 8, .inl (fun _ => 0))), (qa4, .inl (cI, 8, .inl (fun _ => 0))), (qa5, .inl (cI, 8, .inl (fun _ => 0))), (qa6, .inl (cI, 8, .inl (fun _ => 0))), (qa7, .inl (cI, 5, .inl (upd (upd (upd (upd (upd (fun _ => 0) 0 12) 1 20) 2 400) 3 25) 4 4)))] := hD
  refine lv_aload_n hx hb dX0_init_92 rfl (lv_at hl 0 rfl) ?_
  refine lv_iconst (v := 3) hx hb dX0_init_93 (by decide) ?_
  refine g_newa C hP hD hS (N := 3) rfl (by decide) q4 (cells' := 9) (slots' := 64) rfl rfl (Nat.le_of_ble_eq_true rfl) (Nat.le_of_ble_eq_true rfl) dX0_init_94 (fun qa8 H hP hD hS => ?_)
  have hP : va_P D vwCl [(o, .inr (0, [.ref qa0, .ref qa1, .ref qa2, .ref qa3, .ref qa4, .ref qa5, .ref qa6, .ref qa7, .null, .int 0, .int 0, .null, .null, .null])), (qa0, .inl (cI, 8, .inl (fun _ => 0))), (qa1, .inl (cI, 8, .inl (fun _ => 0))), (qa2, .inl (cI, 8, .inl (fun _ => 0))), (qa3, .inl (cI, 8, .inl (fun _ => 0))), (qa4, .inl (cI, 8, .inl (fun _ => 0))), (qa5, .inl (cI, 8, .inl (fun _ => 0))), (qa6, .inl (cI, 8, .inl (fun _ => 0))), (qa7, .inl (cI, 5, .inl (upd (upd (upd (upd (upd (fun _ => 0) 0 12) 1 20) 2 400) 3 25) 4 4))), (qa8, .inl (cI, 3, .inl (fun _ => 0)))] H := hP
  have hD : va_D A [(o, .inr (0, [.ref qa0, .ref qa1, .ref qa2, .ref qa3, .ref qa4, .ref qa5, .ref qa6, .ref qa7, .null, .int 0, .int 0, .null, .null, .null])), (qa0, .inl (cI, 8, .inl (fun _ => 0))), (qa1, .inl (cI, 8, .inl (fun _ => 0))), (qa2, .inl (cI, 8, .inl (fun _ => 0))), (qa3, .inl (cI, 8, .inl (fun _ => 0))), (qa4, .inl (cI, 8, .inl (fun _ => 0))), (qa5, .inl (cI, 8, .inl (fun _ => 0))), (qa6, .inl (cI, 8, .inl (fun _ => 0))), (qa7, .inl (cI, 5, .inl (upd (upd (upd (upd (upd (fun _ => 0) 0 12) 1 20) 2 400) 3 25) 4 4))), (qa8, .inl (cI, 3, .inl (fun _ => 0)))] := hD
  refine va_putF (D := D) (ci := 0) (v := .ref qa8) (ty := .array .int) (C := RX0) (T := TX0) (N := 14) hx hb hts inlX0 tyX0 tyX0_ok nmX0 hown C.2.2.2.2.2.1 hP hD hS 0 rfl rfl 8 (by decide) (hts _ q19) (fun x h => h) rfl hin rfl (by decide +kernel) rfl rfl (Nat.le_of_ble_eq_true rfl) dX0_init_96 (fun H locs hP hD hS => ?_)
  have hP : va_P D vwCl [(o, .inr (0, [.ref qa0, .ref qa1, .ref qa2, .ref qa3, .ref qa4, .ref qa5, .ref qa6, .ref qa7, .ref qa8, .int 0, .int 0, .null, .null, .null])), (qa0, .inl (cI, 8, .inl (fun _ => 0))), (qa1, .inl (cI, 8, .inl (fun _ => 0))), (qa2, .inl (cI, 8, .inl (fun _ => 0))), (qa3, .inl (cI, 8, .inl (fun _ => 0))), (qa4, .inl (cI, 8, .inl (fun _ => 0))), (qa5, .inl (cI, 8, .inl (fun _ => 0))), (qa6, .inl (cI, 8, .inl (fun _ => 0))), (qa7, .inl (cI, 5, .inl (upd (upd (upd (upd (upd (fun _ => 0) 0 12) 1 20) 2 400) 3 25) 4 4))), (qa8, .inl (cI, 3, .inl (fun _ => 0)))] H := hP
  have hD : va_D A [(o, .inr (0, [.ref qa0, .ref qa1, .ref qa2, .ref qa3, .ref qa4, .ref qa5, .ref qa6, .ref qa7, .ref qa8, .int 0, .int 0, .null, .null, .null])), (qa0, .inl (cI, 8, .inl (fun _ => 0))), (qa1, .inl (cI, 8, .inl (fun _ => 0))), (qa2, .inl (cI, 8, .inl (fun _ => 0))), (qa3, .inl (cI, 8, .inl (fun _ => 0))), (qa4, .inl (cI, 8, .inl (fun _ => 0))), (qa5, .inl (cI, 8, .inl (fun _ => 0))), (qa6, .inl (cI, 8, .inl (fun _ => 0))), (qa7, .inl (cI, 5, .inl (upd (upd (upd (upd (upd (fun _ => 0) 0 12) 1 20) 2 400) 3 25) 4 4))), (qa8, .inl (cI, 3, .inl (fun _ => 0)))] := hD
  refine lv_aload_n hx hb dX0_init_99 rfl (lv_at hl 0 rfl) ?_
  refine lv_iconst (v := 5) hx hb dX0_init_100 (by decide) ?_
  refine g_newa C hP hD hS (N := 5) rfl (by decide) q4 (cells' := 10) (slots' := 69) rfl rfl (Nat.le_of_ble_eq_true rfl) (Nat.le_of_ble_eq_true rfl) dX0_init_101 (fun qa9 H hP hD hS => ?_)
  have hP : va_P D vwCl [(o, .inr (0, [.ref qa0, .ref qa1, .ref qa2, .ref qa3, .ref qa4, .ref qa5, .ref qa6, .ref qa7, .ref qa8, .int 0, .int 0, .null, .null, .null])), (qa0, .inl (cI, 8, .inl (fun _ => 0))), (qa1, .inl (cI, 8, .inl (fun _ => 0))), (qa2, .inl (cI, 8, .inl (fun _ => 0))), (qa3, .inl (cI, 8, .inl (fun _ => 0))), (qa4, .inl (cI, 8, .inl (fun _ => 0))), (qa5, .inl (cI, 8, .inl (fun _ => 0))), (qa6, .inl (cI, 8, .inl (fun _ => 0))), (qa7, .inl (cI, 5, .inl (upd (upd (upd (upd (upd (fun _ => 0) 0 12) 1 20) 2 400) 3 25) 4 4))), (qa8, .inl (cI, 3, .inl (fun _ => 0))), (qa9, .inl (cI, 5, .inl (fun _ => 0)))] H := hP
  have hD : va_D A [(o, .inr (0, [.ref qa0, .ref qa1, .ref qa2, .ref qa3, .ref qa4, .ref qa5, .ref qa6, .ref qa7, .ref qa8, .int 0, .int 0, .null, .null, .null])), (qa0, .inl (cI, 8, .inl (fun _ => 0))), (qa1, .inl (cI, 8, .inl (fun _ => 0))), (qa2, .inl (cI, 8, .inl (fun _ => 0))), (qa3, .inl (cI, 8, .inl (fun _ => 0))), (qa4, .inl (cI, 8, .inl (fun _ => 0))), (qa5, .inl (cI, 8, .inl (fun _ => 0))), (qa6, .inl (cI, 8, .inl (fun _ => 0))), (qa7, .inl (cI, 5, .inl (upd (upd (upd (upd (upd (fun _ => 0) 0 12) 1 20) 2 400) 3 25) 4 4))), (qa8, .inl (cI, 3, .inl (fun _ => 0))), (qa9, .inl (cI, 5, .inl (fun _ => 0)))] := hD
  refine va_putF (D := D) (ci := 0) (v := .ref qa9) (ty := .array .int) (C := RX0) (T := TX0) (N := 14) hx hb hts inlX0 tyX0 tyX0_ok nmX0 hown C.2.2.2.2.2.1 hP hD hS 0 rfl rfl 11 (by decide) (hts _ q20) (fun x h => h) rfl hin rfl (by decide +kernel) rfl rfl (Nat.le_of_ble_eq_true rfl) dX0_init_103 (fun H locs hP hD hS => ?_)
  have hP : va_P D vwCl [(o, .inr (0, [.ref qa0, .ref qa1, .ref qa2, .ref qa3, .ref qa4, .ref qa5, .ref qa6, .ref qa7, .ref qa8, .int 0, .int 0, .ref qa9, .null, .null])), (qa0, .inl (cI, 8, .inl (fun _ => 0))), (qa1, .inl (cI, 8, .inl (fun _ => 0))), (qa2, .inl (cI, 8, .inl (fun _ => 0))), (qa3, .inl (cI, 8, .inl (fun _ => 0))), (qa4, .inl (cI, 8, .inl (fun _ => 0))), (qa5, .inl (cI, 8, .inl (fun _ => 0))), (qa6, .inl (cI, 8, .inl (fun _ => 0))), (qa7, .inl (cI, 5, .inl (upd (upd (upd (upd (upd (fun _ => 0) 0 12) 1 20) 2 400) 3 25) 4 4))), (qa8, .inl (cI, 3, .inl (fun _ => 0))), (qa9, .inl (cI, 5, .inl (fun _ => 0)))] H := hP
  have hD : va_D A [(o, .inr (0, [.ref qa0, .ref qa1, .ref qa2, .ref qa3, .ref qa4, .ref qa5, .ref qa6, .ref qa7, .ref qa8, .int 0, .int 0, .ref qa9, .null, .null])), (qa0, .inl (cI, 8, .inl (fun _ => 0))), (qa1, .inl (cI, 8, .inl (fun _ => 0))), (qa2, .inl (cI, 8, .inl (fun _ => 0))), (qa3, .inl (cI, 8, .inl (fun _ => 0))), (qa4, .inl (cI, 8, .inl (fun _ => 0))), (qa5, .inl (cI, 8, .inl (fun _ => 0))), (qa6, .inl (cI, 8, .inl (fun _ => 0))), (qa7, .inl (cI, 5, .inl (upd (upd (upd (upd (upd (fun _ => 0) 0 12) 1 20) 2 400) 3 25) 4 4))), (qa8, .inl (cI, 3, .inl (fun _ => 0))), (qa9, .inl (cI, 5, .inl (fun _ => 0)))] := hD
  refine lv_aload_n hx hb dX0_init_106 rfl (lv_at hl 0 rfl) ?_
  refine lv_iconst (v := 3) hx hb dX0_init_107 (by decide) ?_
  refine g_newa C hP hD hS (N := 3) rfl (by decide) q4 (cells' := 11) (slots' := 72) rfl rfl (Nat.le_of_ble_eq_true rfl) (Nat.le_of_ble_eq_true rfl) dX0_init_108 (fun qa10 H hP hD hS => ?_)
  have hP : va_P D vwCl [(o, .inr (0, [.ref qa0, .ref qa1, .ref qa2, .ref qa3, .ref qa4, .ref qa5, .ref qa6, .ref qa7, .ref qa8, .int 0, .int 0, .ref qa9, .null, .null])), (qa0, .inl (cI, 8, .inl (fun _ => 0))), (qa1, .inl (cI, 8, .inl (fun _ => 0))), (qa2, .inl (cI, 8, .inl (fun _ => 0))), (qa3, .inl (cI, 8, .inl (fun _ => 0))), (qa4, .inl (cI, 8, .inl (fun _ => 0))), (qa5, .inl (cI, 8, .inl (fun _ => 0))), (qa6, .inl (cI, 8, .inl (fun _ => 0))), (qa7, .inl (cI, 5, .inl (upd (upd (upd (upd (upd (fun _ => 0) 0 12) 1 20) 2 400) 3 25) 4 4))), (qa8, .inl (cI, 3, .inl (fun _ => 0))), (qa9, .inl (cI, 5, .inl (fun _ => 0))), (qa10, .inl (cI, 3, .inl (fun _ => 0)))] H := hP
  have hD : va_D A [(o, .inr (0, [.ref qa0, .ref qa1, .ref qa2, .ref qa3, .ref qa4, .ref qa5, .ref qa6, .ref qa7, .ref qa8, .int 0, .int 0, .ref qa9, .null, .null])), (qa0, .inl (cI, 8, .inl (fun _ => 0))), (qa1, .inl (cI, 8, .inl (fun _ => 0))), (qa2, .inl (cI, 8, .inl (fun _ => 0))), (qa3, .inl (cI, 8, .inl (fun _ => 0))), (qa4, .inl (cI, 8, .inl (fun _ => 0))), (qa5, .inl (cI, 8, .inl (fun _ => 0))), (qa6, .inl (cI, 8, .inl (fun _ => 0))), (qa7, .inl (cI, 5, .inl (upd (upd (upd (upd (upd (fun _ => 0) 0 12) 1 20) 2 400) 3 25) 4 4))), (qa8, .inl (cI, 3, .inl (fun _ => 0))), (qa9, .inl (cI, 5, .inl (fun _ => 0))), (qa10, .inl (cI, 3, .inl (fun _ => 0)))] := hD
  refine va_putF (D := D) (ci := 0) (v := .ref qa10) (ty := .array .int) (C := RX0) (T := TX0) (N := 14) hx hb hts inlX0 tyX0 tyX0_ok nmX0 hown C.2.2.2.2.2.1 hP hD hS 0 rfl rfl 12 (by decide) (hts _ q21) (fun x h => h) rfl hin rfl (by decide +kernel) rfl rfl (Nat.le_of_ble_eq_true rfl) dX0_init_110 (fun H locs hP hD hS => ?_)
  have hP : va_P D vwCl [(o, .inr (0, [.ref qa0, .ref qa1, .ref qa2, .ref qa3, .ref qa4, .ref qa5, .ref qa6, .ref qa7, .ref qa8, .int 0, .int 0, .ref qa9, .ref qa10, .null])), (qa0, .inl (cI, 8, .inl (fun _ => 0))), (qa1, .inl (cI, 8, .inl (fun _ => 0))), (qa2, .inl (cI, 8, .inl (fun _ => 0))), (qa3, .inl (cI, 8, .inl (fun _ => 0))), (qa4, .inl (cI, 8, .inl (fun _ => 0))), (qa5, .inl (cI, 8, .inl (fun _ => 0))), (qa6, .inl (cI, 8, .inl (fun _ => 0))), (qa7, .inl (cI, 5, .inl (upd (upd (upd (upd (upd (fun _ => 0) 0 12) 1 20) 2 400) 3 25) 4 4))), (qa8, .inl (cI, 3, .inl (fun _ => 0))), (qa9, .inl (cI, 5, .inl (fun _ => 0))), (qa10, .inl (cI, 3, .inl (fun _ => 0)))] H := hP
  have hD : va_D A [(o, .inr (0, [.ref qa0, .ref qa1, .ref qa2, .ref qa3, .ref qa4, .ref qa5, .ref qa6, .ref qa7, .ref qa8, .int 0, .int 0, .ref qa9, .ref qa10, .null])), (qa0, .inl (cI, 8, .inl (fun _ => 0))), (qa1, .inl (cI, 8, .inl (fun _ => 0))), (qa2, .inl (cI, 8, .inl (fun _ => 0))), (qa3, .inl (cI, 8, .inl (fun _ => 0))), (qa4, .inl (cI, 8, .inl (fun _ => 0))), (qa5, .inl (cI, 8, .inl (fun _ => 0))), (qa6, .inl (cI, 8, .inl (fun _ => 0))), (qa7, .inl (cI, 5, .inl (upd (upd (upd (upd (upd (fun _ => 0) 0 12) 1 20) 2 400) 3 25) 4 4))), (qa8, .inl (cI, 3, .inl (fun _ => 0))), (qa9, .inl (cI, 5, .inl (fun _ => 0))), (qa10, .inl (cI, 3, .inl (fun _ => 0)))] := hD
  refine lv_aload_n hx hb dX0_init_113 rfl (lv_at hl 0 rfl) ?_
  refine lv_iconst (v := 3) hx hb dX0_init_114 (by decide) ?_
  refine g_newa C hP hD hS (N := 3) rfl (by decide) q4 (cells' := 12) (slots' := 75) rfl rfl (Nat.le_of_ble_eq_true rfl) (Nat.le_of_ble_eq_true rfl) dX0_init_115 (fun qa11 H hP hD hS => ?_)
  have hP : va_P D vwCl [(o, .inr (0, [.ref qa0, .ref qa1, .ref qa2, .ref qa3, .ref qa4, .ref qa5, .ref qa6, .ref qa7, .ref qa8, .int 0, .int 0, .ref qa9, .ref qa10, .null])), (qa0, .inl (cI, 8, .inl (fun _ => 0))), (qa1, .inl (cI, 8, .inl (fun _ => 0))), (qa2, .inl (cI, 8, .inl (fun _ => 0))), (qa3, .inl (cI, 8, .inl (fun _ => 0))), (qa4, .inl (cI, 8, .inl (fun _ => 0))), (qa5, .inl (cI, 8, .inl (fun _ => 0))), (qa6, .inl (cI, 8, .inl (fun _ => 0))), (qa7, .inl (cI, 5, .inl (upd (upd (upd (upd (upd (fun _ => 0) 0 12) 1 20) 2 400) 3 25) 4 4))), (qa8, .inl (cI, 3, .inl (fun _ => 0))), (qa9, .inl (cI, 5, .inl (fun _ => 0))), (qa10, .inl (cI, 3, .inl (fun _ => 0))), (qa11, .inl (cI, 3, .inl (fun _ => 0)))] H := hP
  have hD : va_D A [(o, .inr (0, [.ref qa0, .ref qa1, .ref qa2, .ref qa3, .ref qa4, .ref qa5, .ref qa6, .ref qa7, .ref qa8, .int 0, .int 0, .ref qa9, .ref qa10, .null])), (qa0, .inl (cI, 8, .inl (fun _ => 0))), (qa1, .inl (cI, 8, .inl (fun _ => 0))), (qa2, .inl (cI, 8, .inl (fun _ => 0))), (qa3, .inl (cI, 8, .inl (fun _ => 0))), (qa4, .inl (cI, 8, .inl (fun _ => 0))), (qa5, .inl (cI, 8, .inl (fun _ => 0))), (qa6, .inl (cI, 8, .inl (fun _ => 0))), (qa7, .inl (cI, 5, .inl (upd (upd (upd (upd (upd (fun _ => 0) 0 12) 1 20) 2 400) 3 25) 4 4))), (qa8, .inl (cI, 3, .inl (fun _ => 0))), (qa9, .inl (cI, 5, .inl (fun _ => 0))), (qa10, .inl (cI, 3, .inl (fun _ => 0))), (qa11, .inl (cI, 3, .inl (fun _ => 0)))] := hD
  refine va_putF (D := D) (ci := 0) (v := .ref qa11) (ty := .array .int) (C := RX0) (T := TX0) (N := 14) hx hb hts inlX0 tyX0 tyX0_ok nmX0 hown C.2.2.2.2.2.1 hP hD hS 0 rfl rfl 13 (by decide) (hts _ q22) (fun x h => h) rfl hin rfl (by decide +kernel) rfl rfl (Nat.le_of_ble_eq_true rfl) dX0_init_117 (fun H locs hP hD hS => ?_)
  have hP : va_P D vwCl [(o, .inr (0, [.ref qa0, .ref qa1, .ref qa2, .ref qa3, .ref qa4, .ref qa5, .ref qa6, .ref qa7, .ref qa8, .int 0, .int 0, .ref qa9, .ref qa10, .ref qa11])), (qa0, .inl (cI, 8, .inl (fun _ => 0))), (qa1, .inl (cI, 8, .inl (fun _ => 0))), (qa2, .inl (cI, 8, .inl (fun _ => 0))), (qa3, .inl (cI, 8, .inl (fun _ => 0))), (qa4, .inl (cI, 8, .inl (fun _ => 0))), (qa5, .inl (cI, 8, .inl (fun _ => 0))), (qa6, .inl (cI, 8, .inl (fun _ => 0))), (qa7, .inl (cI, 5, .inl (upd (upd (upd (upd (upd (fun _ => 0) 0 12) 1 20) 2 400) 3 25) 4 4))), (qa8, .inl (cI, 3, .inl (fun _ => 0))), (qa9, .inl (cI, 5, .inl (fun _ => 0))), (qa10, .inl (cI, 3, .inl (fun _ => 0))), (qa11, .inl (cI, 3, .inl (fun _ => 0)))] H := hP
  have hD : va_D A [(o, .inr (0, [.ref qa0, .ref qa1, .ref qa2, .ref qa3, .ref qa4, .ref qa5, .ref qa6, .ref qa7, .ref qa8, .int 0, .int 0, .ref qa9, .ref qa10, .ref qa11])), (qa0, .inl (cI, 8, .inl (fun _ => 0))), (qa1, .inl (cI, 8, .inl (fun _ => 0))), (qa2, .inl (cI, 8, .inl (fun _ => 0))), (qa3, .inl (cI, 8, .inl (fun _ => 0))), (qa4, .inl (cI, 8, .inl (fun _ => 0))), (qa5, .inl (cI, 8, .inl (fun _ => 0))), (qa6, .inl (cI, 8, .inl (fun _ => 0))), (qa7, .inl (cI, 5, .inl (upd (upd (upd (upd (upd (fun _ => 0) 0 12) 1 20) 2 400) 3 25) 4 4))), (qa8, .inl (cI, 3, .inl (fun _ => 0))), (qa9, .inl (cI, 5, .inl (fun _ => 0))), (qa10, .inl (cI, 3, .inl (fun _ => 0))), (qa11, .inl (cI, 3, .inl (fun _ => 0)))] := hD
  have hP : va_P D vwCl (ra_w cI o (fun k => if k = 0 then qa0 else if k = 1 then qa1 else if k = 2 then qa2 else if k = 3 then qa3 else if k = 4 then qa4 else if k = 5 then qa5 else if k = 6 then qa6 else if k = 7 then qa7 else if k = 8 then qa8 else if k = 11 then qa9 else if k = 12 then qa10 else qa11) ra_u0) H := hP
  have hD : va_D A (ra_w cI o (fun k => if k = 0 then qa0 else if k = 1 then qa1 else if k = 2 then qa2 else if k = 3 then qa3 else if k = 4 then qa4 else if k = 5 then qa5 else if k = 6 then qa6 else if k = 7 then qa7 else if k = 8 then qa8 else if k = 11 then qa9 else if k = 12 then qa10 else qa11) ra_u0) := hD
  exact g_vret C hrt hP hD hS dX0_init_120 ⟨_, rfl⟩
end
section
theorem kd_L_below : yL_below.cls ≠ "java/lang/invoke/MethodHandle" ∧ yL_below.cls ≠ "java/lang/invoke/VarHandle" ∧ (parseMethodDescriptor yL_below.desc).map (fun d => d.parameters.length) = some 2 := by decide +kernel
theorem kd_L_cell : yL_cell.cls ≠ "java/lang/invoke/MethodHandle" ∧ yL_cell.cls ≠ "java/lang/invoke/VarHandle" ∧ (parseMethodDescriptor yL_cell.desc).map (fun d => d.parameters.length) = some 2 := by decide +kernel
theorem kd_L_rate : yL_rate.cls ≠ "java/lang/invoke/MethodHandle" ∧ yL_rate.cls ≠ "java/lang/invoke/VarHandle" ∧ (parseMethodDescriptor yL_rate.desc).map (fun d => d.parameters.length) = some 2 := by decide +kernel
set_option maxHeartbeats 4000000 in
set_option maxRecDepth 100000 in
theorem mL_below (l : Launch) (D : va_G) (t : Nat → Nat) (cI cR cB : ClassId) (sz : Nat) (v : Int32) (n : Nat) (h0 : 0 < n) (h1 : n < 2147483648) : gMi l yL_below (rw_ yL_below cL_below 2 (some .int)) (rm_ 0 0 0 0) [.int v, .int (nI n)] D (ty3 cI cR cB) t ([] : va_W) sz (fun r w' => (∃ j : Nat, j < n ∧ r = nI j) ∧ w' = []) := by
  refine g_of (cc := cL_below) (nL := 2) (rt := (some .int)) (Q := fun A => va_Qi _ (fun w' U => gQ D A w' U) A) (by decide) (Nat.le_of_ble_eq_true rfl) (fun p e s m args below meth c A ls H C hrt hnm hS hP hD hl => ?_)
  have hx := C.1
  have hb := C.2.1
  have hown := C.2.2.2.1
  have hts := C.2.2.2.2.1
  have hl : lv_has ls 2 [(0, .int v), (1, .int (nI n))] := hl
  refine lv_iload_n hx hb dL_below_0 rfl (lv_at hl 0 rfl) ?_
  refine lv_ldc (v := 2147483647) hx hb hown (hts _ q44) dL_below_1 ?_
  refine lv_iand hx hb dL_below_3 ?_
  refine lv_iload_n hx hb dL_below_4 rfl (lv_at hl 1 rfl) ?_
  refine lv_irem hx hb dL_below_5 (nI_ne0 h0 h1) ?_
  exact g_iret C hrt hP hD hS dL_below_6 ⟨bl_r v h0 h1, rfl⟩
set_option maxHeartbeats 4000000 in
set_option maxRecDepth 100000 in
theorem mL_cell (l : Launch) (D : va_G) (t : Nat → Nat) (cI cR cB : ClassId) (sz : Nat) (hL : t 10 ≤ 260) (k : Nat) (hk : k < 1000) : gMi l yL_cell (rw_ yL_cell cL_cell 2 (some .int)) (rm_ 0 0 0 0) [.ref (t 9), .int (nI k)] D (ty3 cI cR cB) t ([] : va_W) sz (fun _ w' => w' = []) := by
  refine g_of (cc := cL_cell) (nL := 2) (rt := (some .int)) (Q := fun A => va_Qi _ (fun w' U => gQ D A w' U) A) (by decide) (Nat.le_of_ble_eq_true rfl) (fun p e s m args below meth c A ls H C hrt hnm hS hP hD hl => ?_)
  have hx := C.1
  have hb := C.2.1
  have hown := C.2.2.2.1
  have hts := C.2.2.2.2.1
  have hl : lv_has ls 2 [(0, .ref (t 9)), (1, .int (nI k))] := hl
  refine lv_iload_n hx hb dL_cell_0 rfl (lv_at hl 1 rfl) ?_
  refine lv_aload_n hx hb dL_cell_1 rfl (lv_at hl 0 rfl) ?_
  refine g_sl C hS (C.2.2.2.2.2.2.2.1.2.2.2.2.2.2.2.2.2.2.2) dL_cell_2 ?_
  refine lv_icmp_ge (tgt := 12) hx hb dL_cell_3 (by decide) (fun c1 => ?_) (fun c1 => ?_)
  · refine lv_ldc (v := 790386105) hx hb hown (hts _ q40) dL_cell_12 ?_
    refine lv_iload_n hx hb dL_cell_14 rfl (lv_at hl 1 rfl) ?_
    refine lv_iconst (v := 3) hx hb dL_cell_15 (by decide) ?_
    refine lv_iadd hx hb dL_cell_16 ?_
    refine lv_imul hx hb dL_cell_17 ?_
    exact g_iret C hrt hP hD hS dL_cell_18 rfl
  · refine lv_aload_n hx hb dL_cell_6 rfl (lv_at hl 0 rfl) ?_
    refine lv_iload_n hx hb dL_cell_7 rfl (lv_at hl 1 rfl) ?_
    refine g_sx C hS (C.2.2.2.2.2.2.2.1.2.2.2.2.2.2.2.2.2.2.2) hL (i := k) ((nI_ltI (by omega) (by omega)).mp (Int32.not_le.mp c1)) rfl dL_cell_8 ?_
    refine lv_goto (tgt := 18) hx hb dL_cell_9 (by decide) ?_
    exact g_iret C hrt hP hD hS dL_cell_18 rfl
set_option maxHeartbeats 4000000 in
set_option maxRecDepth 100000 in
theorem mL_rate (l : Launch) (D : va_G) (t : Nat → Nat) (cI cR cB : ClassId) (sz : Nat) (k : Nat) (hk5 : k < 5) (x : Int32) : gMi l yL_rate (rw_ yL_rate cL_rate 4 (some .int)) (rm_ 1 2 10 21) [.int (nI k), .int x] D (ty3 cI cR cB) t ([] : va_W) sz (fun r w' => ¬ (r < rt_RX0_LEAST_RATE k) ∧ r ≤ rt_RX0_MOST_RATE k ∧ w' = []) := by
  refine g_of (cc := cL_rate) (nL := 4) (rt := (some .int)) (Q := fun A => va_Qi _ (fun w' U => gQ D A w' U) A) (by decide) (Nat.le_of_ble_eq_true rfl) (fun p e s m args below meth c A ls H C hrt hnm hS hP hD hl => ?_)
  have hx := C.1
  have hb := C.2.1
  have hown := C.2.2.2.1
  have hts := C.2.2.2.2.1
  have hl : lv_has ls 4 [(0, .int (nI k)), (1, .int x)] := hl
  refine lv_iconst (v := 5) hx hb dL_rate_0 (by decide) ?_
  refine n_new rfl C hP hD hS (N := 5) rfl (by decide) q4 (cells' := 1) (slots' := 5) rfl rfl (Nat.le_of_ble_eq_true rfl) (Nat.le_of_ble_eq_true rfl) dL_rate_1 (fun q0 H hP hD hS => ?_)
  have hP : va_P D vwCl ([(q0, .inl (cI, 5, .inl (fun _ => 0)))] : va_W) H := hP
  have hD : va_D A ([(q0, .inl (cI, 5, .inl (fun _ => 0)))] : va_W) := hD
  refine lv_dup hx hb dL_rate_3 rfl ?_
  refine lv_iconst (v := 0) hx hb dL_rate_4 (by decide) ?_
  refine lv_iconst (v := 1) hx hb dL_rate_5 (by decide) ?_
  refine n_st rfl C hP hD hS 0 (i := 0) rfl (by decide) (by decide) rfl dL_rate_6 (fun H locs hP hD hS => ?_)
  have hP : va_P D vwCl ([(q0, .inl (cI, 5, .inl (upd (fun _ => 0) 0 1)))] : va_W) H := hP
  have hD : va_D A ([(q0, .inl (cI, 5, .inl (upd (fun _ => 0) 0 1)))] : va_W) := hD
  refine lv_dup hx hb dL_rate_7 rfl ?_
  refine lv_iconst (v := 1) hx hb dL_rate_8 (by decide) ?_
  refine lv_iconst (v := 1) hx hb dL_rate_9 (by decide) ?_
  refine n_st rfl C hP hD hS 0 (i := 1) rfl (by decide) (by decide) rfl dL_rate_10 (fun H locs hP hD hS => ?_)
  have hP : va_P D vwCl ([(q0, .inl (cI, 5, .inl (upd (upd (fun _ => 0) 0 1) 1 1)))] : va_W) H := hP
  have hD : va_D A ([(q0, .inl (cI, 5, .inl (upd (upd (fun _ => 0) 0 1) 1 1)))] : va_W) := hD
  refine lv_dup hx hb dL_rate_11 rfl ?_
  refine lv_iconst (v := 2) hx hb dL_rate_12 (by decide) ?_
  refine lv_bipush (v := 100) hx hb dL_rate_13 (by decide) ?_
  refine n_st rfl C hP hD hS 0 (i := 2) rfl (by decide) (by decide) rfl dL_rate_15 (fun H locs hP hD hS => ?_)
  have hP : va_P D vwCl ([(q0, .inl (cI, 5, .inl (upd (upd (upd (fun _ => 0) 0 1) 1 1) 2 100)))] : va_W) H := hP
  have hD : va_D A ([(q0, .inl (cI, 5, .inl (upd (upd (upd (fun _ => 0) 0 1) 1 1) 2 100)))] : va_W) := hD
  refine lv_dup hx hb dL_rate_16 rfl ?_
  refine lv_iconst (v := 3) hx hb dL_rate_17 (by decide) ?_
  refine lv_iconst (v := 0) hx hb dL_rate_18 (by decide) ?_
  refine n_st rfl C hP hD hS 0 (i := 3) rfl (by decide) (by decide) rfl dL_rate_19 (fun H locs hP hD hS => ?_)
  have hP : va_P D vwCl ([(q0, .inl (cI, 5, .inl (upd (upd (upd (upd (fun _ => 0) 0 1) 1 1) 2 100) 3 0)))] : va_W) H := hP
  have hD : va_D A ([(q0, .inl (cI, 5, .inl (upd (upd (upd (upd (fun _ => 0) 0 1) 1 1) 2 100) 3 0)))] : va_W) := hD
  refine lv_dup hx hb dL_rate_20 rfl ?_
  refine lv_iconst (v := 4) hx hb dL_rate_21 (by decide) ?_
  refine lv_iconst (v := 1) hx hb dL_rate_22 (by decide) ?_
  refine n_st rfl C hP hD hS 0 (i := 4) rfl (by decide) (by decide) rfl dL_rate_23 (fun H locs hP hD hS => ?_)
  have hP : va_P D vwCl ([(q0, .inl (cI, 5, .inl (upd (upd (upd (upd (upd (fun _ => 0) 0 1) 1 1) 2 100) 3 0) 4 1)))] : va_W) H := hP
  have hD : va_D A ([(q0, .inl (cI, 5, .inl (upd (upd (upd (upd (upd (fun _ => 0) 0 1) 1 1) 2 100) 3 0) 4 1)))] : va_W) := hD
  refine lv_astore_n (lv' := [(2, .ref q0), (0, .int (nI k)), (1, .int x)]) hx hb dL_rate_24 rfl hl (by decide) rfl (fun ls hl => ?_)
  refine lv_iconst (v := 5) hx hb dL_rate_25 (by decide) ?_
  refine n_new rfl C hP hD hS (N := 5) rfl (by decide) q4 (cells' := 2) (slots' := 10) rfl rfl (Nat.le_of_ble_eq_true rfl) (Nat.le_of_ble_eq_true rfl) dL_rate_26 (fun q1 H hP hD hS => ?_)
  have hP : va_P D vwCl ([(q0, .inl (cI, 5, .inl (upd (upd (upd (upd (upd (fun _ => 0) 0 1) 1 1) 2 100) 3 0) 4 1))), (q1, .inl (cI, 5, .inl (fun _ => 0)))] : va_W) H := hP
  have hD : va_D A ([(q0, .inl (cI, 5, .inl (upd (upd (upd (upd (upd (fun _ => 0) 0 1) 1 1) 2 100) 3 0) 4 1))), (q1, .inl (cI, 5, .inl (fun _ => 0)))] : va_W) := hD
  refine lv_dup hx hb dL_rate_28 rfl ?_
  refine lv_iconst (v := 0) hx hb dL_rate_29 (by decide) ?_
  refine lv_bipush (v := 40) hx hb dL_rate_30 (by decide) ?_
  refine n_st rfl C hP hD hS 1 (i := 0) rfl (by decide) (by decide) rfl dL_rate_32 (fun H locs hP hD hS => ?_)
  have hP : va_P D vwCl ([(q0, .inl (cI, 5, .inl (upd (upd (upd (upd (upd (fun _ => 0) 0 1) 1 1) 2 100) 3 0) 4 1))), (q1, .inl (cI, 5, .inl (upd (fun _ => 0) 0 40)))] : va_W) H := hP
  have hD : va_D A ([(q0, .inl (cI, 5, .inl (upd (upd (upd (upd (upd (fun _ => 0) 0 1) 1 1) 2 100) 3 0) 4 1))), (q1, .inl (cI, 5, .inl (upd (fun _ => 0) 0 40)))] : va_W) := hD
  refine lv_dup hx hb dL_rate_33 rfl ?_
  refine lv_iconst (v := 1) hx hb dL_rate_34 (by decide) ?_
  refine lv_bipush (v := 99) hx hb dL_rate_35 (by decide) ?_
  refine n_st rfl C hP hD hS 1 (i := 1) rfl (by decide) (by decide) rfl dL_rate_37 (fun H locs hP hD hS => ?_)
  have hP : va_P D vwCl ([(q0, .inl (cI, 5, .inl (upd (upd (upd (upd (upd (fun _ => 0) 0 1) 1 1) 2 100) 3 0) 4 1))), (q1, .inl (cI, 5, .inl (upd (upd (fun _ => 0) 0 40) 1 99)))] : va_W) H := hP
  have hD : va_D A ([(q0, .inl (cI, 5, .inl (upd (upd (upd (upd (upd (fun _ => 0) 0 1) 1 1) 2 100) 3 0) 4 1))), (q1, .inl (cI, 5, .inl (upd (upd (fun _ => 0) 0 40) 1 99)))] : va_W) := hD
  refine lv_dup hx hb dL_rate_38 rfl ?_
  refine lv_iconst (v := 2) hx hb dL_rate_39 (by decide) ?_
  refine lv_sipush (v := 801) hx hb dL_rate_40 (by decide) ?_
  refine n_st rfl C hP hD hS 1 (i := 2) rfl (by decide) (by decide) rfl dL_rate_43 (fun H locs hP hD hS => ?_)
  have hP : va_P D vwCl ([(q0, .inl (cI, 5, .inl (upd (upd (upd (upd (upd (fun _ => 0) 0 1) 1 1) 2 100) 3 0) 4 1))), (q1, .inl (cI, 5, .inl (upd (upd (upd (fun _ => 0) 0 40) 1 99) 2 801)))] : va_W) H := hP
  have hD : va_D A ([(q0, .inl (cI, 5, .inl (upd (upd (upd (upd (upd (fun _ => 0) 0 1) 1 1) 2 100) 3 0) 4 1))), (q1, .inl (cI, 5, .inl (upd (upd (upd (fun _ => 0) 0 40) 1 99) 2 801)))] : va_W) := hD
  refine lv_dup hx hb dL_rate_44 rfl ?_
  refine lv_iconst (v := 3) hx hb dL_rate_45 (by decide) ?_
  refine lv_bipush (v := 101) hx hb dL_rate_46 (by decide) ?_
  refine n_st rfl C hP hD hS 1 (i := 3) rfl (by decide) (by decide) rfl dL_rate_48 (fun H locs hP hD hS => ?_)
  have hP : va_P D vwCl ([(q0, .inl (cI, 5, .inl (upd (upd (upd (upd (upd (fun _ => 0) 0 1) 1 1) 2 100) 3 0) 4 1))), (q1, .inl (cI, 5, .inl (upd (upd (upd (upd (fun _ => 0) 0 40) 1 99) 2 801) 3 101)))] : va_W) H := hP
  have hD : va_D A ([(q0, .inl (cI, 5, .inl (upd (upd (upd (upd (upd (fun _ => 0) 0 1) 1 1) 2 100) 3 0) 4 1))), (q1, .inl (cI, 5, .inl (upd (upd (upd (upd (fun _ => 0) 0 40) 1 99) 2 801) 3 101)))] : va_W) := hD
  refine lv_dup hx hb dL_rate_49 rfl ?_
  refine lv_iconst (v := 4) hx hb dL_rate_50 (by decide) ?_
  refine lv_bipush (v := 9) hx hb dL_rate_51 (by decide) ?_
  refine n_st rfl C hP hD hS 1 (i := 4) rfl (by decide) (by decide) rfl dL_rate_53 (fun H locs hP hD hS => ?_)
  have hP : va_P D vwCl ([(q0, .inl (cI, 5, .inl (upd (upd (upd (upd (upd (fun _ => 0) 0 1) 1 1) 2 100) 3 0) 4 1))), (q1, .inl (cI, 5, .inl (upd (upd (upd (upd (upd (fun _ => 0) 0 40) 1 99) 2 801) 3 101) 4 9)))] : va_W) H := hP
  have hD : va_D A ([(q0, .inl (cI, 5, .inl (upd (upd (upd (upd (upd (fun _ => 0) 0 1) 1 1) 2 100) 3 0) 4 1))), (q1, .inl (cI, 5, .inl (upd (upd (upd (upd (upd (fun _ => 0) 0 40) 1 99) 2 801) 3 101) 4 9)))] : va_W) := hD
  refine lv_astore_n (lv' := [(3, .ref q1), (2, .ref q0), (0, .int (nI k)), (1, .int x)]) hx hb dL_rate_54 rfl hl (by decide) rfl (fun ls hl => ?_)
  refine lv_aload_n hx hb dL_rate_55 rfl (lv_at hl 1 rfl) ?_
  refine lv_iload_n hx hb dL_rate_56 rfl (lv_at hl 2 rfl) ?_
  refine n_ld rfl C hP 0 (i := k) rfl hk5 (by decide) rfl dL_rate_57 ?_
  refine g_top (y := rl_low k) rfl ?_
  refine lv_iload_n hx hb dL_rate_58 rfl (lv_at hl 3 rfl) ?_
  refine lv_aload_n hx hb dL_rate_59 rfl (lv_at hl 0 rfl) ?_
  refine lv_iload_n hx hb dL_rate_60 rfl (lv_at hl 2 rfl) ?_
  refine n_ld rfl C hP 1 (i := k) rfl hk5 (by decide) rfl dL_rate_61 ?_
  refine g_top (y := rl_many k) rfl ?_
  refine g_top (rl_mn hk5).1 ?_
  refine m_ci (wa := []) (wb := []) (wd := ([(q0, .inl (cI, 5, .inl (upd (upd (upd (upd (upd (fun _ => 0) 0 1) 1 1) 2 100) 3 0) 4 1))), (q1, .inl (cI, 5, .inl (upd (upd (upd (upd (upd (fun _ => 0) 0 40) 1 99) 2 801) 3 101) 4 9)))] : va_W)) (cells' := 2) (slots' := 10) rfl rfl C hP hD hS (fun hPb hDb => g_runS (wr := ([(q0, .inl (cI, 5, .inl (upd (upd (upd (upd (upd (fun _ => 0) 0 1) 1 1) 2 100) 3 0) 4 1))), (q1, .inl (cI, 5, .inl (upd (upd (upd (upd (upd (fun _ => 0) 0 40) 1 99) 2 801) 3 101) 4 9)))] : va_W) ++ []) (n := 2) (As := [.int x, .int (nI (rl_mN k))]) C (mL_below l D t cI cR cB H.size x (rl_mN k) (rl_mn hk5).2.1 (rl_mn hk5).2.2) (rw_S q41 q42 q25 q43) kd_L_below ⟨Nat.le_of_ble_eq_true rfl, Nat.le_of_ble_eq_true rfl⟩ C.2.2.2.2.2.1 hPb hDb hS hl.1 rfl rfl (Nat.le_of_ble_eq_true rfl) dL_rate_62 ⟨Nat.le_of_ble_eq_true rfl, Nat.le_of_ble_eq_true rfl⟩) (fun v w' H locs hv _ hP hD hS => ?_)
  obtain ⟨⟨j1, hj1, rfl⟩, rfl⟩ := hv
  refine lv_iadd hx hb dL_rate_65 ?_
  refine W.widen (k := 2) (n := 10) (Nat.le_of_ble_eq_true rfl) (Nat.le_of_ble_eq_true rfl) ?_
  exact g_iret (w' := []) C hrt rd_nil ⟨fun i j p q h => by simp at h, fun k q h => by simp at h⟩ hS dL_rate_66 ⟨(rl_rt hk5 hj1).1, (rl_rt hk5 hj1).2, rfl⟩
end
section
/-! THE MEAN: the quotient of two whole numbers is no NaN -/
theorem mn_mag (x : Int32) {y : Int32} (h : y ≠ 0) : (FP.ddiv (FP.i2d x) (FP.i2d y)).toNat % 2 ^ 63 < 1057 * 2 ^ 52 := by
  have b := FP.Core.i2d_big (FP.Core.int32_ne h)
  exact FP.Core.ddiv_mag (K := 1056) (L := 1023) (FP.Core.i2d_mag x) b.1 b.2 (by decide) (by decide)
theorem mn_nn (x : Int32) {y : Int32} (h : y ≠ 0) : vf_n64 (FP.ddiv (FP.i2d x) (FP.i2d y)) := by
  have m := mn_mag x h
  generalize FP.ddiv (FP.i2d x) (FP.i2d y) = r at m
  show r &&& 0x7fffffffffffffff ≤ 0x7ff0000000000000
  rw [UInt64.le_iff_toNat_le, UInt64.toNat_and]
  show r.toNat &&& (2 ^ 63 - 1) ≤ 9218868437227405312
  rw [Nat.and_two_pow_sub_one_eq_mod]
  omega
theorem mn_cmp (x : Int32) {y : Int32} (h : y ≠ 0) (op : CmpOp) : Op.cmpValue (FP.dcmp (FP.ddiv (FP.i2d x) (FP.i2d y)) (FP.ddiv (FP.i2d x) (FP.i2d y))) op = 0 := by
  have m := mn_mag x h
  have e : FP.dcmp (FP.ddiv (FP.i2d x) (FP.i2d y)) (FP.ddiv (FP.i2d x) (FP.i2d y)) = some .eq := FP.Core.dcmp_self ((FP.Core.ne_nan _).mpr (by omega))
  rw [e]
  cases op <;> rfl
def rf_mn (u : S0) : UInt64 := if u.2.1 = 0 then FP.dconst0 else FP.ddiv (FP.i2d (rf_sm (rf_ww u 7) u.2.1)) (FP.i2d (nI u.2.1))
theorem mn_self {u : S0} (h8 : u.2.1 ≤ 8) (op : CmpOp) : Op.cmpValue (FP.dcmp (rf_mn u) (rf_mn u)) op = 0 := by
  unfold rf_mn
  split
  · cases op <;> decide +kernel
  · rename_i h
    exact mn_cmp _ (nI_ne0 (by omega) (by omega)) op
theorem kd_X0_mean : yX0_mean.cls = yX0_mean.cls ∧ yX0_mean.cls ≠ "java/lang/invoke/MethodHandle" ∧ yX0_mean.cls ≠ "java/lang/invoke/VarHandle" ∧ (parseMethodDescriptor yX0_mean.desc).map (fun d => d.parameters.length) = some 0 := by decide +kernel
set_option maxHeartbeats 4000000 in
set_option maxRecDepth 100000 in
theorem mX0_mean (l : Launch) (D : va_G) (t : Nat → Nat) (cI : ClassId) (o : Nat) (ad : Nat → Nat) (sz : Nat) (u : S0) (hh : u.2.1 ≤ 8) : gMd l yX0_mean (rw_ yX0_mean cX0_mean 1 (some .double)) (rm_ 5 0 0 112) [.ref o] D [(cI, .int)] t (ra_w cI o ad u) sz (fun v w' => v = rf_mn u ∧ w' = ra_w cI o ad u) := by
  refine g_of (cc := cX0_mean) (nL := 1) (rt := (some .double)) (Q := fun A => va_Qd _ (fun w' U => gQ D A w' U) A) (by decide) (Nat.le_of_ble_eq_true rfl) (fun p e s m args below meth c A ls H C hrt hnm hS hP hD hl => ?_)
  have hx := C.1
  have hb := C.2.1
  have hown := C.2.2.2.1
  have hts := C.2.2.2.2.1
  have hl : lv_has ls 1 [(0, .ref o)] := hl
  by_cases hn : u.2.1 = 0
  · refine lv_aload_n hx hb dX0_mean_0 rfl (lv_at hl 0 rfl) ?_
    refine x0_gf C hP 9 (by decide) (v := .int (nI u.2.1)) rfl rfl q66 dX0_mean_1 ?_
    refine lv_if_ne (tgt := 11) hx hb dX0_mean_4 (by decide) (fun c1 => absurd ((nI_eq (a := u.2.1) (b := 0) (by omega) (by omega)).mpr (by omega)) c1) (fun c1 => ?_)
    refine lv_dconst0 hx hb dX0_mean_7 ?_
    refine lv_goto (tgt := 26) hx hb dX0_mean_8 (by decide) ?_
    exact g_dret C hrt hP hD hS dX0_mean_26 ⟨by skip; rw [rf_mn, if_pos hn], rfl⟩
  · refine lv_aload_n hx hb dX0_mean_0 rfl (lv_at hl 0 rfl) ?_
    refine x0_gf C hP 9 (by decide) (v := .int (nI u.2.1)) rfl rfl q66 dX0_mean_1 ?_
    refine lv_if_ne (tgt := 11) hx hb dX0_mean_4 (by decide) (fun c1 => ?_) (fun c1 => absurd c1 (fun h9 => absurd ((nI_eq (a := u.2.1) (b := 0) (by omega) (by omega)).mp h9) (by omega)))
    refine lv_aload_n hx hb dX0_mean_11 rfl (lv_at hl 0 rfl) ?_
    refine lv_aload_n hx hb dX0_mean_12 rfl (lv_at hl 0 rfl) ?_
    refine x0_gf C hP 7 (by decide) (v := .ref (ad 7)) rfl rfl q18 dX0_mean_13 ?_
    refine g_ci (wr := []) (cells' := 0) (slots' := 0) rfl rfl C rd_nil hD hS (g_runV (wr := []) (n := 1) C (mX0_allWages l D t cI o ad H.size u 7 (Or.inl rfl) hh) (rw_V q204 q205 q206 q2 q207) kd_X0_allWages ⟨Nat.le_of_ble_eq_true rfl, Nat.le_of_ble_eq_true rfl⟩ (ci := 0) rfl rfl rfl C.2.2.2.2.2.1 hP hD hS hl.1 rfl rfl (Nat.le_of_ble_eq_true rfl) dX0_mean_16 ⟨Nat.le_of_ble_eq_true rfl, Nat.le_of_ble_eq_true rfl⟩) (fun v w' H locs hv _ _ hP hD hS => ?_)
    obtain ⟨rfl, rfl⟩ := hv
    have hD : va_D A (ra_w cI o ad u) := hD
    refine lv_i2d hx hb dX0_mean_19 ?_
    refine lv_aload_n hx hb dX0_mean_20 rfl (lv_at hl 0 rfl) ?_
    refine x0_gf C hP 9 (by decide) (v := .int (nI u.2.1)) rfl rfl q66 dX0_mean_21 ?_
    refine lv_i2d hx hb dX0_mean_24 ?_
    refine lv_ddiv hx hb dX0_mean_25 (mn_nn _ (nI_ne0 (by omega) (by omega))) ?_
    exact g_dret C hrt hP hD hS dX0_mean_26 ⟨by skip; rw [rf_mn, if_neg hn], rfl⟩
end
section
/-! rows for objects and rows of references beside the sim -/
theorem sS.swap {D : va_G} {A : Nat → Prop} {s : State} {cI cR : ClassId} {o : Nat} {z : SA} {u : S0} {B X : va_W} {H : Heap} {locs : List Loc} (h : sS D A s cI cR o z u (B ++ X) H locs) : sS D A s cI cR o z u (X ++ B) H locs := by
  obtain ⟨hP, hD, hS⟩ := h
  refine ⟨va_P.app (rp_left hP) (va_P.app (rp_right (rp_right hP)) (rp_left (rp_right hP))), ?_, hS⟩
  refine va_D.app (rd_left hD) (rd_swap (rd_right hD)) (fun i j p q hp hq e => ?_)
  have hm : ∃ k : Nat, (B ++ X)[k]? = some q := by
    rcases List.mem_append.mp (List.mem_of_getElem? hq) with hh | hh
    · exact List.getElem?_of_mem (List.mem_append_right _ hh)
    · exact List.getElem?_of_mem (List.mem_append_left _ hh)
  obtain ⟨k, hk⟩ := hm
  exact rd_sep hD i k p q hp hk e
section OROWS
variable {p : Program} {l : Launch} {e : Env} {R : Room} {s : State} {m : MethodId} {args : Array Value} {below : List Frame} {meth : Method} {c : Code} {H : Heap} {locs : List Loc} {cells slots : Nat} {Q : State → Prop}
variable {cc : ByteArray} {nL pc : Nat} {ls : Array Slot} {rest : List Value} {D : va_G} {cI cR cB : ClassId} {t : Nat → Nat} {A : Nat → Prop} {o : Nat} {z : SA} {u : S0} {X : va_W} {own : String}
theorem x_p2 (C : gC p s m args meth c cc nL own D (ty3 cI cR cB) t A) (S : sS D A s cI cR o z u X H locs) (j k : Nat) (hk : k < 5) {a idx : Nat} {fs : List Value} (hj : X[j]? = some (a, .inr (2, fs))) {v : Value} {ty : FieldType} (hs : (TX2 k).1 = RX2) (hf : (TX2 k).2.2.2 = false) (hty : parseFieldDescriptor (TX2 k).2.2.1 = some ty) (hn : narrow ty v = v) (hft : fits ty v = true) (hl : k < fs.length) (hq : Cond.fieldLink own idx RX2 (TX2 k).2.1 (TX2 k).2.2.1 ∈ wsL_law) (hdg : decode cc pc = .ok (.putfield idx, 3))
    (kk : ∀ (H1 : Heap) (locs1 : List Loc), sS D A s cI cR o z u (X.set j (a, .inr (2, fs.set k v))) H1 locs1 → W p l e R s m args below meth c H1 locs1 cells slots Q (F0 m (pc + 3) ls rest)) : W p l e R s m args below meth c H locs cells slots Q (F0 m pc ls (v :: .ref a :: rest)) := by
  refine va_put (D := D) (ci := 2) (v := v) (ty := ty) (C := RX2) (T := TX2) (N := 5) C.1 C.2.1 C.2.2.2.2.1 inlX2 tyX2 tyX2_ok nmX2 C.2.2.2.1 C.2.2.2.2.2.1 S.1 S.2.1 S.2.2 _ (rs_xp hj) rfl k hk (C.2.2.2.2.1 _ hq) (fun x h => by rw [hs] at h; exact h) hf hty hn hft hl hdg (fun H1 locs1 hP1 hD1 hS1 => ?_)
  rw [rs_xs] at hP1 hD1
  exact kk H1 locs1 ⟨hP1, hD1, hS1⟩
theorem x_p1 (C : gC p s m args meth c cc nL own D (ty3 cI cR cB) t A) (S : sS D A s cI cR o z u X H locs) (j k : Nat) (hk : k < 7) {a idx : Nat} {fs : List Value} (hj : X[j]? = some (a, .inr (1, fs))) {v : Int32} (hs : (TX1 k).1 = RX1) (hf : (TX1 k).2.2.2 = false) (hty : parseFieldDescriptor (TX1 k).2.2.1 = some .int) (hl : k < fs.length) (hq : Cond.fieldLink own idx RX1 (TX1 k).2.1 (TX1 k).2.2.1 ∈ wsL_law) (hdg : decode cc pc = .ok (.putfield idx, 3))
    (kk : ∀ (H1 : Heap) (locs1 : List Loc), sS D A s cI cR o z u (X.set j (a, .inr (1, fs.set k (.int v)))) H1 locs1 → W p l e R s m args below meth c H1 locs1 cells slots Q (F0 m (pc + 3) ls rest)) : W p l e R s m args below meth c H locs cells slots Q (F0 m pc ls (.int v :: .ref a :: rest)) := by
  refine va_put (D := D) (ci := 1) (v := .int v) (ty := .int) (C := RX1) (T := TX1) (N := 7) C.1 C.2.1 C.2.2.2.2.1 inlX1 tyX1 tyX1_ok nmX1 C.2.2.2.1 C.2.2.2.2.2.1 S.1 S.2.1 S.2.2 _ (rs_xp hj) rfl k hk (C.2.2.2.2.1 _ hq) (fun x h => by rw [hs] at h; exact h) hf hty rfl rfl hl hdg (fun H1 locs1 hP1 hD1 hS1 => ?_)
  rw [rs_xs] at hP1 hD1
  exact kk H1 locs1 ⟨hP1, hD1, hS1⟩
theorem x_g2 (C : gC p s m args meth c cc nL own D (ty3 cI cR cB) t A) (S : sS D A s cI cR o z u X H locs) (j k : Nat) (hk : k < 5) {a idx : Nat} {fs : List Value} (hj : X[j]? = some (a, .inr (2, fs))) {v : Value} (hv : fs[k]? = some v) (hs : (TX2 k).1 = RX2) (hq : Cond.fieldLink own idx RX2 (TX2 k).2.1 (TX2 k).2.2.1 ∈ wsL_law) (hdg : decode cc pc = .ok (.getfield idx, 3))
    (kk : W p l e R s m args below meth c H locs cells slots Q (F0 m (pc + 3) ls (v :: rest))) : W p l e R s m args below meth c H locs cells slots Q (F0 m pc ls (.ref a :: rest)) :=
  va_get (D := D) (ci := 2) (C := RX2) (T := TX2) (N := 5) C.1 C.2.1 C.2.2.2.2.1 inlX2 C.2.2.2.1 C.2.2.2.2.2.1 S.1 _ (rs_xp hj) rfl k hk (C.2.2.2.2.1 _ hq) (fun x h => by rw [hs] at h; exact h) hv hdg kk
theorem x_g1 (C : gC p s m args meth c cc nL own D (ty3 cI cR cB) t A) (S : sS D A s cI cR o z u X H locs) (j k : Nat) (hk : k < 7) {a idx : Nat} {fs : List Value} (hj : X[j]? = some (a, .inr (1, fs))) {v : Value} (hv : fs[k]? = some v) (hs : (TX1 k).1 = RX1) (hq : Cond.fieldLink own idx RX1 (TX1 k).2.1 (TX1 k).2.2.1 ∈ wsL_law) (hdg : decode cc pc = .ok (.getfield idx, 3))
    (kk : W p l e R s m args below meth c H locs cells slots Q (F0 m (pc + 3) ls (v :: rest))) : W p l e R s m args below meth c H locs cells slots Q (F0 m pc ls (.ref a :: rest)) :=
  va_get (D := D) (ci := 1) (C := RX1) (T := TX1) (N := 7) C.1 C.2.1 C.2.2.2.2.1 inlX1 C.2.2.2.1 C.2.2.2.2.2.1 S.1 _ (rs_xp hj) rfl k hk (C.2.2.2.2.1 _ hq) (fun x h => by rw [hs] at h; exact h) hv hdg kk
theorem x_new1 (C : gC p s m args meth c cc nL own D (ty3 cI cR cB) t A) (S : sS D A s cI cR o z u X H locs) {idx : Nat} (h1 : Cond.classLink own idx RX1 ∈ wsL_law) (h2 : Cond.instantiable RX1 7 ∈ wsL_law) (h3 : Cond.initialized RX1 ∈ wsL_law) {cells' slots' : Nat} (hc : cells + 1 = cells') (hs : slots + 7 = slots') (hRc : cells' ≤ R.cells) (hRs : slots' ≤ R.slots) (hdg : decode cc pc = .ok (.new idx, 3))
    (kk : ∀ (q : Nat) (H1 : Heap), sS D A s cI cR o z u (X ++ [(q, .inr (1, [.int 0, .int 0, .int 0, .int 0, .int 0, .int 0, .int 0]))]) H1 locs → W p l e R s m args below meth c H1 locs cells' slots' Q (F0 m (pc + 3) ls (.ref q :: rest))) : W p l e R s m args below meth c H locs cells slots Q (F0 m pc ls rest) := by
  subst hc
  subst hs
  refine va_new (ci := 1) (fs := [.int 0, .int 0, .int 0, .int 0, .int 0, .int 0, .int 0]) (C := RX1) (T := TX1) (N := 7) C.1 C.2.1 C.2.2.2.2.1 inlX1 tyX1 tyX1_ok C.2.2.2.1 (C.2.2.2.2.1 _ h1) (C.2.2.2.2.1 _ h2) (C.2.2.2.2.1 _ h3) C.2.2.2.2.2.1 S.1 S.2.1 S.2.2 C.2.2.2.2.2.2.1 rfl (fun j hj => by rcases (show j = 0 ∨ j = 1 ∨ j = 2 ∨ j = 3 ∨ j = 4 ∨ j = 5 ∨ j = 6 by omega) with rfl | rfl | rfl | rfl | rfl | rfl | rfl <;> rfl) hRc hRs hdg (fun q H1 hP1 hD1 hS1 => ?_)
  rw [List.append_assoc] at hP1 hD1
  exact kk q H1 ⟨hP1, hD1, hS1⟩
theorem x_new2 (C : gC p s m args meth c cc nL own D (ty3 cI cR cB) t A) (S : sS D A s cI cR o z u X H locs) {idx : Nat} (h1 : Cond.classLink own idx RX2 ∈ wsL_law) (h2 : Cond.instantiable RX2 5 ∈ wsL_law) (h3 : Cond.initialized RX2 ∈ wsL_law) {cells' slots' : Nat} (hc : cells + 1 = cells') (hs : slots + 5 = slots') (hRc : cells' ≤ R.cells) (hRs : slots' ≤ R.slots) (hdg : decode cc pc = .ok (.new idx, 3))
    (kk : ∀ (q : Nat) (H1 : Heap), sS D A s cI cR o z u (X ++ [(q, .inr (2, [.int 0, .null, .null, .null, .null]))]) H1 locs → W p l e R s m args below meth c H1 locs cells' slots' Q (F0 m (pc + 3) ls (.ref q :: rest))) : W p l e R s m args below meth c H locs cells slots Q (F0 m pc ls rest) := by
  subst hc
  subst hs
  refine va_new (ci := 2) (fs := [.int 0, .null, .null, .null, .null]) (C := RX2) (T := TX2) (N := 5) C.1 C.2.1 C.2.2.2.2.1 inlX2 tyX2 tyX2_ok C.2.2.2.1 (C.2.2.2.2.1 _ h1) (C.2.2.2.2.1 _ h2) (C.2.2.2.2.1 _ h3) C.2.2.2.2.2.1 S.1 S.2.1 S.2.2 C.2.2.2.2.2.2.1 rfl (fun j hj => by rcases (show j = 0 ∨ j = 1 ∨ j = 2 ∨ j = 3 ∨ j = 4 by omega) with rfl | rfl | rfl | rfl | rfl <;> rfl) hRc hRs hdg (fun q H1 hP1 hD1 hS1 => ?_)
  rw [List.append_assoc] at hP1 hD1
  exact kk q H1 ⟨hP1, hD1, hS1⟩
/-- a clone of the row at place j of all -/
theorem x_cln (C : gC p s m args meth c cc nL own D (ty3 cI cR cB) t A) (S : sS D A s cI cR o z u X H locs) (j : Nat) {a n : Nat} {f : Nat → Int32} (hj : (rs_w cI cR o z u ++ X)[j]? = some (a, .inl (cI, n, .inl f))) {idx : Nat} (hl : ls.size = nL) (h1 : Cond.methodLink own idx ⟨"[I", "clone", "()Ljava/lang/Object;"⟩ ∈ wsL_law) (h2 : Cond.sameMethod "[I" "java/lang/Object" "clone" "()Ljava/lang/Object;" ∈ wsL_law) (h3 : Cond.native ⟨"java/lang/Object", "clone", "()Ljava/lang/Object;"⟩ ∈ wsL_law) (h4 : Cond.instanceMethod ⟨"java/lang/Object", "clone", "()Ljava/lang/Object;"⟩ ∈ wsL_law) (h5 : Cond.selects "[I" ⟨"[I", "clone", "()Ljava/lang/Object;"⟩ ⟨"java/lang/Object", "clone", "()Ljava/lang/Object;"⟩ ∈ wsL_law) (h6 : va_Nw (.castable "[I" "java/lang/Cloneable") s)
    (hfr : 1 ≤ R.frames) (hlo : (rest.map fun v => v.category).sum + 14 ≤ R.locals) {cells' slots' : Nat} (hc : cells + 1 = cells') (hs : slots + n = slots') (hRc : cells' ≤ R.cells) (hRs : slots' ≤ R.slots) (hdg : decode cc pc = .ok (.invokevirtual idx, 3))
    (kk : ∀ (q : Nat) (H1 : Heap), sS D A s cI cR o z u (X ++ [(q, .inl (cI, n, .inl f))]) H1 locs → W p l e R s m args below meth c H1 locs cells' slots' Q (F0 m (pc + 3) ls (.ref q :: rest))) : W p l e R s m args below meth c H locs cells slots Q (F0 m pc ls (.ref a :: rest)) := by
  subst hc
  subst hs
  refine va_clone (D := D) C.1 C.2.1 (C.2.2.1.trans hl.symm) C.2.2.2.1 (C.2.2.2.2.1 _ h1) (C.2.2.2.2.1 _ h2) (C.2.2.2.2.1 _ h3) (C.2.2.2.2.1 _ h4) (C.2.2.2.2.1 _ h5) h6 C.2.2.2.2.2.1 S.1 S.2.1 S.2.2 C.2.2.2.2.2.2.1 j 0 hj rfl (C.2.2.2.2.2.1.2 0 (cI, .int) rfl).2 (va_fit (fun _ _ => rfl)) hfr hlo hRc hRs hdg (fun q H1 hK1 hP1 hD1 hS1 => ?_)
  rw [List.append_assoc] at hP1 hD1
  exact kk q H1 ⟨hP1, hD1, hS1⟩
theorem x_cst (C : gC p s m args meth c cc nL own D (ty3 cI cR cB) t A) (S : sS D A s cI cR o z u X H locs) (j : Nat) {a idx : Nat} {x : vp_A} (hj : X[j]? = some (a, .inl (cI, x))) (hq : Cond.classLink own idx "[I" ∈ wsL_law) (hdg : decode cc pc = .ok (.checkcast idx, 3))
    (kk : W p l e R s m args below meth c H locs cells slots Q (F0 m (pc + 3) ls (.ref a :: rest))) : W p l e R s m args below meth c H locs cells slots Q (F0 m pc ls (.ref a :: rest)) :=
  va_castA (D := D) C.1 C.2.1 C.2.2.2.1 (C.2.2.2.2.1 _ hq) S.1 _ (rs_xp hj) (C.2.2.2.2.2.1.2 0 (cI, .int) rfl).2 hdg kk
theorem x_anw (C : gC p s m args meth c cc nL own D (ty3 cI cR cB) t A) (S : sS D A s cI cR o z u X H locs) {idx N : Nat} {n0 : Int32} (h0 : n0 = nI N) (hN : N < 1000) (hq : Cond.classLink own idx RX1 ∈ wsL_law) (hAO : va_AO RX1 s) {cells' slots' : Nat} (hc : cells + 1 = cells') (hs : slots + N = slots') (hRc : cells' ≤ R.cells) (hRs : slots' ≤ R.slots) (hdg : decode cc pc = .ok (.anewarray idx, 3))
    (kk : ∀ (q : Nat) (H1 : Heap), sS D A s cI cR o z u (X ++ [(q, .inl (cR, N, .inr (.inr (.inr (.inr (fun _ => none))))))]) H1 locs → W p l e R s m args below meth c H1 locs cells' slots' Q (F0 m (pc + 3) ls (.ref q :: rest))) : W p l e R s m args below meth c H locs cells slots Q (F0 m pc ls (.int n0 :: rest)) := by
  subst h0
  subst hc
  subst hs
  refine va_newq (D := D) C.1 C.2.1 C.2.2.2.1 (C.2.2.2.2.1 _ hq) hAO C.2.2.2.2.2.1 S.1 S.2.1 S.2.2 C.2.2.2.2.2.2.1 (nI_pos (by omega)) (nI_clamp (by omega)) (by omega) hRc hRs hdg (fun q cA H1 hK1 hP1 hD1 hS1 => ?_)
  obtain ⟨kA, comp, k1, k2, k3, k4⟩ := (C.2.2.2.2.2.1.2 1 (cR, .object RX1) rfl).2
  obtain ⟨kB, comp', k1', k2', k3', k4'⟩ := (hK1.2 3 (cA, .object RX1) rfl).2
  have e3 : cR = cA := Option.some.inj (k4.symm.trans k4')
  subst e3
  rw [List.append_assoc] at hP1 hD1
  exact kk q H1 ⟨hP1, hD1, hS1⟩
theorem x_ast (C : gC p s m args meth c cc nL own D (ty3 cI cR cB) t A) (S : sS D A s cI cR o z u X H locs) (j qk : Nat) {a n i v : Nat} {f : Nat → Option Nat} {vs : List Value} {i0 : Int32} (hj : X[j]? = some (a, .inl (cR, n, .inr (.inr (.inr (.inr f)))))) (hv : (rs_w cI cR o z u ++ X)[qk]? = some (v, .inr (1, vs))) (hn : n < 1000) (hi : i < n) (h0 : i0 = nI i) (hdg : decode cc pc = .ok (.aastore, 1))
    (kk : ∀ (H1 : Heap) (locs1 : List Loc), sS D A s cI cR o z u (X.set j (a, .inl (cR, n, .inr (.inr (.inr (.inr (va_up f i (some v)))))))) H1 locs1 → W p l e R s m args below meth c H1 locs1 cells slots Q (F0 m (pc + 1) ls rest)) : W p l e R s m args below meth c H locs cells slots Q (F0 m pc ls (.ref v :: .int i0 :: .ref a :: rest)) := by
  subst h0
  refine va_astq (D := D) (r := (RX1, TX1, 7)) C.1 C.2.1 C.2.2.2.2.2.1 S.1 S.2.1 S.2.2 _ 1 qk 1 (rs_xp hj) rfl hv rfl (vp_in_nI hi (by omega)) hdg (fun H1 locs1 hP1 hD1 hS1 => ?_)
  rw [nI_clamp (by omega), rs_xs] at hP1 hD1
  exact kk H1 locs1 ⟨hP1, hD1, hS1⟩
theorem x_ald (C : gC p s m args meth c cc nL own D (ty3 cI cR cB) t A) (S : sS D A s cI cR o z u X H locs) (j : Nat) {a n i : Nat} {f : Nat → Option Nat} {i0 : Int32} (hj : X[j]? = some (a, .inl (cR, n, .inr (.inr (.inr (.inr f)))))) (hn : n < 1000) (hi : i < n) (h0 : i0 = nI i) (hdg : decode cc pc = .ok (.aaload, 1))
    (kk : W p l e R s m args below meth c H locs cells slots Q (F0 m (pc + 1) ls (va_rf (f i) :: rest))) : W p l e R s m args below meth c H locs cells slots Q (F0 m pc ls (.int i0 :: .ref a :: rest)) := by
  subst h0
  exact va_aldq (D := D) (n := n) (f := f) C.1 C.2.1 C.2.2.2.2.2.1 S.1 _ 1 (rs_xp hj) rfl (vp_in_nI hi (by omega)) hdg (by rw [nI_clamp (by omega)]; exact kk)
end OROWS
/-- a row of references by another name of its contents -/
theorem va_P.ren {D : va_G} {cl : List vw_C} {a b : va_W} {q n : Nat} {cA : ClassId} {f g : Nat → Option Nat} {H : Heap} (h : va_P D cl (a ++ ((q, .inl (cA, n, .inr (.inr (.inr (.inr f))))) :: b)) H) (e : ∀ k : Nat, k < n → f k = g k) : va_P D cl (a ++ ((q, .inl (cA, n, .inr (.inr (.inr (.inr g))))) :: b)) H := by
  refine va_P.app (rp_left h) (fun k x hk => ?_)
  have h2 := rp_right h
  cases k with
  | zero =>
    have h0 := h2 0 _ rfl
    have hk : some _ = some x := hk
    cases hk
    show H[q]? = some (vp_cell _ _)
    rw [vp_cell_q, ← rp_arr (f := fun j => va_rf (f j)) (fun j hj => congrArg va_rf (e j hj)), ← vp_cell_q]
    exact h0
  | succ k => exact h2 (k + 1) x hk
end
section
section GARO
variable {p : Program} {l : Launch} {e : Env} {R : Room} {s : State} {m : MethodId} {args : Array Value} {below : List Frame} {meth : Method} {c : Code} {H : Heap} {locs : List Loc} {cells slots : Nat}
variable {cc : ByteArray} {nL pc : Nat} {ls : Array Slot} {own : String} {D : va_G} {ty : List (ClassId × FieldType)} {t : Nat → Nat} {A : Nat → Prop} {w' : va_W}
theorem g_areto {post : Nat × va_W → Prop} {a : Nat} {rt : String} (C : gC p s m args meth c cc nL own D ty t A) (hr : meth.sig.returnType = some (.object rt)) (hP : va_P D vwCl w' H) (hD : va_D A w') (hS : va_S A s.heap H locs) (hdg : decode cc pc = .ok (.areturn, 1)) (hpost : post (a, w')) :
    W p l e R s m args below meth c H locs cells slots (MQ below (va_Qr (S := Nat × va_W) post (fun u a U => u.1 = a ∧ gQ D A u.2 U) A) args s cells slots A) (F0 m pc ls [.ref a]) :=
  W.aret C.1 C.2.1 hr (Or.inl ⟨_, rfl⟩) (Or.inr ⟨_, rfl⟩) (fun t ht hW => ⟨⟨(a, w'), a, rfl, hpost, rfl, by rw [ht]; exact hP, hD⟩, hS.F ht⟩) hS.2.2 hdg C.2.2.2.2.2.2.2.2
end GARO
/-- the reapers copied so far -/
def cp_f (u : S0) (pa : Nat → Nat) (k : Nat) : Nat × va_E := (pa k, .inr (1, rq_f u k))
theorem cp_pl {a b c d : Nat × va_E} {n : Nat} {f : Nat → Nat × va_E} (x : Nat × va_E) : ((a :: b :: c :: d :: fam n f) ++ [x])[4 + n]? = some x := by
  rw [List.getElem?_append_right (by rw [List.length_cons, List.length_cons, List.length_cons, List.length_cons, fam_len]; omega)]
  have : 4 + n - (a :: b :: c :: d :: fam n f).length = 0 := by
    rw [List.length_cons, List.length_cons, List.length_cons, List.length_cons, fam_len]
    omega
  rw [this]
  rfl
theorem cp_norm {D : va_G} {A : Nat → Prop} {s : State} {cI cR : ClassId} {o : Nat} {z : SA} {u : S0} {a b c : Nat × va_E} {a2 n i q : Nat} {pa : Nat → Nat} {H : Heap} {locs : List Loc}
    (h : sS D A s cI cR o z u ((((a :: b :: c :: (a2, .inl (cR, n, .inr (.inr (.inr (.inr (fun k => if k < i then some (pa k) else none)))))) :: fam i (fun k => (pa k, (.inr (1, rq_f u k) : va_E)))) ++ [(q, .inr (1, rq_f u i))] : va_W)).set 3 (a2, .inl (cR, n, .inr (.inr (.inr (.inr (va_up (fun k => if k < i then some (pa k) else none) i (some q)))))))) H locs) :
    sS D A s cI cR o z u (a :: b :: c :: (a2, .inl (cR, n, .inr (.inr (.inr (.inr (fun k => if k < i + 1 then some ((fun k => if k = i then q else pa k) k) else none)))))) :: fam (i + 1) (fun k => ((fun k => if k = i then q else pa k) k, .inr (1, rq_f u k)))) H locs := by
  have e1 : va_up (fun k => if k < i then some (pa k) else none) i (some q) = fun k => if k < i + 1 then some ((fun k => if k = i then q else pa k) k) else none := by
    funext k
    unfold va_up
    by_cases e : k = i
    · subst e
      simp
    · by_cases h : k < i
      · simp [e, h, Nat.lt_succ_of_lt h]
      · simp [e, h, show ¬ k < i + 1 by omega]
  have e2 : fam i (fun k => (pa k, .inr (1, rq_f u k))) ++ [(q, .inr (1, rq_f u i))] = fam (i + 1) (fun k => ((fun k => if k = i then q else pa k) k, .inr (1, rq_f u k))) := by
    rw [fam_succ, fam_congr (g := fun k => ((fun k => if k = i then q else pa k) k, (.inr (1, rq_f u k) : va_E))) (fun k hk => by simp [Nat.ne_of_lt hk])]
    simp
  rw [e1] at h
  rw [← e2]
  exact h
theorem cp_end {D : va_G} {A : Nat → Prop} {s : State} {cI cR : ClassId} {o : Nat} {z : SA} {u : S0} {o2 r2 c2 a2 : Nat} {pa : Nat → Nat} {H : Heap} {locs : List Loc}
    (h : sS D A s cI cR o z u ((o2, .inr (2, [.int u.2.2, .ref r2, .ref c2, .ref a2, .null])) :: (r2, .inl (cI, 5, .inl (u.1 7))) :: (c2, .inl (cI, 3, .inl (u.1 8))) :: (a2, .inl (cR, u.2.1, .inr (.inr (.inr (.inr (fun k => if k < u.2.1 then some (pa k) else none)))))) :: fam u.2.1 (fun k => (pa k, .inr (1, rq_f u k)))) H locs) :
    sS D A s cI cR o z u (rs_w cI cR o2 (fun k => if k = 0 then r2 else if k = 1 then c2 else a2, pa, none) u) H locs := by
  obtain ⟨hP, hD, hS⟩ := h
  have e : ∀ f : Nat → Option Nat, rs_w cI cR o z u ++ ((o2, .inr (2, [.int u.2.2, .ref r2, .ref c2, .ref a2, .null])) :: (r2, .inl (cI, 5, .inl (u.1 7))) :: (c2, .inl (cI, 3, .inl (u.1 8))) :: (a2, .inl (cR, u.2.1, .inr (.inr (.inr (.inr f))))) :: fam u.2.1 (fun k => (pa k, (.inr (1, rq_f u k) : va_E)))) = (rs_w cI cR o z u ++ [(o2, .inr (2, [.int u.2.2, .ref r2, .ref c2, .ref a2, .null])), (r2, .inl (cI, 5, .inl (u.1 7))), (c2, .inl (cI, 3, .inl (u.1 8)))]) ++ ((a2, .inl (cR, u.2.1, .inr (.inr (.inr (.inr f))))) :: fam u.2.1 (fun k => (pa k, (.inr (1, rq_f u k) : va_E)))) := fun f => by
    rw [List.append_assoc]
    rfl
  rw [e] at hP
  have hP := va_P.ren (g := fun k => some (pa k)) hP (fun k hk => if_pos hk)
  rw [← e] at hP
  refine ⟨hP, rd_map hD ?_, hS⟩
  rw [List.map_append, List.map_append]
  rfl
theorem kd_X1_init : yX1_init.cls = yX1_init.cls ∧ yX1_init.cls ≠ "java/lang/invoke/MethodHandle" ∧ yX1_init.cls ≠ "java/lang/invoke/VarHandle" ∧ (parseMethodDescriptor yX1_init.desc).map (fun d => d.parameters.length) = some 0 := by decide +kernel
theorem kd_X2_init : yX2_init.cls = yX2_init.cls ∧ yX2_init.cls ≠ "java/lang/invoke/MethodHandle" ∧ yX2_init.cls ≠ "java/lang/invoke/VarHandle" ∧ (parseMethodDescriptor yX2_init.desc).map (fun d => d.parameters.length) = some 0 := by decide +kernel
theorem kd_X1_copy : yX1_copy.cls = yX1_copy.cls ∧ yX1_copy.cls ≠ "java/lang/invoke/MethodHandle" ∧ yX1_copy.cls ≠ "java/lang/invoke/VarHandle" ∧ (parseMethodDescriptor yX1_copy.desc).map (fun d => d.parameters.length) = some 0 := by decide +kernel
theorem kd_X2_copy : yX2_copy.cls = yX2_copy.cls ∧ yX2_copy.cls ≠ "java/lang/invoke/MethodHandle" ∧ yX2_copy.cls ≠ "java/lang/invoke/VarHandle" ∧ (parseMethodDescriptor yX2_copy.desc).map (fun d => d.parameters.length) = some 0 := by decide +kernel
set_option maxHeartbeats 4000000 in
set_option maxRecDepth 100000 in
theorem mX1_init (l : Launch) (D : va_G) (t : Nat → Nat) (cI cR cB : ClassId) (o : Nat) (sz : Nat) (fs : List Value) : gMv l yX1_init (rw_ yX1_init cX1_init 1 none) (rm_ 1 0 0 40) [.ref o] D (ty3 cI cR cB) t (([(o, .inr (1, fs))] : va_W)) sz (fun w' => w' = [(o, .inr (1, fs))]) := by
  refine g_of (cc := cX1_init) (nL := 1) (rt := none) (Q := fun A => va_Qv _ (fun w' U => gQ D A w' U) A) (by decide) (Nat.le_of_ble_eq_true rfl) (fun p e s m args below meth c A ls H C hrt hnm hS hP hD hl => ?_)
  have hx := C.1
  have hb := C.2.1
  have hown := C.2.2.2.1
  have hts := C.2.2.2.2.1
  have hl : lv_has ls 1 [(0, .ref o)] := hl
  refine lv_aload_n hx hb dX1_init_0 rfl (lv_at hl 0 rfl) ?_
  refine W.objInit hx hb hown (hts _ q61) (hts _ q9) (hts _ q10) rfl (by rw [C.2.2.1]; exact hl.1) rfl dX1_init_1 (Nat.le_of_ble_eq_true rfl) (Nat.le_of_ble_eq_true rfl) ?_
  refine W.eq (g2 := F0 m 4 ls []) rfl ?_
  exact g_vret C hrt hP hD hS dX1_init_4 rfl
set_option maxHeartbeats 4000000 in
set_option maxRecDepth 100000 in
theorem mX2_init (l : Launch) (D : va_G) (t : Nat → Nat) (cI cR cB : ClassId) (o : Nat) (sz : Nat)  : gMv l yX2_init (rw_ yX2_init cX2_init 1 none) (rm_ 1 3 8 60) [.ref o] D (ty3 cI cR cB) t (([(o, .inr (2, [.int 0, .null, .null, .null, .null]))] : va_W)) sz (fun w' => ∃ z : SA, z.2.2 = none ∧ w' = rs_w cI cR o z ra_u0) := by
  refine g_of (cc := cX2_init) (nL := 1) (rt := none) (Q := fun A => va_Qv _ (fun w' U => gQ D A w' U) A) (by decide) (Nat.le_of_ble_eq_true rfl) (fun p e s m args below meth c A ls H C hrt hnm hS hP hD hl => ?_)
  have hx := C.1
  have hb := C.2.1
  have hown := C.2.2.2.1
  have hts := C.2.2.2.2.1
  have hl : lv_has ls 1 [(0, .ref o)] := hl
  refine lv_aload_n hx hb dX2_init_0 rfl (lv_at hl 0 rfl) ?_
  refine W.objInit hx hb hown (hts _ q32) (hts _ q9) (hts _ q10) rfl (by rw [C.2.2.1]; exact hl.1) rfl dX2_init_1 (Nat.le_of_ble_eq_true rfl) (Nat.le_of_ble_eq_true rfl) ?_
  refine W.eq (g2 := F0 m 4 ls []) rfl ?_
  refine lv_aload_n hx hb dX2_init_4 rfl (lv_at hl 0 rfl) ?_
  refine lv_iconst (v := 5) hx hb dX2_init_5 (by decide) ?_
  refine n_new rfl C hP hD hS (N := 5) rfl (by decide) q4 (cells' := 1) (slots' := 5) rfl rfl (Nat.le_of_ble_eq_true rfl) (Nat.le_of_ble_eq_true rfl) dX2_init_6 (fun qa0 H hP hD hS => ?_)
  have hP : va_P D vwCl ([(o, .inr (2, [.int 0, .null, .null, .null, .null])), (qa0, .inl (cI, 5, .inl (fun _ => 0)))] : va_W) H := hP
  have hD : va_D A ([(o, .inr (2, [.int 0, .null, .null, .null, .null])), (qa0, .inl (cI, 5, .inl (fun _ => 0)))] : va_W) := hD
  refine lv_dup hx hb dX2_init_8 rfl ?_
  refine lv_iconst (v := 0) hx hb dX2_init_9 (by decide) ?_
  refine lv_bipush (v := 12) hx hb dX2_init_10 (by decide) ?_
  refine n_st rfl C hP hD hS 1 (i := 0) rfl (by decide) (by decide) rfl dX2_init_12 (fun H locs hP hD hS => ?_)
  have hP : va_P D vwCl ([(o, .inr (2, [.int 0, .null, .null, .null, .null])), (qa0, .inl (cI, 5, .inl (upd (fun _ => 0) 0 12)))] : va_W) H := hP
  have hD : va_D A ([(o, .inr (2, [.int 0, .null, .null, .null, .null])), (qa0, .inl (cI, 5, .inl (upd (fun _ => 0) 0 12)))] : va_W) := hD
  refine lv_dup hx hb dX2_init_13 rfl ?_
  refine lv_iconst (v := 1) hx hb dX2_init_14 (by decide) ?_
  refine lv_bipush (v := 20) hx hb dX2_init_15 (by decide) ?_
  refine n_st rfl C hP hD hS 1 (i := 1) rfl (by decide) (by decide) rfl dX2_init_17 (fun H locs hP hD hS => ?_)
  have hP : va_P D vwCl ([(o, .inr (2, [.int 0, .null, .null, .null, .null])), (qa0, .inl (cI, 5, .inl (upd (upd (fun _ => 0) 0 12) 1 20)))] : va_W) H := hP
  have hD : va_D A ([(o, .inr (2, [.int 0, .null, .null, .null, .null])), (qa0, .inl (cI, 5, .inl (upd (upd (fun _ => 0) 0 12) 1 20)))] : va_W) := hD
  refine lv_dup hx hb dX2_init_18 rfl ?_
  refine lv_iconst (v := 2) hx hb dX2_init_19 (by decide) ?_
  refine lv_sipush (v := 400) hx hb dX2_init_20 (by decide) ?_
  refine n_st rfl C hP hD hS 1 (i := 2) rfl (by decide) (by decide) rfl dX2_init_23 (fun H locs hP hD hS => ?_)
  have hP : va_P D vwCl ([(o, .inr (2, [.int 0, .null, .null, .null, .null])), (qa0, .inl (cI, 5, .inl (upd (upd (upd (fun _ => 0) 0 12) 1 20) 2 400)))] : va_W) H := hP
  have hD : va_D A ([(o, .inr (2, [.int 0, .null, .null, .null, .null])), (qa0, .inl (cI, 5, .inl (upd (upd (upd (fun _ => 0) 0 12) 1 20) 2 400)))] : va_W) := hD
  refine lv_dup hx hb dX2_init_24 rfl ?_
  refine lv_iconst (v := 3) hx hb dX2_init_25 (by decide) ?_
  refine lv_bipush (v := 25) hx hb dX2_init_26 (by decide) ?_
  refine n_st rfl C hP hD hS 1 (i := 3) rfl (by decide) (by decide) rfl dX2_init_28 (fun H locs hP hD hS => ?_)
  have hP : va_P D vwCl ([(o, .inr (2, [.int 0, .null, .null, .null, .null])), (qa0, .inl (cI, 5, .inl (upd (upd (upd (upd (fun _ => 0) 0 12) 1 20) 2 400) 3 25)))] : va_W) H := hP
  have hD : va_D A ([(o, .inr (2, [.int 0, .null, .null, .null, .null])), (qa0, .inl (cI, 5, .inl (upd (upd (upd (upd (fun _ => 0) 0 12) 1 20) 2 400) 3 25)))] : va_W) := hD
  refine lv_dup hx hb dX2_init_29 rfl ?_
  refine lv_iconst (v := 4) hx hb dX2_init_30 (by decide) ?_
  refine lv_iconst (v := 4) hx hb dX2_init_31 (by decide) ?_
  refine n_st rfl C hP hD hS 1 (i := 4) rfl (by decide) (by decide) rfl dX2_init_32 (fun H locs hP hD hS => ?_)
  have hP : va_P D vwCl ([(o, .inr (2, [.int 0, .null, .null, .null, .null])), (qa0, .inl (cI, 5, .inl (upd (upd (upd (upd (upd (fun _ => 0) 0 12) 1 20) 2 400) 3 25) 4 4)))] : va_W) H := hP
  have hD : va_D A ([(o, .inr (2, [.int 0, .null, .null, .null, .null])), (qa0, .inl (cI, 5, .inl (upd (upd (upd (upd (upd (fun _ => 0) 0 12) 1 20) 2 400) 3 25) 4 4)))] : va_W) := hD
  refine va_put (D := D) (ci := 2) (v := .ref qa0) (ty := .array .int) (C := RX2) (T := TX2) (N := 5) hx hb hts inlX2 tyX2 tyX2_ok nmX2 hown C.2.2.2.2.2.1 hP hD hS 0 rfl rfl 1 (by decide) (hts _ q33) (fun x h => h) rfl (by decide +kernel) rfl rfl (Nat.le_of_ble_eq_true rfl) dX2_init_33 (fun H locs hP hD hS => ?_)
  have hP : va_P D vwCl ([(o, .inr (2, [.int 0, .ref qa0, .null, .null, .null])), (qa0, .inl (cI, 5, .inl (upd (upd (upd (upd (upd (fun _ => 0) 0 12) 1 20) 2 400) 3 25) 4 4)))] : va_W) H := hP
  have hD : va_D A ([(o, .inr (2, [.int 0, .ref qa0, .null, .null, .null])), (qa0, .inl (cI, 5, .inl (upd (upd (upd (upd (upd (fun _ => 0) 0 12) 1 20) 2 400) 3 25) 4 4)))] : va_W) := hD
  refine lv_aload_n hx hb dX2_init_36 rfl (lv_at hl 0 rfl) ?_
  refine lv_iconst (v := 3) hx hb dX2_init_37 (by decide) ?_
  refine n_new rfl C hP hD hS (N := 3) rfl (by decide) q4 (cells' := 2) (slots' := 8) rfl rfl (Nat.le_of_ble_eq_true rfl) (Nat.le_of_ble_eq_true rfl) dX2_init_38 (fun qa1 H hP hD hS => ?_)
  have hP : va_P D vwCl ([(o, .inr (2, [.int 0, .ref qa0, .null, .null, .null])), (qa0, .inl (cI, 5, .inl (upd (upd (upd (upd (upd (fun _ => 0) 0 12) 1 20) 2 400) 3 25) 4 4))), (qa1, .inl (cI, 3, .inl (fun _ => 0)))] : va_W) H := hP
  have hD : va_D A ([(o, .inr (2, [.int 0, .ref qa0, .null, .null, .null])), (qa0, .inl (cI, 5, .inl (upd (upd (upd (upd (upd (fun _ => 0) 0 12) 1 20) 2 400) 3 25) 4 4))), (qa1, .inl (cI, 3, .inl (fun _ => 0)))] : va_W) := hD
  refine va_put (D := D) (ci := 2) (v := .ref qa1) (ty := .array .int) (C := RX2) (T := TX2) (N := 5) hx hb hts inlX2 tyX2 tyX2_ok nmX2 hown C.2.2.2.2.2.1 hP hD hS 0 rfl rfl 2 (by decide) (hts _ q34) (fun x h => h) rfl (by decide +kernel) rfl rfl (Nat.le_of_ble_eq_true rfl) dX2_init_40 (fun H locs hP hD hS => ?_)
  have hP : va_P D vwCl ([(o, .inr (2, [.int 0, .ref qa0, .ref qa1, .null, .null])), (qa0, .inl (cI, 5, .inl (upd (upd (upd (upd (upd (fun _ => 0) 0 12) 1 20) 2 400) 3 25) 4 4))), (qa1, .inl (cI, 3, .inl (fun _ => 0)))] : va_W) H := hP
  have hD : va_D A ([(o, .inr (2, [.int 0, .ref qa0, .ref qa1, .null, .null])), (qa0, .inl (cI, 5, .inl (upd (upd (upd (upd (upd (fun _ => 0) 0 12) 1 20) 2 400) 3 25) 4 4))), (qa1, .inl (cI, 3, .inl (fun _ => 0)))] : va_W) := hD
  refine lv_aload_n hx hb dX2_init_43 rfl (lv_at hl 0 rfl) ?_
  refine lv_iconst (v := 0) hx hb dX2_init_44 (by decide) ?_
  refine va_newq (D := D) C.1 C.2.1 C.2.2.2.1 (C.2.2.2.2.1 _ q35) (C.2.2.2.2.2.2.2.1.2.2.2.2.2.2.2.2.2.1) C.2.2.2.2.2.1 hP hD hS C.2.2.2.2.2.2.1 (n := 0) (N' := 0) (by decide) (by decide) (by decide) (Nat.le_of_ble_eq_true rfl) (Nat.le_of_ble_eq_true rfl) dX2_init_45 (fun qa2 cA H hK1 hP hD hS => ?_)
  obtain ⟨kA, comp, k1, k2, k3, k4⟩ := (C.2.2.2.2.2.1.2 1 (cR, .object RX1) rfl).2
  obtain ⟨kB, comp', k1', k2', k3', k4'⟩ := (hK1.2 3 (cA, .object RX1) rfl).2
  have e3 : cR = cA := Option.some.inj (k4.symm.trans k4')
  subst e3
  have hP : va_P D vwCl ([(o, .inr (2, [.int 0, .ref qa0, .ref qa1, .null, .null])), (qa0, .inl (cI, 5, .inl (upd (upd (upd (upd (upd (fun _ => 0) 0 12) 1 20) 2 400) 3 25) 4 4))), (qa1, .inl (cI, 3, .inl (fun _ => 0))), (qa2, .inl (cR, 0, .inr (.inr (.inr (.inr (fun _ => none))))))] : va_W) H := hP
  have hD : va_D A ([(o, .inr (2, [.int 0, .ref qa0, .ref qa1, .null, .null])), (qa0, .inl (cI, 5, .inl (upd (upd (upd (upd (upd (fun _ => 0) 0 12) 1 20) 2 400) 3 25) 4 4))), (qa1, .inl (cI, 3, .inl (fun _ => 0))), (qa2, .inl (cR, 0, .inr (.inr (.inr (.inr (fun _ => none))))))] : va_W) := hD
  refine va_put (D := D) (ci := 2) (v := .ref qa2) (ty := .array (.object RX1)) (C := RX2) (T := TX2) (N := 5) hx hb hts inlX2 tyX2 tyX2_ok nmX2 hown C.2.2.2.2.2.1 hP hD hS 0 rfl rfl 3 (by decide) (hts _ q36) (fun x h => h) rfl (by decide +kernel) rfl rfl (Nat.le_of_ble_eq_true rfl) dX2_init_48 (fun H locs hP hD hS => ?_)
  have hP : va_P D vwCl ([(o, .inr (2, [.int 0, .ref qa0, .ref qa1, .ref qa2, .null])), (qa0, .inl (cI, 5, .inl (upd (upd (upd (upd (upd (fun _ => 0) 0 12) 1 20) 2 400) 3 25) 4 4))), (qa1, .inl (cI, 3, .inl (fun _ => 0))), (qa2, .inl (cR, 0, .inr (.inr (.inr (.inr (fun _ => none))))))] : va_W) H := hP
  have hD : va_D A ([(o, .inr (2, [.int 0, .ref qa0, .ref qa1, .ref qa2, .null])), (qa0, .inl (cI, 5, .inl (upd (upd (upd (upd (upd (fun _ => 0) 0 12) 1 20) 2 400) 3 25) 4 4))), (qa1, .inl (cI, 3, .inl (fun _ => 0))), (qa2, .inl (cR, 0, .inr (.inr (.inr (.inr (fun _ => none))))))] : va_W) := hD
  have hP := va_P.ren (a := [(o, .inr (2, [.int 0, .ref qa0, .ref qa1, .ref qa2, .null])), (qa0, .inl (cI, 5, .inl (upd (upd (upd (upd (upd (fun _ => 0) 0 12) 1 20) 2 400) 3 25) 4 4))), (qa1, .inl (cI, 3, .inl (fun _ => 0)))]) (b := []) (g := fun _ => some 0) hP (fun k hk => absurd hk (Nat.not_lt_zero k))
  have hP : va_P D vwCl (rs_w cI cR o (fun k => if k = 0 then qa0 else if k = 1 then qa1 else qa2, fun _ => 0, none) ra_u0) H := hP
  have hD : va_D A (rs_w cI cR o (fun k => if k = 0 then qa0 else if k = 1 then qa1 else qa2, fun _ => 0, none) ra_u0) := rd_map hD rfl
  exact g_vret C hrt hP hD hS dX2_init_51 ⟨_, rfl, rfl⟩
set_option maxHeartbeats 4000000 in
set_option maxRecDepth 100000 in
theorem mX1_copy (l : Launch) (D : va_G) (t : Nat → Nat) (cI cR cB : ClassId) (o : Nat) (z : SA) (sz : Nat) (u : S0) (k : Nat) (hk : k < u.2.1) : gMr l yX1_copy (rw_ yX1_copy cX1_copy 2 (some (.object "ReaperWagesLaw$Reaper"))) (rm_ 2 1 7 70) [.ref (z.2.1 k)] D (ty3 cI cR cB) t (rs_w cI cR o z u) sz (fun x => x.2 = rs_w cI cR o z u ++ [(x.1, .inr (1, rq_f u k))]) := by
  refine g_of (cc := cX1_copy) (nL := 2) (rt := (some (.object "ReaperWagesLaw$Reaper"))) (Q := fun A => va_Qr (S := Nat × va_W) _ (fun u a U => u.1 = a ∧ gQ D A u.2 U) A) (by decide) (Nat.le_of_ble_eq_true rfl) (fun p e s m args below meth c A ls H C hrt hnm hS hP hD hl => ?_)
  have hx := C.1
  have hb := C.2.1
  have hown := C.2.2.2.1
  have hts := C.2.2.2.2.1
  have hl : lv_has ls 2 [(0, .ref (z.2.1 k))] := hl
  have S : sS D A s cI cR o z u [] H [] := ⟨by rw [List.append_nil]; exact hP, by rw [List.append_nil]; exact hD, hS⟩
  obtain ⟨locs, elocs⟩ : ∃ z : List Loc, z = [] := ⟨_, rfl⟩
  rw [← elocs] at S ⊢
  refine x_new1 C S q260 q50 q51 (cells' := 1) (slots' := 7) rfl rfl (Nat.le_of_ble_eq_true rfl) (Nat.le_of_ble_eq_true rfl) dX1_copy_0 (fun q H S => ?_)
  refine lv_dup hx hb dX1_copy_3 rfl ?_
  refine m_cv (wa := rs_w cI cR o z u) (wb := [(q, .inr (1, [.int 0, .int 0, .int 0, .int 0, .int 0, .int 0, .int 0]))]) (wd := []) (cells' := 1) (slots' := 7) rfl rfl C S.1 S.2.1 S.2.2 (fun hPb hDb => g_runI (n := 0) (As := []) C (mX1_init l D t cI cR cB q H.size _) q60 q51 q264 q59 rfl kd_X1_init ⟨Nat.le_of_ble_eq_true rfl, Nat.le_of_ble_eq_true rfl⟩ C.2.2.2.2.2.1 hPb hDb S.2.2 hl.1 rfl rfl (Nat.le_of_ble_eq_true rfl) dX1_copy_4 ⟨Nat.le_of_ble_eq_true rfl, Nat.le_of_ble_eq_true rfl⟩) (fun w' H locs hv _ hP9 hD9 hS9 => ?_)
  subst hv
  have S : sS D A s cI cR o z u [(q, .inr (1, [.int 0, .int 0, .int 0, .int 0, .int 0, .int 0, .int 0]))] H locs := ⟨hP9, hD9, hS9⟩
  refine lv_astore_n (lv' := [(1, .ref q), (0, .ref (z.2.1 k))]) hx hb dX1_copy_7 rfl hl (by decide) rfl (fun ls hl => ?_)
  refine lv_aload_n hx hb dX1_copy_8 rfl (lv_at hl 0 rfl) ?_
  refine lv_aload_n hx hb dX1_copy_9 rfl (lv_at hl 1 rfl) ?_
  refine r_gf C S 0 k (by decide) hk (v := .int (u.1 0 k)) rfl rfl q176 dX1_copy_10 ?_
  refine x_p1 C S 0 0 (by decide) (fs := [.int 0, .int 0, .int 0, .int 0, .int 0, .int 0, .int 0]) rfl rfl rfl (by decide +kernel) (Nat.le_of_ble_eq_true rfl) q176 dX1_copy_13 (fun H locs S => ?_)
  have S : sS D A s cI cR o z u [(q, .inr (1, [.int (u.1 0 k), .int 0, .int 0, .int 0, .int 0, .int 0, .int 0]))] H locs := S
  refine lv_aload_n hx hb dX1_copy_16 rfl (lv_at hl 0 rfl) ?_
  refine lv_aload_n hx hb dX1_copy_17 rfl (lv_at hl 1 rfl) ?_
  refine r_gf C S 1 k (by decide) hk (v := .int (u.1 1 k)) rfl rfl q181 dX1_copy_18 ?_
  refine x_p1 C S 0 1 (by decide) (fs := [.int (u.1 0 k), .int 0, .int 0, .int 0, .int 0, .int 0, .int 0]) rfl rfl rfl (by decide +kernel) (Nat.le_of_ble_eq_true rfl) q181 dX1_copy_21 (fun H locs S => ?_)
  have S : sS D A s cI cR o z u [(q, .inr (1, [.int (u.1 0 k), .int (u.1 1 k), .int 0, .int 0, .int 0, .int 0, .int 0]))] H locs := S
  refine lv_aload_n hx hb dX1_copy_24 rfl (lv_at hl 0 rfl) ?_
  refine lv_aload_n hx hb dX1_copy_25 rfl (lv_at hl 1 rfl) ?_
  refine r_gf C S 2 k (by decide) hk (v := .int (u.1 2 k)) rfl rfl q186 dX1_copy_26 ?_
  refine x_p1 C S 0 2 (by decide) (fs := [.int (u.1 0 k), .int (u.1 1 k), .int 0, .int 0, .int 0, .int 0, .int 0]) rfl rfl rfl (by decide +kernel) (Nat.le_of_ble_eq_true rfl) q186 dX1_copy_29 (fun H locs S => ?_)
  have S : sS D A s cI cR o z u [(q, .inr (1, [.int (u.1 0 k), .int (u.1 1 k), .int (u.1 2 k), .int 0, .int 0, .int 0, .int 0]))] H locs := S
  refine lv_aload_n hx hb dX1_copy_32 rfl (lv_at hl 0 rfl) ?_
  refine lv_aload_n hx hb dX1_copy_33 rfl (lv_at hl 1 rfl) ?_
  refine r_gf C S 3 k (by decide) hk (v := .int (u.1 3 k)) rfl rfl q187 dX1_copy_34 ?_
  refine x_p1 C S 0 3 (by decide) (fs := [.int (u.1 0 k), .int (u.1 1 k), .int (u.1 2 k), .int 0, .int 0, .int 0, .int 0]) rfl rfl rfl (by decide +kernel) (Nat.le_of_ble_eq_true rfl) q187 dX1_copy_37 (fun H locs S => ?_)
  have S : sS D A s cI cR o z u [(q, .inr (1, [.int (u.1 0 k), .int (u.1 1 k), .int (u.1 2 k), .int (u.1 3 k), .int 0, .int 0, .int 0]))] H locs := S
  refine lv_aload_n hx hb dX1_copy_40 rfl (lv_at hl 0 rfl) ?_
  refine lv_aload_n hx hb dX1_copy_41 rfl (lv_at hl 1 rfl) ?_
  refine r_gf C S 4 k (by decide) hk (v := .int (u.1 4 k)) rfl rfl q261 dX1_copy_42 ?_
  refine x_p1 C S 0 4 (by decide) (fs := [.int (u.1 0 k), .int (u.1 1 k), .int (u.1 2 k), .int (u.1 3 k), .int 0, .int 0, .int 0]) rfl rfl rfl (by decide +kernel) (Nat.le_of_ble_eq_true rfl) q261 dX1_copy_45 (fun H locs S => ?_)
  have S : sS D A s cI cR o z u [(q, .inr (1, [.int (u.1 0 k), .int (u.1 1 k), .int (u.1 2 k), .int (u.1 3 k), .int (u.1 4 k), .int 0, .int 0]))] H locs := S
  refine lv_aload_n hx hb dX1_copy_48 rfl (lv_at hl 0 rfl) ?_
  refine lv_aload_n hx hb dX1_copy_49 rfl (lv_at hl 1 rfl) ?_
  refine r_gf C S 5 k (by decide) hk (v := .int (u.1 5 k)) rfl rfl q262 dX1_copy_50 ?_
  refine x_p1 C S 0 5 (by decide) (fs := [.int (u.1 0 k), .int (u.1 1 k), .int (u.1 2 k), .int (u.1 3 k), .int (u.1 4 k), .int 0, .int 0]) rfl rfl rfl (by decide +kernel) (Nat.le_of_ble_eq_true rfl) q262 dX1_copy_53 (fun H locs S => ?_)
  have S : sS D A s cI cR o z u [(q, .inr (1, [.int (u.1 0 k), .int (u.1 1 k), .int (u.1 2 k), .int (u.1 3 k), .int (u.1 4 k), .int (u.1 5 k), .int 0]))] H locs := S
  refine lv_aload_n hx hb dX1_copy_56 rfl (lv_at hl 0 rfl) ?_
  refine lv_aload_n hx hb dX1_copy_57 rfl (lv_at hl 1 rfl) ?_
  refine r_gf C S 6 k (by decide) hk (v := .int (u.1 6 k)) rfl rfl q263 dX1_copy_58 ?_
  refine x_p1 C S 0 6 (by decide) (fs := [.int (u.1 0 k), .int (u.1 1 k), .int (u.1 2 k), .int (u.1 3 k), .int (u.1 4 k), .int (u.1 5 k), .int 0]) rfl rfl rfl (by decide +kernel) (Nat.le_of_ble_eq_true rfl) q263 dX1_copy_61 (fun H locs S => ?_)
  have S : sS D A s cI cR o z u [(q, .inr (1, [.int (u.1 0 k), .int (u.1 1 k), .int (u.1 2 k), .int (u.1 3 k), .int (u.1 4 k), .int (u.1 5 k), .int (u.1 6 k)]))] H locs := S
  refine lv_aload_n hx hb dX1_copy_64 rfl (lv_at hl 0 rfl) ?_
  exact g_areto C hrt S.1 S.2.1 S.2.2 dX1_copy_65 rfl
set_option maxHeartbeats 4000000 in
set_option maxRecDepth 100000 in
theorem lpX2_copy {p : Program} {l : Launch} {e : Env} {s : State} {m : MethodId} {args : Array Value} {below : List Frame} {meth : Method} {c : Code} {Q : State → Prop} {D : va_G} {t : Nat → Nat} {A : Nat → Prop} {cI cR cB : ClassId} {o : Nat} {z : SA} {u : S0} {o2 r2 c2 a2 : Nat} (C : gC p s m args meth c cX2_copy 3 RX2 D (ty3 cI cR cB) t A) (hu8 : u.2.1 ≤ 8) (kk : ∀ (pa : Nat → Nat) (H : Heap) (locs : List Loc) (ls : Array Slot), sS D A s cI cR o z u ((o2, .inr (2, [.int u.2.2, .ref r2, .ref c2, .ref a2, .null])) :: (r2, .inl (cI, 5, .inl (u.1 7))) :: (c2, .inl (cI, 3, .inl (u.1 8))) :: (a2, .inl (cR, u.2.1, .inr (.inr (.inr (.inr (fun k => if k < u.2.1 then some (pa k) else none)))))) :: fam u.2.1 (fun k => (pa k, .inr (1, rq_f u k)))) H locs → lv_has ls 3 [(0, .ref o), (1, .ref o2), (2, .int (nI u.2.1))] → W p l e (rm_ 4 16 107 91) s m args below meth c H locs (8 + u.2.1) (51 + 7 * u.2.1) Q (F0 m 88 ls [])) :
    ∀ (n i : Nat), i + n = u.2.1 → ∀ (pa : Nat → Nat) (H : Heap) (locs : List Loc) (ls : Array Slot), sS D A s cI cR o z u ((o2, .inr (2, [.int u.2.2, .ref r2, .ref c2, .ref a2, .null])) :: (r2, .inl (cI, 5, .inl (u.1 7))) :: (c2, .inl (cI, 3, .inl (u.1 8))) :: (a2, .inl (cR, u.2.1, .inr (.inr (.inr (.inr (fun k => if k < i then some (pa k) else none)))))) :: fam i (fun k => (pa k, .inr (1, rq_f u k)))) H locs → lv_has ls 3 [(0, .ref o), (1, .ref o2), (2, .int (nI i))] → W p l e (rm_ 4 16 107 91) s m args below meth c H locs (8 + i) (51 + 7 * i) Q (F0 m 58 ls []) := by
  have hx := C.1
  have hb := C.2.1
  have hown := C.2.2.2.1
  have hts := C.2.2.2.2.1
  intro n
  induction n with
  | zero =>
    intro i hi pa H locs ls S hl
    have hiN : i = u.2.1 := by omega
    refine lv_iload_n hx hb dX2_copy_58 rfl (lv_at hl 2 rfl) ?_
    refine lv_aload_n hx hb dX2_copy_59 rfl (lv_at hl 0 rfl) ?_
    refine s_gf C S 3 (by decide) (v := .ref (z.1 2)) rfl rfl q36 dX2_copy_60 ?_
    refine s_an C S dX2_copy_63 ?_
    refine lv_icmp_ge (tgt := 88) hx hb dX2_copy_64 (by decide) (fun c1 => ?_) (fun c1 => absurd ((nI_leI (a := u.2.1) (b := i) (by omega) (by omega)).mpr (by omega)) c1)
    rw [hiN] at S hl ⊢
    exact kk pa _ _ _ S (lv_sub hl [0, 1, 2] rfl)
  | succ n ih =>
    intro i hi pa H locs ls S hl
    have hin : i < u.2.1 := by omega
    refine lv_iload_n hx hb dX2_copy_58 rfl (lv_at hl 2 rfl) ?_
    refine lv_aload_n hx hb dX2_copy_59 rfl (lv_at hl 0 rfl) ?_
    refine s_gf C S 3 (by decide) (v := .ref (z.1 2)) rfl rfl q36 dX2_copy_60 ?_
    refine s_an C S dX2_copy_63 ?_
    refine lv_icmp_ge (tgt := 88) hx hb dX2_copy_64 (by decide) (fun c1 => absurd c1 (fun h9 => absurd ((nI_leI (a := u.2.1) (b := i) (by omega) (by omega)).mp h9) (by omega))) (fun c1 => ?_)
    refine lv_aload_n hx hb dX2_copy_67 rfl (lv_at hl 1 rfl) ?_
    refine x_g2 C S 0 3 (by decide) (fs := [.int u.2.2, .ref r2, .ref c2, .ref a2, .null]) rfl (v := .ref a2) rfl rfl q36 dX2_copy_68 ?_
    refine lv_iload_n hx hb dX2_copy_71 rfl (lv_at hl 2 rfl) ?_
    refine lv_aload_n hx hb dX2_copy_72 rfl (lv_at hl 0 rfl) ?_
    refine s_gf C S 3 (by decide) (v := .ref (z.1 2)) rfl rfl q36 dX2_copy_73 ?_
    refine lv_iload_n hx hb dX2_copy_76 rfl (lv_at hl 2 rfl) ?_
    refine s_al C S hu8 hin rfl dX2_copy_77 ?_
    refine m_cr (wa := []) (wb := rs_w cI cR o z u) (wd := (o2, .inr (2, [.int u.2.2, .ref r2, .ref c2, .ref a2, .null])) :: (r2, .inl (cI, 5, .inl (u.1 7))) :: (c2, .inl (cI, 3, .inl (u.1 8))) :: (a2, .inl (cR, u.2.1, .inr (.inr (.inr (.inr (fun k => if k < i then some (pa k) else none)))))) :: fam i (fun k => (pa k, .inr (1, rq_f u k)))) (cells' := 8 + i + 1) (slots' := 51 + 7 * i + 7) rfl rfl C S.1 S.2.1 S.2.2 (fun hPb hDb => g_runVj (n := 0) (As := []) C (mX1_copy l D t cI cR cB o z H.size u i hin) (rw_V q256 q257 q258 q51 q259) kd_X1_copy ⟨Nat.le_of_ble_eq_true rfl, Nat.le_of_ble_eq_true rfl⟩ (ci := 1) rfl rfl (4 + i) (rs_rp hin) C.2.2.2.2.2.1 hPb hDb S.2.2 hl.1 rfl rfl (Nat.le_of_ble_eq_true rfl) dX2_copy_78 ⟨(show 8 + i + 1 ≤ 16 by omega), (show 51 + 7 * i + 7 ≤ 107 by omega)⟩) (fun q w' H locs hv _ hP9 hD9 hS9 => ?_)
    have hv : w' = rs_w cI cR o z u ++ [(q, .inr (1, rq_f u i))] := hv
    subst hv
    rw [List.append_assoc] at hP9 hD9
    have S : sS D A s cI cR o z u ([(q, .inr (1, rq_f u i))] ++ ((o2, .inr (2, [.int u.2.2, .ref r2, .ref c2, .ref a2, .null])) :: (r2, .inl (cI, 5, .inl (u.1 7))) :: (c2, .inl (cI, 3, .inl (u.1 8))) :: (a2, .inl (cR, u.2.1, .inr (.inr (.inr (.inr (fun k => if k < i then some (pa k) else none)))))) :: fam i (fun k => (pa k, .inr (1, rq_f u k))))) H locs := ⟨hP9, hD9, hS9⟩
    have S := S.swap
    refine x_ast C S 3 ((rs_w cI cR o z u).length + (4 + i)) (n := u.2.1) (i := i) (f := fun k => if k < i then some (pa k) else none) (v := q) (vs := rq_f u i) rfl (rs_xp (cp_pl _)) (by omega) hin rfl dX2_copy_81 (fun H locs S => ?_)
    have S := cp_norm S
    refine lv_iinc (v := nI (i + 1)) (lv' := [(2, .int (nI (i + 1))), (0, .ref o), (1, .ref o2)]) hx hb dX2_copy_82 hl (k := 2) rfl (nI_1 _) (by decide) rfl (fun ls hl => ?_)
    refine lv_goto (tgt := 58) hx hb dX2_copy_85 (by decide) ?_
    refine W.widen (k := 8 + (i + 1)) (n := 51 + 7 * (i + 1)) (by omega) (by omega) ?_
    exact ih (i + 1) (by omega) _ _ _ _ S (lv_sub hl [1, 2, 0] rfl)
set_option maxHeartbeats 4000000 in
set_option maxRecDepth 100000 in
theorem mX2_copy (l : Launch) (D : va_G) (t : Nat → Nat) (cI cR cB : ClassId) (o : Nat) (z : SA) (sz : Nat) (u : S0) (hu8 : u.2.1 ≤ 8) : gMr l yX2_copy (rw_ yX2_copy cX2_copy 3 (some (.object "ReaperWagesLaw$Sim"))) (rm_ 4 16 107 91) [.ref o] D (ty3 cI cR cB) t (rs_w cI cR o z u) sz (fun x => ∃ z2 : SA, z2.2.2 = none ∧ x.2 = rs_w cI cR o z u ++ rs_w cI cR x.1 z2 u) := by
  refine g_of (cc := cX2_copy) (nL := 3) (rt := (some (.object "ReaperWagesLaw$Sim"))) (Q := fun A => va_Qr (S := Nat × va_W) _ (fun u a U => u.1 = a ∧ gQ D A u.2 U) A) (by decide) (Nat.le_of_ble_eq_true rfl) (fun p e s m args below meth c A ls H C hrt hnm hS hP hD hl => ?_)
  have hx := C.1
  have hb := C.2.1
  have hown := C.2.2.2.1
  have hts := C.2.2.2.2.1
  have hl : lv_has ls 3 [(0, .ref o)] := hl
  have S : sS D A s cI cR o z u [] H [] := ⟨by rw [List.append_nil]; exact hP, by rw [List.append_nil]; exact hD, hS⟩
  obtain ⟨locs, elocs⟩ : ∃ z : List Loc, z = [] := ⟨_, rfl⟩
  rw [← elocs] at S ⊢
  refine x_new2 C S q248 q28 q29 (cells' := 1) (slots' := 5) rfl rfl (Nat.le_of_ble_eq_true rfl) (Nat.le_of_ble_eq_true rfl) dX2_copy_0 (fun o2 H S => ?_)
  refine lv_dup hx hb dX2_copy_3 rfl ?_
  refine m_cv (wa := rs_w cI cR o z u) (wb := [(o2, .inr (2, [.int 0, .null, .null, .null, .null]))]) (wd := []) (cells' := 4) (slots' := 13) rfl rfl C S.1 S.2.1 S.2.2 (fun hPb hDb => g_runI (n := 0) (As := []) C (mX2_init l D t cI cR cB o2 H.size) q31 q29 q255 q30 rfl kd_X2_init ⟨Nat.le_of_ble_eq_true rfl, Nat.le_of_ble_eq_true rfl⟩ C.2.2.2.2.2.1 hPb hDb S.2.2 hl.1 rfl rfl (Nat.le_of_ble_eq_true rfl) dX2_copy_4 ⟨Nat.le_of_ble_eq_true rfl, Nat.le_of_ble_eq_true rfl⟩) (fun w' H locs hv _ hP9 hD9 hS9 => ?_)
  obtain ⟨z0, hz0, rfl⟩ := hv
  have S : sS D A s cI cR o z u [(o2, .inr (2, [.int 0, .ref (z0.1 0), .ref (z0.1 1), .ref (z0.1 2), va_rf z0.2.2]))] H locs := by
    have S9 : sS D A s cI cR o z u ([(o2, .inr (2, [.int 0, .ref (z0.1 0), .ref (z0.1 1), .ref (z0.1 2), va_rf z0.2.2]))] ++ [(z0.1 0, .inl (cI, 5, .inl (ra_u0.1 7))), (z0.1 1, .inl (cI, 3, .inl (ra_u0.1 8))), (z0.1 2, rs_al cR 0 z0)]) H locs := ⟨hP9, hD9, hS9⟩
    exact S9.drop
  rw [hz0] at S
  have S : sS D A s cI cR o z u ([(o2, .inr (2, [.int 0, .ref (z0.1 0), .ref (z0.1 1), .ref (z0.1 2), .null]))] : va_W) H locs := S
  refine lv_astore_n (lv' := [(1, .ref o2), (0, .ref o)]) hx hb dX2_copy_7 rfl hl (by decide) rfl (fun ls hl => ?_)
  refine lv_aload_n hx hb dX2_copy_8 rfl (lv_at hl 0 rfl) ?_
  refine lv_aload_n hx hb dX2_copy_9 rfl (lv_at hl 1 rfl) ?_
  refine s_gf C S 0 (by decide) (v := .int u.2.2) rfl rfl q167 dX2_copy_10 ?_
  refine x_p2 C S 0 0 (by decide) (fs := [.int 0, .ref (z0.1 0), .ref (z0.1 1), .ref (z0.1 2), .null]) rfl (v := .int u.2.2) (ty := .int) rfl rfl (by decide +kernel) rfl rfl (Nat.le_of_ble_eq_true rfl) q167 dX2_copy_13 (fun H locs S => ?_)
  have S : sS D A s cI cR o z u ([(o2, .inr (2, [.int u.2.2, .ref (z0.1 0), .ref (z0.1 1), .ref (z0.1 2), .null]))] : va_W) H locs := S
  refine lv_aload_n hx hb dX2_copy_16 rfl (lv_at hl 0 rfl) ?_
  refine lv_aload_n hx hb dX2_copy_17 rfl (lv_at hl 1 rfl) ?_
  refine s_gf C S 1 (by decide) (v := .ref (z.1 0)) rfl rfl q33 dX2_copy_18 ?_
  refine x_cln C S 1 (n := 5) (f := u.1 7) rfl hl.1 q249 q250 q251 q252 q253 (C.2.2.2.2.2.2.2.1.2.2.2.2.2.2.1) (Nat.le_of_ble_eq_true rfl) (Nat.le_of_ble_eq_true rfl) (cells' := 5) (slots' := 18) rfl rfl (Nat.le_of_ble_eq_true rfl) (Nat.le_of_ble_eq_true rfl) dX2_copy_21 (fun r2 H S => ?_)
  have S : sS D A s cI cR o z u ([(o2, .inr (2, [.int u.2.2, .ref (z0.1 0), .ref (z0.1 1), .ref (z0.1 2), .null])), (r2, .inl (cI, 5, .inl (u.1 7)))] : va_W) H locs := S
  refine x_cst C S 1 rfl q254 dX2_copy_24 ?_
  refine x_p2 C S 0 1 (by decide) (fs := [.int u.2.2, .ref (z0.1 0), .ref (z0.1 1), .ref (z0.1 2), .null]) rfl (v := .ref r2) (ty := .array .int) rfl rfl (by decide +kernel) rfl rfl (Nat.le_of_ble_eq_true rfl) q33 dX2_copy_27 (fun H locs S => ?_)
  have S : sS D A s cI cR o z u ([(o2, .inr (2, [.int u.2.2, .ref r2, .ref (z0.1 1), .ref (z0.1 2), .null])), (r2, .inl (cI, 5, .inl (u.1 7)))] : va_W) H locs := S
  refine lv_aload_n hx hb dX2_copy_30 rfl (lv_at hl 0 rfl) ?_
  refine lv_aload_n hx hb dX2_copy_31 rfl (lv_at hl 1 rfl) ?_
  refine s_gf C S 2 (by decide) (v := .ref (z.1 1)) rfl rfl q34 dX2_copy_32 ?_
  refine x_cln C S 2 (n := 3) (f := u.1 8) rfl hl.1 q249 q250 q251 q252 q253 (C.2.2.2.2.2.2.2.1.2.2.2.2.2.2.1) (Nat.le_of_ble_eq_true rfl) (Nat.le_of_ble_eq_true rfl) (cells' := 6) (slots' := 21) rfl rfl (Nat.le_of_ble_eq_true rfl) (Nat.le_of_ble_eq_true rfl) dX2_copy_35 (fun c2 H S => ?_)
  have S : sS D A s cI cR o z u ([(o2, .inr (2, [.int u.2.2, .ref r2, .ref (z0.1 1), .ref (z0.1 2), .null])), (r2, .inl (cI, 5, .inl (u.1 7))), (c2, .inl (cI, 3, .inl (u.1 8)))] : va_W) H locs := S
  refine x_cst C S 2 rfl q254 dX2_copy_38 ?_
  refine x_p2 C S 0 2 (by decide) (fs := [.int u.2.2, .ref r2, .ref (z0.1 1), .ref (z0.1 2), .null]) rfl (v := .ref c2) (ty := .array .int) rfl rfl (by decide +kernel) rfl rfl (Nat.le_of_ble_eq_true rfl) q34 dX2_copy_41 (fun H locs S => ?_)
  have S : sS D A s cI cR o z u ([(o2, .inr (2, [.int u.2.2, .ref r2, .ref c2, .ref (z0.1 2), .null])), (r2, .inl (cI, 5, .inl (u.1 7))), (c2, .inl (cI, 3, .inl (u.1 8)))] : va_W) H locs := S
  refine lv_aload_n hx hb dX2_copy_44 rfl (lv_at hl 0 rfl) ?_
  refine lv_aload_n hx hb dX2_copy_45 rfl (lv_at hl 1 rfl) ?_
  refine s_gf C S 3 (by decide) (v := .ref (z.1 2)) rfl rfl q36 dX2_copy_46 ?_
  refine s_an C S dX2_copy_49 ?_
  refine x_anw C S (N := u.2.1) rfl (by omega) q35 (C.2.2.2.2.2.2.2.1.2.2.2.2.2.2.2.2.2.1) (cells' := 7) (slots' := 21 + u.2.1) rfl rfl (Nat.le_of_ble_eq_true rfl) (show 21 + u.2.1 ≤ 107 by omega) dX2_copy_50 (fun a2 H S => ?_)
  have S : sS D A s cI cR o z u ([(o2, .inr (2, [.int u.2.2, .ref r2, .ref c2, .ref (z0.1 2), .null])), (r2, .inl (cI, 5, .inl (u.1 7))), (c2, .inl (cI, 3, .inl (u.1 8))), (a2, .inl (cR, u.2.1, .inr (.inr (.inr (.inr (fun _ => none))))))] : va_W) H locs := S
  refine x_p2 C S 0 3 (by decide) (fs := [.int u.2.2, .ref r2, .ref c2, .ref (z0.1 2), .null]) rfl (v := .ref a2) (ty := .array (.object RX1)) rfl rfl (by decide +kernel) rfl rfl (Nat.le_of_ble_eq_true rfl) q36 dX2_copy_53 (fun H locs S => ?_)
  have S : sS D A s cI cR o z u ([(o2, .inr (2, [.int u.2.2, .ref r2, .ref c2, .ref a2, .null])), (r2, .inl (cI, 5, .inl (u.1 7))), (c2, .inl (cI, 3, .inl (u.1 8))), (a2, .inl (cR, u.2.1, .inr (.inr (.inr (.inr (fun _ => none))))))] : va_W) H locs := S
  have S : sS D A s cI cR o z u ((o2, .inr (2, [.int u.2.2, .ref r2, .ref c2, .ref a2, .null])) :: (r2, .inl (cI, 5, .inl (u.1 7))) :: (c2, .inl (cI, 3, .inl (u.1 8))) :: (a2, .inl (cR, u.2.1, .inr (.inr (.inr (.inr (fun k => if k < 0 then some ((fun _ => 0) k) else none)))))) :: fam 0 (fun k => ((fun _ => 0) k, .inr (1, rq_f u k)))) H locs := by
    have e : (fun k : Nat => if k < 0 then some ((fun _ => 0 : Nat → Nat) k) else none) = fun _ => (none : Option Nat) := funext fun k => if_neg (Nat.not_lt_zero k)
    rw [e]; exact S
  refine lv_iconst (v := 0) hx hb dX2_copy_56 (by decide) ?_
  refine lv_istore_n (lv' := [(2, .int (nI 0)), (1, .ref o2), (0, .ref o)]) hx hb dX2_copy_57 rfl hl (by decide) rfl (fun ls hl => ?_)
  refine W.widen (k := 8 + 0) (n := 51 + 7 * 0) (by omega) (by omega) ?_
  refine lpX2_copy C hu8 (fun pa H locs ls S hl => ?_) u.2.1 0 (by omega) _ _ _ _ S (lv_sub hl [2, 1, 0] rfl)
  refine W.widen (k := 16) (n := 107) (by omega) (by omega) ?_
  refine lv_aload_n hx hb dX2_copy_88 rfl (lv_at hl 1 rfl) ?_
  have S := cp_end S
  exact g_areto C hrt S.1 S.2.1 S.2.2 dX2_copy_89 ⟨_, rfl, rfl⟩
end
section
/-! lists of cells: fewer, in another order -/
theorem rd_nd {A : Nat → Prop} {ws : va_W} (h : va_D A ws) : (ws.map Prod.fst).Nodup := by
  rw [List.nodup_iff_pairwise_ne, List.pairwise_iff_getElem]
  intro i j hi hj hij
  rw [List.getElem_map, List.getElem_map]
  intro e
  rw [List.length_map] at hi hj
  have := h.1 i j _ _ (List.getElem?_eq_getElem hi) (List.getElem?_eq_getElem hj) e
  omega
theorem rd_of {A : Nat → Prop} {ws : va_W} (h : (ws.map Prod.fst).Nodup) (hA : ∀ q ∈ ws, A q.1) : va_D A ws := by
  rw [List.nodup_iff_pairwise_ne, List.pairwise_iff_getElem] at h
  refine ⟨fun i j p q hp hq e => ?_, fun k q hk => hA q (List.mem_of_getElem? hk)⟩
  obtain ⟨hi, ep⟩ := List.getElem?_eq_some_iff.mp hp
  obtain ⟨hj, eq⟩ := List.getElem?_eq_some_iff.mp hq
  rcases Nat.lt_trichotomy i j with hij | hij | hij
  · exact absurd (by rw [List.getElem_map, List.getElem_map, ep, eq]; exact e) (h i j (by rw [List.length_map]; exact hi) (by rw [List.length_map]; exact hj) hij)
  · exact hij
  · exact absurd (by rw [List.getElem_map, List.getElem_map, ep, eq]; exact e.symm) (h j i (by rw [List.length_map]; exact hj) (by rw [List.length_map]; exact hi) hij)
theorem rd_cnt {A : Nat → Prop} {ws ws' : va_W} (h : va_D A ws) (hm : ∀ q ∈ ws', ∃ x ∈ ws, x.1 = q.1) (hc : ∀ a : Nat, (ws'.map Prod.fst).count a ≤ (ws.map Prod.fst).count a) : va_D A ws' := by
  refine rd_of (List.nodup_iff_count.mpr fun a => Nat.le_trans (hc a) (List.nodup_iff_count.mp (rd_nd h) a)) (fun q hq => ?_)
  obtain ⟨x, hx, e⟩ := hm q hq
  obtain ⟨k, hk⟩ := List.getElem?_of_mem hx
  rw [← e]
  exact h.2 k x hk
theorem rp_mem {D : va_G} {cl : List vw_C} {ws ws' : va_W} {H : Heap} (h : va_P D cl ws H) (hm : ∀ q ∈ ws', q ∈ ws) : va_P D cl ws' H := fun k q hk => by
  obtain ⟨j, hj⟩ := List.getElem?_of_mem (hm q (List.mem_of_getElem? hk))
  exact h j q hj
/-! what an act does to the bounds -/
theorem rB.up {T : Nat} {u : S0} (B : rB T u) (hT : T + 1 ≤ 400) : rB (T + 1) u := by
  obtain ⟨h1, h2, h3, h4, h5, h6⟩ := B
  exact ⟨h1, hT, h3, fun c hc => by have := h4 c hc; omega, fun r hr => (h5 r hr).mono (by omega), h6⟩
theorem rB_set {T : Nat} {u : S0} {k r : Nat} {x : Int32} (B : rB T u) (hT : T + 1 ≤ 400) (hk : k < 7) (hr : r < u.2.1) (hR : rR (T + 1) (ra_s u k r x) r) : rB (T + 1) (ra_s u k r x) := by
  obtain ⟨h1, h2, h3, h4, h5, h6⟩ := B.up hT
  refine ⟨h1, h2, h3.of (ra_sN (by omega)), fun c hc => by rw [ra_sN (by omega)]; exact h4 c hc, fun q hq => ?_, fun q j hq h8 hj1 hj7 => ?_⟩
  · by_cases e : q = r
    · subst e
      exact hR
    · exact (h5 q hq).of fun j hj => ra_sO e
  · have hq : u.2.1 ≤ q := hq
    rw [ra_sO (by omega)]
    exact h6 q j hq h8 hj1 hj7
theorem one32 : (1 : Int32).toInt = 1 := rfl
theorem mv_1 {n : Nat} (h : 1 ≤ n) (h2 : n < 2147483648) : ¬ nI n < 1 := by
  rw [tI_lt, tI_nI h2, one32]
  omega
theorem rB_rate {T : Nat} {u : S0} {k : Nat} {x : Int32} (B : rB T u) (hT : T + 1 ≤ 400) (hk : k < 5) (h1 : ¬ x < rt_RX0_LEAST_RATE k) (h2 : x ≤ rt_RX0_MOST_RATE k) : rB (T + 1) (ra_s u 7 k x) := by
  obtain ⟨g1, g2, g3, g4, g5, g6⟩ := B.up hT
  rw [tI_lt] at h1
  rw [tI_le] at h2
  have e : ∀ j : Nat, (ra_s u 7 k x).1 7 j = if j = k then x else u.1 7 j := fun j => by
    by_cases ej : j = k
    · subst ej
      rw [ra_sS, if_pos rfl]
    · rw [ra_sO ej, if_neg ej]
  refine ⟨g1, g2, ?_, fun c hc => by rw [ra_sN (by decide)]; exact g4 c hc, fun r hr => (g5 r hr).of fun j hj => congrFun (ra_sN (show j ≠ 7 by omega)) r, fun r j hr h8 hj1 hj7 => by rw [ra_sN (show j ≠ 7 by omega)]; exact g6 r j hr h8 hj1 hj7⟩
  obtain ⟨v0, v1, v2, v3, v4⟩ := g3
  unfold rV
  rw [e, e, e, e, e]
  rcases (show k = 0 ∨ k = 1 ∨ k = 2 ∨ k = 3 ∨ k = 4 by omega) with rfl | rfl | rfl | rfl | rfl
  · have h1 : ¬ x.toInt < 1 := h1
    have h2 : x.toInt ≤ 40 := h2
    exact ⟨⟨by simp; omega, by simp; omega⟩, v1, v2, v3, v4⟩
  · have h1 : ¬ x.toInt < 1 := h1
    have h2 : x.toInt ≤ 99 := h2
    exact ⟨v0, ⟨by simp; omega, by simp; omega⟩, v2, v3, v4⟩
  · have h1 : ¬ x.toInt < 100 := h1
    have h2 : x.toInt ≤ 900 := h2
    exact ⟨v0, v1, ⟨by simp; omega, by simp; omega⟩, v3, v4⟩
  · have h1 : ¬ x.toInt < 0 := h1
    have h2 : x.toInt ≤ 100 := h2
    exact ⟨v0, v1, v2, ⟨by simp; omega, by simp; omega⟩, v4⟩
  · have h1 : ¬ x.toInt < 1 := h1
    have h2 : x.toInt ≤ 9 := h2
    exact ⟨v0, v1, v2, v3, ⟨by simp; omega, by simp; omega⟩⟩
theorem rB_fill {T : Nat} {u : S0} {k n : Nat} (B : rB T u) (hT : T + 1 ≤ 400) (hk : k < 3) (hn : n ≤ 500) : rB (T + 1) (ra_s u 8 k (u.1 8 k + nI n)) := by
  have b := B.2.2.2.1 k hk
  have hT0 := B.2.1
  obtain ⟨g1, g2, g3, g4, g5, g6⟩ := B.up hT
  have en : (nI n).toInt = n := tI_nI (by omega)
  have ea : (u.1 8 k + nI n).toInt = (u.1 8 k).toInt + n := by rw [tI_add (by rw [en]; omega) (by rw [en]; omega), en]
  refine ⟨g1, g2, g3.of (ra_sN (by decide)), fun c hc => ?_, fun r hr => (g5 r hr).of fun j hj => congrFun (ra_sN (show j ≠ 8 by omega)) r, fun r j hr h8 hj1 hj7 => by rw [ra_sN (show j ≠ 8 by omega)]; exact g6 r j hr h8 hj1 hj7⟩
  by_cases e : c = k
  · subst e
    rw [ra_sS, ea]
    omega
  · rw [ra_sO e]
    exact g4 c hc
theorem rB_bind {T : Nat} {u : S0} {r n : Nat} (B : rB T u) (hT : T + 1 ≤ 400) (hr : r < u.2.1) (h : ¬ 5000 < u.1 1 r) (hn : n ≤ 999) : rB (T + 1) (ra_s u 1 r (u.1 1 r + nI n)) := by
  have b := (B.up hT).2.2.2.2.1 r (Nat.lt_of_lt_of_le hr B.1)
  rw [tI_lt] at h
  have h : ¬ 5000 < (u.1 1 r).toInt := h
  obtain ⟨r0, r1, r2, r3, r4, r5, r6, r7⟩ := b
  have en : (nI n).toInt = n := tI_nI (by omega)
  have ea : (u.1 1 r + nI n).toInt = (u.1 1 r).toInt + n := by rw [tI_add (by rw [en]; omega) (by rw [en]; omega), en]
  refine rB_set B hT (by decide) hr ?_
  unfold rR
  rw [ra_sS, ra_sN (by decide), ra_sN (by decide), ra_sN (by decide), ra_sN (by decide), ra_sN (by decide), ra_sN (by decide), ea]
  exact ⟨r0, by omega, r2, r3, r4, r5, r6, r7⟩
theorem rB_lend {T : Nat} {u : S0} {r n : Nat} (B : rB T u) (hT : T + 1 ≤ 400) (hr : r < u.2.1) (h : ¬ 5000 < u.1 4 r + nI n) (hn : n ≤ 2000) : rB (T + 1) (ra_s u 4 r (u.1 4 r + nI n)) := by
  have b := (B.up hT).2.2.2.2.1 r (Nat.lt_of_lt_of_le hr B.1)
  rw [tI_lt] at h
  obtain ⟨r0, r1, r2, r3, r4, r5, r6, r7⟩ := b
  have en : (nI n).toInt = n := tI_nI (by omega)
  have ea : (u.1 4 r + nI n).toInt = (u.1 4 r).toInt + n := by rw [tI_add (by rw [en]; omega) (by rw [en]; omega), en]
  have h : ¬ 5000 < (u.1 4 r + nI n).toInt := h
  rw [ea] at h
  refine rB_set B hT (by decide) hr ?_
  unfold rR
  rw [ra_sS, ra_sN (by decide), ra_sN (by decide), ra_sN (by decide), ra_sN (by decide), ra_sN (by decide), ra_sN (by decide), ea]
  exact ⟨r0, r1, r2, r3, by omega, r5, r6, r7⟩
theorem rB_hours {T : Nat} {u : S0} {r n : Nat} (B : rB T u) (hT : T + 1 ≤ 400) (hr : r < u.2.1) (h : ¬ 99 < u.1 2 r + nI n) (hn : n ≤ 16) : rB (T + 1) (ra_s u 2 r (u.1 2 r + nI n)) := by
  have b := (B.up hT).2.2.2.2.1 r (Nat.lt_of_lt_of_le hr B.1)
  rw [tI_lt] at h
  obtain ⟨r0, r1, r2, r3, r4, r5, r6, r7⟩ := b
  have en : (nI n).toInt = n := tI_nI (by omega)
  have ea : (u.1 2 r + nI n).toInt = (u.1 2 r).toInt + n := by rw [tI_add (by rw [en]; omega) (by rw [en]; omega), en]
  have h : ¬ 99 < (u.1 2 r + nI n).toInt := h
  rw [ea] at h
  refine rB_set B hT (by decide) hr ?_
  unfold rR
  rw [ra_sS, ra_sN (by decide), ra_sN (by decide), ra_sN (by decide), ra_sN (by decide), ra_sN (by decide), ra_sN (by decide), ea]
  exact ⟨r0, r1, by omega, r3, r4, r5, r6, r7⟩
theorem rB_work {T : Nat} {u : S0} {r n : Nat} (B : rB T u) (hT : T + 1 ≤ 400) (hr : r < u.2.1) (h : ¬ 99 < u.1 2 r + nI n) (hn : n ≤ 16) : rB (T + 1) (ra_s (ra_s u 2 r (u.1 2 r + nI n)) 3 r (u.1 3 r + 1)) := by
  have b := (B.up hT).2.2.2.2.1 r (Nat.lt_of_lt_of_le hr B.1)
  have b0 := B.2.2.2.2.1 r (Nat.lt_of_lt_of_le hr B.1)
  have hT0 := B.2.1
  rw [tI_lt] at h
  obtain ⟨r0, r1, r2, r3, r4, r5, r6, r7⟩ := b
  have r30 := b0.2.2.2.1
  have en : (nI n).toInt = n := tI_nI (by omega)
  have ea : (u.1 2 r + nI n).toInt = (u.1 2 r).toInt + n := by rw [tI_add (by rw [en]; omega) (by rw [en]; omega), en]
  have el : (u.1 3 r + 1).toInt = (u.1 3 r).toInt + 1 := by rw [tI_add (by rw [one32]; omega) (by rw [one32]; omega), one32]
  have h : ¬ 99 < (u.1 2 r + nI n).toInt := h
  rw [ea] at h
  obtain ⟨g1, g2, g3, g4, g5, g6⟩ := B.up hT
  have es : ∀ j q : Nat, q ≠ r → (ra_s (ra_s u 2 r (u.1 2 r + nI n)) 3 r (u.1 3 r + 1)).1 j q = u.1 j q := fun j q hq => by rw [ra_sO hq, ra_sO hq]
  refine ⟨g1, g2, g3.of (by rw [ra_sN (by decide), ra_sN (by decide)]), fun c hc => by rw [ra_sN (by decide), ra_sN (by decide)]; exact g4 c hc, fun q hq => ?_, fun q j hq h8 hj1 hj7 => ?_⟩
  · by_cases e : q = r
    · subst e
      unfold rR
      rw [ra_sN (show (0 : Nat) ≠ 3 by decide), ra_sN (show (0 : Nat) ≠ 2 by decide), ra_sN (show (1 : Nat) ≠ 3 by decide), ra_sN (show (1 : Nat) ≠ 2 by decide), ra_sN (show (2 : Nat) ≠ 3 by decide), ra_sS, ra_sS, ra_sN (show (4 : Nat) ≠ 3 by decide), ra_sN (show (4 : Nat) ≠ 2 by decide), ra_sN (show (5 : Nat) ≠ 3 by decide), ra_sN (show (5 : Nat) ≠ 2 by decide), ra_sN (show (6 : Nat) ≠ 3 by decide), ra_sN (show (6 : Nat) ≠ 2 by decide), ea, el]
      exact ⟨r0, r1, by omega, by omega, r4, r5, r6, r7⟩
    · exact (g5 q hq).of fun j hj => es j q e
  · have hq : u.2.1 ≤ q := hq
    rw [es j q (by omega)]
    exact g6 q j hq h8 hj1 hj7
theorem rB_hire {T : Nat} {u : S0} {n : Nat} (B : rB T u) (hT : T + 1 ≤ 400) (h8 : u.2.1 < 8) (hn : n ≤ 2) : rB (T + 1) ((ra_s u 0 u.2.1 (nI n)).1, u.2.1 + 1, u.2.2) := by
  obtain ⟨g1, g2, g3, g4, g5, g6⟩ := B.up hT
  have en : (nI n).toInt = n := tI_nI (by omega)
  refine ⟨h8, g2, g3.of (show (ra_s u 0 u.2.1 (nI n)).1 7 = u.1 7 from ra_sN (by decide)), fun c hc => ?_, fun q hq => ?_, fun q j hq h8 hj1 hj7 => ?_⟩
  · show 0 ≤ ((ra_s u 0 u.2.1 (nI n)).1 8 c).toInt ∧ _
    rw [ra_sN (by decide)]
    exact g4 c hc
  · by_cases e : q = u.2.1
    · subst e
      show rR (T + 1) (ra_s u 0 u.2.1 (nI n)) u.2.1
      obtain ⟨r0, r1, r2, r3, r4, r5, r6, r7⟩ := g5 u.2.1 hq
      unfold rR
      rw [ra_sS, ra_sN (by decide), ra_sN (by decide), ra_sN (by decide), ra_sN (by decide), ra_sN (by decide), ra_sN (by decide), en]
      exact ⟨by omega, r1, r2, r3, r4, r5, r6, r7⟩
    · exact (g5 q hq).of fun j hj => (ra_sO e : (ra_s u 0 u.2.1 (nI n)).1 j q = u.1 j q)
  · have hq : u.2.1 + 1 ≤ q := hq
    show (ra_s u 0 u.2.1 (nI n)).1 j q = 0
    rw [ra_sN (show j ≠ 0 by omega)]
    exact g6 q j (by omega) h8 hj1 hj7
theorem wk_0 {u : S0} {r n : Nat} : rf_wk u r (nI n) 0 = ra_s u 2 r (u.1 2 r + nI n) := if_pos rfl
theorem wk_1 {u : S0} {r n : Nat} : rf_wk u r (nI n) 1 = ra_s (ra_s u 2 r (u.1 2 r + nI n)) 3 r (u.1 3 r + 1) := by
  unfold rf_wk
  rw [if_neg (by decide), ra_sN (show (3 : Nat) ≠ 2 by decide)]
theorem wk_s {v : S0} {k r : Nat} {x : Int32} (h : x = v.1 k r) : ra_s v k r x = v := ra_ext (fun a b => by
  rw [ra_sv]
  split
  · rename_i e
    rw [e.1, e.2, h]
  · rfl) rfl
theorem i32_0 (a : Int32) : a + 0 = a := by grind
theorem pay_eq {T : Nat} {u : S0} (B : rB T u) : ((rf_py u u.2.1).2.1, (rf_py u u.2.1).2.2.1, (rf_py u u.2.1).2.2.2 + 1) = rf_pay u := by
  unfold rf_pay
  rw [(pyI_py B u.2.1 (Nat.le_refl _)).1]
/-! a new reaper -/
abbrev hr_X (cR : ClassId) (n : Nat) (z : SA) (m9 q : Nat) (x : Int32) : va_W := [(m9, .inl (cR, n + 1, .inr (.inr (.inr (.inr (fun k => if k < n + 1 then some ((fun k => if k = n then q else z.2.1 k) k) else none)))))), (q, .inr (1, [.int x, .int 0, .int 0, .int 0, .int 0, .int 0, .int 0]))]
theorem hr_S {D : va_G} {A : Nat → Prop} {s : State} {cI cR : ClassId} {o ob : Nat} {ad : Nat → Nat} {z : SA} {u : S0} {T m9 q : Nat} {x : Int32} {H : Heap} {locs : List Loc} (B : rB T u) (h8 : u.2.1 < 8)
    (hP : va_P D vwCl ((rs_w cI cR o z u ++ (ra_w cI ob ad u ++ hr_X cR u.2.1 z m9 q x)).set 0 ((o, .inr (2, [.int u.2.2, .ref (z.1 0), .ref (z.1 1), .ref m9, va_rf z.2.2])) : Nat × va_E)) H)
    (hD : va_D A ((rs_w cI cR o z u ++ (ra_w cI ob ad u ++ hr_X cR u.2.1 z m9 q x)).set 0 ((o, .inr (2, [.int u.2.2, .ref (z.1 0), .ref (z.1 1), .ref m9, va_rf z.2.2])) : Nat × va_E))) (hS : va_S A s.heap H locs) :
    sS D A s cI cR o (fun k => if k = 2 then m9 else z.1 k, fun k => if k = u.2.1 then q else z.2.1 k, z.2.2) ((ra_s u 0 u.2.1 x).1, u.2.1 + 1, u.2.2) (ra_w cI ob ad u) H locs := by
  have ef : fam (u.2.1 + 1) (rq_e (fun k => if k = 2 then m9 else z.1 k, fun k => if k = u.2.1 then q else z.2.1 k, z.2.2) ((ra_s u 0 u.2.1 x).1, u.2.1 + 1, u.2.2)) = fam u.2.1 (rq_e z u) ++ [(q, .inr (1, [.int x, .int 0, .int 0, .int 0, .int 0, .int 0, .int 0]))] := by
    rw [fam_succ]
    refine congr (congrArg _ (fam_congr fun k hk => ?_)) ?_
    · show ((if k = u.2.1 then q else z.2.1 k), (.inr (1, rq_f (ra_s u 0 u.2.1 x) k) : va_E)) = (z.2.1 k, .inr (1, rq_f u k))
      rw [if_neg (by omega), rq_fo (by omega)]
    · show [((if u.2.1 = u.2.1 then q else z.2.1 u.2.1), (.inr (1, rq_f (ra_s u 0 u.2.1 x) u.2.1) : va_E))] = _
      have z0 := fun k h1 h7 => B.2.2.2.2.2 u.2.1 k (Nat.le_refl _) h8 h1 h7
      rw [if_pos rfl, rq_fs (by decide)]
      unfold rq_f
      rw [z0 1 (by decide) (by decide), z0 2 (by decide) (by decide), z0 3 (by decide) (by decide), z0 4 (by decide) (by decide), z0 5 (by decide) (by decide), z0 6 (by decide) (by decide)]
      rfl
  have h1 : va_P D vwCl ([(o, .inr (2, [.int u.2.2, .ref (z.1 0), .ref (z.1 1), .ref m9, va_rf z.2.2])), (z.1 0, .inl (cI, 5, .inl (u.1 7))), (z.1 1, .inl (cI, 3, .inl (u.1 8)))] ++ ((m9, .inl (cR, u.2.1 + 1, .inr (.inr (.inr (.inr (fun k => if k < u.2.1 + 1 then some ((fun k => if k = u.2.1 then q else z.2.1 k) k) else none)))))) :: ((fam u.2.1 (rq_e z u) ++ [(q, .inr (1, [.int x, .int 0, .int 0, .int 0, .int 0, .int 0, .int 0]))]) ++ ra_w cI ob ad u))) H := by
    refine rp_mem hP (fun y hy => ?_)
    show y ∈ (o, _) :: (z.1 0, _) :: (z.1 1, _) :: (z.1 2, _) :: (fam u.2.1 (rq_e z u) ++ (ra_w cI ob ad u ++ [(m9, _), (q, _)]))
    simp only [List.mem_append, List.mem_cons, List.not_mem_nil, or_false] at hy ⊢
    rcases hy with (h | h | h) | h | (h | h) | h
    · exact Or.inl h
    · exact Or.inr (Or.inl h)
    · exact Or.inr (Or.inr (Or.inl h))
    · exact Or.inr (Or.inr (Or.inr (Or.inr (Or.inr (Or.inr (Or.inl h))))))
    · exact Or.inr (Or.inr (Or.inr (Or.inr (Or.inl h))))
    · exact Or.inr (Or.inr (Or.inr (Or.inr (Or.inr (Or.inr (Or.inr h))))))
    · exact Or.inr (Or.inr (Or.inr (Or.inr (Or.inr (Or.inl h)))))
  have h2 := va_P.ren (g := fun k => some ((fun k => if k = u.2.1 then q else z.2.1 k) k)) h1 (fun k hk => if_pos hk)
  have ew : rs_w cI cR o (fun k => if k = 2 then m9 else z.1 k, fun k => if k = u.2.1 then q else z.2.1 k, z.2.2) ((ra_s u 0 u.2.1 x).1, u.2.1 + 1, u.2.2) ++ ra_w cI ob ad u = [(o, .inr (2, [.int u.2.2, .ref (z.1 0), .ref (z.1 1), .ref m9, va_rf z.2.2])), (z.1 0, .inl (cI, 5, .inl (u.1 7))), (z.1 1, .inl (cI, 3, .inl (u.1 8)))] ++ ((m9, .inl (cR, u.2.1 + 1, .inr (.inr (.inr (.inr (fun k => some ((fun k => if k = u.2.1 then q else z.2.1 k) k))))))) :: ((fam u.2.1 (rq_e z u) ++ [(q, .inr (1, [.int x, .int 0, .int 0, .int 0, .int 0, .int 0, .int 0]))]) ++ ra_w cI ob ad u)) := by
    unfold rs_w
    rw [ef]
    show rs_h cI cR o _ _ ++ _ ++ _ = _
    unfold rs_h rs_f
    rw [show ((ra_s u 0 u.2.1 x).1, u.2.1 + 1, u.2.2).1 7 = u.1 7 from (ra_sN (show (7 : Nat) ≠ 0 by decide) : (ra_s u 0 u.2.1 x).1 7 = u.1 7), show ((ra_s u 0 u.2.1 x).1, u.2.1 + 1, u.2.2).1 8 = u.1 8 from (ra_sN (show (8 : Nat) ≠ 0 by decide) : (ra_s u 0 u.2.1 x).1 8 = u.1 8)]
    rfl
  refine ⟨by rw [ew]; exact h2, ?_, hS⟩
  rw [ew]
  refine rd_cnt hD (fun y hy => ?_) (fun a => ?_)
  · show ∃ y' ∈ (o, _) :: (z.1 0, _) :: (z.1 1, _) :: (z.1 2, _) :: (fam u.2.1 (rq_e z u) ++ (ra_w cI ob ad u ++ [(m9, _), (q, _)])), _
    simp only [List.mem_append, List.mem_cons, List.not_mem_nil, or_false] at hy ⊢
    rcases hy with (h | h | h) | h | (h | h) | h
    · exact ⟨_, Or.inl rfl, by rw [h]⟩
    · exact ⟨_, Or.inr (Or.inl rfl), by rw [h]⟩
    · exact ⟨_, Or.inr (Or.inr (Or.inl rfl)), by rw [h]⟩
    · exact ⟨_, Or.inr (Or.inr (Or.inr (Or.inr (Or.inr (Or.inr (Or.inl rfl)))))), by rw [h]⟩
    · exact ⟨y, Or.inr (Or.inr (Or.inr (Or.inr (Or.inl h)))), rfl⟩
    · exact ⟨_, Or.inr (Or.inr (Or.inr (Or.inr (Or.inr (Or.inr (Or.inr rfl)))))), by rw [h]⟩
    · exact ⟨y, Or.inr (Or.inr (Or.inr (Or.inr (Or.inr (Or.inl h))))), rfl⟩
  · show _ ≤ List.count a (List.map Prod.fst ((o, _) :: (z.1 0, _) :: (z.1 1, _) :: (z.1 2, _) :: (fam u.2.1 (rq_e z u) ++ (ra_w cI ob ad u ++ [(m9, _), (q, _)]))))
    simp only [List.map_append, List.map_cons, List.map_nil, List.count_append, List.count_cons, List.count_nil]
    omega
end
section
theorem hr_up {i : Nat} {pa : Nat → Nat} {q : Nat} (h : q = pa i) : va_up (fun k => if k < i then some (pa k) else none) i (some q) = fun k => if k < i + 1 then some (pa k) else none := by
  funext k
  unfold va_up
  by_cases e : k = i
  · subst e
    simp [h]
  · by_cases h : k < i
    · simp [e, h, Nat.lt_succ_of_lt h]
    · simp [e, h, show ¬ k < i + 1 by omega]
theorem hr_up2 {n : Nat} {pa : Nat → Nat} {q : Nat} : va_up (fun k => if k < n then some (pa k) else none) n (some q) = fun k => if k < n + 1 then some ((fun k => if k = n then q else pa k) k) else none := by
  funext k
  unfold va_up
  by_cases e : k = n
  · subst e
    simp
  · by_cases h : k < n
    · simp [e, h, Nat.lt_succ_of_lt h]
    · simp [e, h, show ¬ k < n + 1 by omega]
section HROWS
variable {p : Program} {l : Launch} {e : Env} {R : Room} {s : State} {m : MethodId} {args : Array Value} {below : List Frame} {meth : Method} {c : Code} {H : Heap} {locs : List Loc} {cells slots : Nat} {Q : State → Prop}
variable {cc : ByteArray} {nL pc : Nat} {ls : Array Slot} {rest : List Value} {D : va_G} {cI cR cB : ClassId} {t : Nat → Nat} {A : Nat → Prop} {o ob : Nat} {ad : Nat → Nat} {z : SA} {u : S0} {X : va_W} {own : String}
theorem x_aldv (C : gC p s m args meth c cc nL own D (ty3 cI cR cB) t A) (S : sS D A s cI cR o z u X H locs) (j : Nat) {a n i v : Nat} {f : Nat → Option Nat} {i0 : Int32} (hj : X[j]? = some (a, .inl (cR, n, .inr (.inr (.inr (.inr f)))))) (hn : n < 1000) (hi : i < n) (h0 : i0 = nI i) (hv : f i = some v) (hdg : decode cc pc = .ok (.aaload, 1))
    (kk : W p l e R s m args below meth c H locs cells slots Q (F0 m (pc + 1) ls (.ref v :: rest))) : W p l e R s m args below meth c H locs cells slots Q (F0 m pc ls (.int i0 :: .ref a :: rest)) :=
  x_ald C S j hj hn hi h0 hdg (by rw [hv]; exact kk)
theorem s_ph (C : gC p s m args meth c cc nL own D (ty3 cI cR cB) t A) {T m9 q : Nat} {x : Int32} (B : rB T u) (h8 : u.2.1 < 8) (S : sS D A s cI cR o z u (ra_w cI ob ad u ++ hr_X cR u.2.1 z m9 q x) H locs) {idx : Nat} (hq : Cond.fieldLink own idx RX2 "all" "[LReaperWagesLaw$Reaper;" ∈ wsL_law) (hdg : decode cc pc = .ok (.putfield idx, 3))
    (kk : ∀ (H1 : Heap) (locs1 : List Loc), sS D A s cI cR o (fun k => if k = 2 then m9 else z.1 k, fun k => if k = u.2.1 then q else z.2.1 k, z.2.2) ((ra_s u 0 u.2.1 x).1, u.2.1 + 1, u.2.2) (ra_w cI ob ad u) H1 locs1 → W p l e R s m args below meth c H1 locs1 cells slots Q (F0 m (pc + 3) ls rest)) : W p l e R s m args below meth c H locs cells slots Q (F0 m pc ls (.ref m9 :: .ref o :: rest)) :=
  va_put (D := D) (ci := 2) (v := .ref m9) (ty := .array (.object RX1)) (C := RX2) (T := TX2) (N := 5) C.1 C.2.1 C.2.2.2.2.1 inlX2 tyX2 tyX2_ok nmX2 C.2.2.2.1 C.2.2.2.2.2.1 S.1 S.2.1 S.2.2 0 rfl rfl 3 (by decide) (C.2.2.2.2.1 _ hq) (fun x h => h) rfl (by decide +kernel) rfl rfl (Nat.le_of_ble_eq_true rfl) hdg (fun H1 locs1 hP1 hD1 hS1 => kk H1 locs1 (hr_S B h8 hP1 hD1 hS1))
end HROWS
theorem hr_8 {n : Nat} (h : n ≤ 8) (hn : ¬ nI n = 8) : n < 8 := by
  rcases Nat.lt_or_ge n 8 with h2 | h2
  · exact h2
  · have : n = 8 := by omega
    subst this
    exact absurd rfl hn
theorem kd_L_act : yL_act.cls ≠ "java/lang/invoke/MethodHandle" ∧ yL_act.cls ≠ "java/lang/invoke/VarHandle" ∧ (parseMethodDescriptor yL_act.desc).map (fun d => d.parameters.length) = some 3 := by decide +kernel
set_option maxHeartbeats 4000000 in
set_option maxRecDepth 100000 in
theorem act_rate {p : Program} {l : Launch} {e : Env} {s : State} {m : MethodId} {args : Array Value} {below : List Frame} {meth : Method} {c : Code} {D : va_G} {t : Nat → Nat} {A : Nat → Prop} {H : Heap} {locs : List Loc} {ls : Array Slot} {cI cR cB : ClassId} {o ob T : Nat} {ad : Nat → Nat} {x : Int32} {z : SA} {u : S0}  (C : gC p s m args meth c cL_act 15 RL D (ty3 cI cR cB) t A) (hrt : meth.sig.returnType = some .boolean) (B : rB T u) (hT1 : T + 1 ≤ 400)  (S : sS D A s cI cR o z u (ra_w cI ob ad u) H locs) (hl : lv_has ls 15 [(0, .ref ob), (1, .ref o), (2, .int x), (3, .int (nI u.2.1))]) : W p l e (rm_ 7 20 70 156) s m args below meth c H locs 0 0 (MQ below (va_Qi (fun r w' => r = 1 ∧ ∃ (z' : SA) (u' : S0), rB (T + 1) u' ∧ w' = rs_w cI cR o z' u' ++ ra_w cI ob ad u') (fun w' U => gQ D A w' U) A) args s 20 70 A) (F0 m 203 ls []) := by
  have hx := C.1
  have hb := C.2.1
  have hown := C.2.2.2.1
  have hts := C.2.2.2.2.1
  have hu8 : u.2.1 ≤ 8 := B.1
  refine lv_iload_n hx hb dL_act_203 rfl (lv_at hl 2 rfl) ?_
  refine lv_iconst (v := 1) hx hb dL_act_204 (by decide) ?_
  refine lv_ishr hx hb dL_act_205 ?_
  refine lv_iconst (v := 5) hx hb dL_act_206 (by decide) ?_
  refine m_ci (wa := []) (wb := []) (wd := rs_w cI cR o z u ++ (ra_w cI ob ad u)) (cells' := 0) (slots' := 0) rfl rfl C S.1 S.2.1 S.2.2 (fun hPb hDb => g_runS (wr := (rs_w cI cR o z u ++ (ra_w cI ob ad u)) ++ []) (n := 2) (As := [.int (x >>> (1 &&& 31)), .int 5]) C (mL_below l D t cI cR cB H.size (x >>> (1 &&& 31)) 5 (by decide) (by decide)) (rw_S q41 q42 q25 q43) kd_L_below ⟨Nat.le_of_ble_eq_true rfl, Nat.le_of_ble_eq_true rfl⟩ C.2.2.2.2.2.1 hPb hDb S.2.2 hl.1 rfl rfl (Nat.le_of_ble_eq_true rfl) dL_act_207 ⟨Nat.le_of_ble_eq_true rfl, Nat.le_of_ble_eq_true rfl⟩) (fun v w' H locs hv _ hP9 hD9 hS9 => ?_)
  obtain ⟨⟨j1, hj1, rfl⟩, rfl⟩ := hv
  have S : sS D A s cI cR o z u (ra_w cI ob ad u) H locs := ⟨hP9, hD9, hS9⟩
  refine lv_istore (lv' := [(7, .int (nI j1)), (0, .ref ob), (1, .ref o), (2, .int x), (3, .int (nI u.2.1))]) hx hb dL_act_210 hl (by decide) rfl (fun ls hl => ?_)
  refine lv_aload_n hx hb dL_act_212 rfl (lv_at hl 2 rfl) ?_
  refine s_gf C S 1 (by decide) (v := .ref (z.1 0)) rfl rfl q53 dL_act_213 ?_
  refine lv_iload hx hb dL_act_216 (lv_at hl 0 rfl) ?_
  refine s_l7 C S (i := j1) hj1 rfl dL_act_218 ?_
  refine lv_istore (lv' := [(8, .int (u.1 7 j1)), (7, .int (nI j1)), (0, .ref ob), (1, .ref o), (2, .int x), (3, .int (nI u.2.1))]) hx hb dL_act_219 hl (by decide) rfl (fun ls hl => ?_)
  refine lv_aload_n hx hb dL_act_221 rfl (lv_at hl 3 rfl) ?_
  refine s_gf C S 1 (by decide) (v := .ref (z.1 0)) rfl rfl q53 dL_act_222 ?_
  refine lv_iload hx hb dL_act_225 (lv_at hl 1 rfl) ?_
  refine lv_iload hx hb dL_act_227 (lv_at hl 1 rfl) ?_
  refine lv_iload_n hx hb dL_act_229 rfl (lv_at hl 4 rfl) ?_
  refine lv_iconst (v := 3) hx hb dL_act_230 (by decide) ?_
  refine lv_ishr hx hb dL_act_231 ?_
  refine m_ci (wa := []) (wb := []) (wd := rs_w cI cR o z u ++ (ra_w cI ob ad u)) (cells' := 2) (slots' := 10) rfl rfl C S.1 S.2.1 S.2.2 (fun hPb hDb => g_runS (wr := (rs_w cI cR o z u ++ (ra_w cI ob ad u)) ++ []) (n := 2) (As := [.int (nI j1), .int (x >>> (3 &&& 31))]) C (mL_rate l D t cI cR cB H.size j1 hj1 (x >>> (3 &&& 31))) (rw_S q77 q78 q25 q79) kd_L_rate ⟨Nat.le_of_ble_eq_true rfl, Nat.le_of_ble_eq_true rfl⟩ C.2.2.2.2.2.1 hPb hDb S.2.2 hl.1 rfl rfl (Nat.le_of_ble_eq_true rfl) dL_act_232 ⟨Nat.le_of_ble_eq_true rfl, Nat.le_of_ble_eq_true rfl⟩) (fun v w' H locs hv _ hP9 hD9 hS9 => ?_)
  obtain ⟨h1v, h2v, rfl⟩ := hv
  have S : sS D A s cI cR o z u (ra_w cI ob ad u) H locs := ⟨hP9, hD9, hS9⟩
  refine s_t7 C S (i := j1) hj1 rfl dL_act_235 (fun H locs S => ?_)
  refine lv_aload_n hx hb dL_act_236 rfl (lv_at hl 2 rfl) ?_
  refine lv_iload hx hb dL_act_237 (lv_at hl 1 rfl) ?_
  refine lv_aload_n hx hb dL_act_239 rfl (lv_at hl 3 rfl) ?_
  refine s_gf C S 1 (by decide) (v := .ref (z.1 0)) rfl rfl q53 dL_act_240 ?_
  refine lv_iload hx hb dL_act_243 (lv_at hl 1 rfl) ?_
  refine s_l7 C S (i := j1) hj1 rfl dL_act_245 ?_
  refine g_top (y := v) ra_sS ?_
  refine m_ci (wa := rs_w cI cR o z (ra_s u 7 j1 v)) (wb := ra_w cI ob ad u) (wd := []) (cells' := 2) (slots' := 10) rfl rfl C S.1 S.2.1 S.2.2 (fun hPb hDb => g_runV (wr := ([]) ++ rs_w cI cR o z (ra_s u 7 j1 v)) (n := 2) (As := [.int (nI j1), .int v]) C (mX0_setRate l D t cI ob ad H.size u j1 hj1 v h1v h2v) (rw_V q80 q81 q82 q2 q83) kd_X0_setRate ⟨Nat.le_of_ble_eq_true rfl, Nat.le_of_ble_eq_true rfl⟩ (ci := 0) rfl rfl rfl (C.2.2.2.2.2.1.sub (tys' := [(cI, .int)]) [0] rfl) hPb hDb S.2.2 hl.1 rfl rfl (Nat.le_of_ble_eq_true rfl) dL_act_246 ⟨Nat.le_of_ble_eq_true rfl, Nat.le_of_ble_eq_true rfl⟩) (fun v w' H locs hv _ hP9 hD9 hS9 => ?_)
  obtain ⟨rfl, rfl⟩ := hv
  have S : sS D A s cI cR o z (ra_s u 7 j1 v) (ra_w cI ob ad (ra_s u 7 j1 v)) H locs := ⟨hP9, hD9, hS9⟩
  refine lv_iload hx hb dL_act_249 (lv_at hl 0 rfl) ?_
  refine lv_icmp_ne (tgt := 258) hx hb dL_act_251 (by decide) (fun c2 => absurd rfl c2) (fun c2 => ?_)
  refine lv_iconst (v := 1) hx hb dL_act_254 (by decide) ?_
  refine lv_goto (tgt := 259) hx hb dL_act_255 (by decide) ?_
  refine W.widen (k := 20) (n := 70) (Nat.le_of_ble_eq_true rfl) (Nat.le_of_ble_eq_true rfl) ?_
  exact g_zret C hrt rfl S.1 S.2.1 S.2.2 dL_act_259 ⟨rfl, z, ra_s u 7 j1 v, rB_rate B hT1 hj1 h1v h2v, rfl⟩
set_option maxHeartbeats 4000000 in
set_option maxRecDepth 100000 in
theorem act_fill {p : Program} {l : Launch} {e : Env} {s : State} {m : MethodId} {args : Array Value} {below : List Frame} {meth : Method} {c : Code} {D : va_G} {t : Nat → Nat} {A : Nat → Prop} {H : Heap} {locs : List Loc} {ls : Array Slot} {cI cR cB : ClassId} {o ob T : Nat} {ad : Nat → Nat} {x : Int32} {z : SA} {u : S0}  (C : gC p s m args meth c cL_act 15 RL D (ty3 cI cR cB) t A) (hrt : meth.sig.returnType = some .boolean) (B : rB T u) (hT1 : T + 1 ≤ 400)  (S : sS D A s cI cR o z u (ra_w cI ob ad u) H locs) (hl : lv_has ls 15 [(0, .ref ob), (1, .ref o), (2, .int x), (3, .int (nI u.2.1))]) : W p l e (rm_ 7 20 70 156) s m args below meth c H locs 0 0 (MQ below (va_Qi (fun r w' => r = 1 ∧ ∃ (z' : SA) (u' : S0), rB (T + 1) u' ∧ w' = rs_w cI cR o z' u' ++ ra_w cI ob ad u') (fun w' U => gQ D A w' U) A) args s 20 70 A) (F0 m 260 ls []) := by
  have hx := C.1
  have hb := C.2.1
  have hown := C.2.2.2.1
  have hts := C.2.2.2.2.1
  have hu8 : u.2.1 ≤ 8 := B.1
  refine lv_iload_n hx hb dL_act_260 rfl (lv_at hl 2 rfl) ?_
  refine lv_iconst (v := 1) hx hb dL_act_261 (by decide) ?_
  refine lv_ishr hx hb dL_act_262 ?_
  refine lv_iconst (v := 3) hx hb dL_act_263 (by decide) ?_
  refine m_ci (wa := []) (wb := []) (wd := rs_w cI cR o z u ++ (ra_w cI ob ad u)) (cells' := 0) (slots' := 0) rfl rfl C S.1 S.2.1 S.2.2 (fun hPb hDb => g_runS (wr := (rs_w cI cR o z u ++ (ra_w cI ob ad u)) ++ []) (n := 2) (As := [.int (x >>> (1 &&& 31)), .int 3]) C (mL_below l D t cI cR cB H.size (x >>> (1 &&& 31)) 3 (by decide) (by decide)) (rw_S q41 q42 q25 q43) kd_L_below ⟨Nat.le_of_ble_eq_true rfl, Nat.le_of_ble_eq_true rfl⟩ C.2.2.2.2.2.1 hPb hDb S.2.2 hl.1 rfl rfl (Nat.le_of_ble_eq_true rfl) dL_act_264 ⟨Nat.le_of_ble_eq_true rfl, Nat.le_of_ble_eq_true rfl⟩) (fun v w' H locs hv _ hP9 hD9 hS9 => ?_)
  obtain ⟨⟨j1, hj1, rfl⟩, rfl⟩ := hv
  have S : sS D A s cI cR o z u (ra_w cI ob ad u) H locs := ⟨hP9, hD9, hS9⟩
  refine lv_istore (lv' := [(9, .int (nI j1)), (0, .ref ob), (1, .ref o), (2, .int x), (3, .int (nI u.2.1))]) hx hb dL_act_267 hl (by decide) rfl (fun ls hl => ?_)
  refine lv_iconst (v := 1) hx hb dL_act_269 (by decide) ?_
  refine lv_iload_n hx hb dL_act_270 rfl (lv_at hl 3 rfl) ?_
  refine lv_iconst (v := 3) hx hb dL_act_271 (by decide) ?_
  refine lv_ishr hx hb dL_act_272 ?_
  refine lv_iload_n hx hb dL_act_273 rfl (lv_at hl 3 rfl) ?_
  refine lv_iconst (v := 3) hx hb dL_act_274 (by decide) ?_
  refine m_ci (wa := []) (wb := []) (wd := rs_w cI cR o z u ++ (ra_w cI ob ad u)) (cells' := 0) (slots' := 0) rfl rfl C S.1 S.2.1 S.2.2 (fun hPb hDb => g_runS (wr := (rs_w cI cR o z u ++ (ra_w cI ob ad u)) ++ []) (n := 2) (As := [.int x, .int 3]) C (mL_below l D t cI cR cB H.size x 3 (by decide) (by decide)) (rw_S q41 q42 q25 q43) kd_L_below ⟨Nat.le_of_ble_eq_true rfl, Nat.le_of_ble_eq_true rfl⟩ C.2.2.2.2.2.1 hPb hDb S.2.2 hl.1 rfl rfl (Nat.le_of_ble_eq_true rfl) dL_act_275 ⟨Nat.le_of_ble_eq_true rfl, Nat.le_of_ble_eq_true rfl⟩) (fun v w' H locs hv _ hP9 hD9 hS9 => ?_)
  obtain ⟨⟨j2, hj2, rfl⟩, rfl⟩ := hv
  have S : sS D A s cI cR o z u (ra_w cI ob ad u) H locs := ⟨hP9, hD9, hS9⟩
  refine lv_if_ne (tgt := 287) hx hb dL_act_278 (by decide) (fun c3 => ?_) (fun c3 => ?_)
  · refine lv_bipush (v := 30) hx hb dL_act_287 (by decide) ?_
    refine m_ci (wa := []) (wb := []) (wd := rs_w cI cR o z u ++ (ra_w cI ob ad u)) (cells' := 0) (slots' := 0) rfl rfl C S.1 S.2.1 S.2.2 (fun hPb hDb => g_runS (wr := (rs_w cI cR o z u ++ (ra_w cI ob ad u)) ++ []) (n := 2) (As := [.int (x >>> (3 &&& 31)), .int 30]) C (mL_below l D t cI cR cB H.size (x >>> (3 &&& 31)) 30 (by decide) (by decide)) (rw_S q41 q42 q25 q43) kd_L_below ⟨Nat.le_of_ble_eq_true rfl, Nat.le_of_ble_eq_true rfl⟩ C.2.2.2.2.2.1 hPb hDb S.2.2 hl.1 rfl rfl (Nat.le_of_ble_eq_true rfl) dL_act_289 ⟨Nat.le_of_ble_eq_true rfl, Nat.le_of_ble_eq_true rfl⟩) (fun v w' H locs hv _ hP9 hD9 hS9 => ?_)
    obtain ⟨⟨j4, hj4, rfl⟩, rfl⟩ := hv
    have S : sS D A s cI cR o z u (ra_w cI ob ad u) H locs := ⟨hP9, hD9, hS9⟩
    refine lv_iadd hx hb dL_act_292 ?_
    refine g_top (nI_add 1 j4) ?_
    refine lv_istore (lv' := [(10, .int (nI (1 + j4))), (9, .int (nI j1)), (0, .ref ob), (1, .ref o), (2, .int x), (3, .int (nI u.2.1))]) hx hb dL_act_293 hl (by decide) rfl (fun ls hl => ?_)
    refine lv_aload_n hx hb dL_act_295 rfl (lv_at hl 3 rfl) ?_
    refine s_gf C S 2 (by decide) (v := .ref (z.1 1)) rfl rfl q54 dL_act_296 ?_
    refine lv_iload hx hb dL_act_299 (lv_at hl 1 rfl) ?_
    refine lv_dup2_11 hx hb dL_act_301 rfl rfl ?_
    refine s_l8 C S (i := j1) hj1 rfl dL_act_302 ?_
    refine lv_iload hx hb dL_act_303 (lv_at hl 0 rfl) ?_
    refine lv_iadd hx hb dL_act_305 ?_
    refine s_t8 C S (i := j1) hj1 rfl dL_act_306 (fun H locs S => ?_)
    refine lv_aload_n hx hb dL_act_307 rfl (lv_at hl 2 rfl) ?_
    refine lv_iload hx hb dL_act_308 (lv_at hl 1 rfl) ?_
    refine lv_iload hx hb dL_act_310 (lv_at hl 0 rfl) ?_
    refine m_ci (wa := rs_w cI cR o z (ra_s u 8 j1 ((u.1 8 j1) + (nI (1 + j4))))) (wb := ra_w cI ob ad u) (wd := []) (cells' := 0) (slots' := 0) rfl rfl C S.1 S.2.1 S.2.2 (fun hPb hDb => g_runV (wr := ([]) ++ rs_w cI cR o z (ra_s u 8 j1 ((u.1 8 j1) + (nI (1 + j4))))) (n := 2) (As := [.int (nI j1), .int (nI (1 + j4))]) C (mX0_fill l D t cI ob ad H.size u j1 hj1 (nI (1 + j4)) (mv_1 (by omega) (by omega)) (nI_le (b := 500) (by omega) (by omega))) (rw_V q94 q95 q96 q2 q97) kd_X0_fill ⟨Nat.le_of_ble_eq_true rfl, Nat.le_of_ble_eq_true rfl⟩ (ci := 0) rfl rfl rfl (C.2.2.2.2.2.1.sub (tys' := [(cI, .int)]) [0] rfl) hPb hDb S.2.2 hl.1 rfl rfl (Nat.le_of_ble_eq_true rfl) dL_act_312 ⟨Nat.le_of_ble_eq_true rfl, Nat.le_of_ble_eq_true rfl⟩) (fun v w' H locs hv _ hP9 hD9 hS9 => ?_)
    obtain ⟨rfl, rfl⟩ := hv
    have S : sS D A s cI cR o z (ra_s u 8 j1 ((u.1 8 j1) + (nI (1 + j4)))) (ra_w cI ob ad (ra_s u 8 j1 (u.1 8 j1 + nI (1 + j4)))) H locs := ⟨hP9, hD9, hS9⟩
    refine lv_aload_n hx hb dL_act_315 rfl (lv_at hl 3 rfl) ?_
    refine s_gf C S 2 (by decide) (v := .ref (z.1 1)) rfl rfl q54 dL_act_316 ?_
    refine lv_iload hx hb dL_act_319 (lv_at hl 1 rfl) ?_
    refine s_l8 C S (i := j1) hj1 rfl dL_act_321 ?_
    refine g_top (y := (u.1 8 j1) + (nI (1 + j4))) ra_sS ?_
    refine lv_icmp_ne (tgt := 329) hx hb dL_act_322 (by decide) (fun c5 => absurd rfl c5) (fun c5 => ?_)
    refine lv_iconst (v := 1) hx hb dL_act_325 (by decide) ?_
    refine lv_goto (tgt := 330) hx hb dL_act_326 (by decide) ?_
    refine W.widen (k := 20) (n := 70) (Nat.le_of_ble_eq_true rfl) (Nat.le_of_ble_eq_true rfl) ?_
    exact g_zret C hrt rfl S.1 S.2.1 S.2.2 dL_act_330 ⟨rfl, z, ra_s u 8 j1 ((u.1 8 j1) + (nI (1 + j4))), rB_fill B hT1 hj1 (by omega), rfl⟩
  · refine lv_sipush (v := 500) hx hb dL_act_281 (by decide) ?_
    refine lv_goto (tgt := 289) hx hb dL_act_284 (by decide) ?_
    refine m_ci (wa := []) (wb := []) (wd := rs_w cI cR o z u ++ (ra_w cI ob ad u)) (cells' := 0) (slots' := 0) rfl rfl C S.1 S.2.1 S.2.2 (fun hPb hDb => g_runS (wr := (rs_w cI cR o z u ++ (ra_w cI ob ad u)) ++ []) (n := 2) (As := [.int (x >>> (3 &&& 31)), .int 500]) C (mL_below l D t cI cR cB H.size (x >>> (3 &&& 31)) 500 (by decide) (by decide)) (rw_S q41 q42 q25 q43) kd_L_below ⟨Nat.le_of_ble_eq_true rfl, Nat.le_of_ble_eq_true rfl⟩ C.2.2.2.2.2.1 hPb hDb S.2.2 hl.1 rfl rfl (Nat.le_of_ble_eq_true rfl) dL_act_289 ⟨Nat.le_of_ble_eq_true rfl, Nat.le_of_ble_eq_true rfl⟩) (fun v w' H locs hv _ hP9 hD9 hS9 => ?_)
    obtain ⟨⟨j6, hj6, rfl⟩, rfl⟩ := hv
    have S : sS D A s cI cR o z u (ra_w cI ob ad u) H locs := ⟨hP9, hD9, hS9⟩
    refine lv_iadd hx hb dL_act_292 ?_
    refine g_top (nI_add 1 j6) ?_
    refine lv_istore (lv' := [(10, .int (nI (1 + j6))), (9, .int (nI j1)), (0, .ref ob), (1, .ref o), (2, .int x), (3, .int (nI u.2.1))]) hx hb dL_act_293 hl (by decide) rfl (fun ls hl => ?_)
    refine lv_aload_n hx hb dL_act_295 rfl (lv_at hl 3 rfl) ?_
    refine s_gf C S 2 (by decide) (v := .ref (z.1 1)) rfl rfl q54 dL_act_296 ?_
    refine lv_iload hx hb dL_act_299 (lv_at hl 1 rfl) ?_
    refine lv_dup2_11 hx hb dL_act_301 rfl rfl ?_
    refine s_l8 C S (i := j1) hj1 rfl dL_act_302 ?_
    refine lv_iload hx hb dL_act_303 (lv_at hl 0 rfl) ?_
    refine lv_iadd hx hb dL_act_305 ?_
    refine s_t8 C S (i := j1) hj1 rfl dL_act_306 (fun H locs S => ?_)
    refine lv_aload_n hx hb dL_act_307 rfl (lv_at hl 2 rfl) ?_
    refine lv_iload hx hb dL_act_308 (lv_at hl 1 rfl) ?_
    refine lv_iload hx hb dL_act_310 (lv_at hl 0 rfl) ?_
    refine m_ci (wa := rs_w cI cR o z (ra_s u 8 j1 ((u.1 8 j1) + (nI (1 + j6))))) (wb := ra_w cI ob ad u) (wd := []) (cells' := 0) (slots' := 0) rfl rfl C S.1 S.2.1 S.2.2 (fun hPb hDb => g_runV (wr := ([]) ++ rs_w cI cR o z (ra_s u 8 j1 ((u.1 8 j1) + (nI (1 + j6))))) (n := 2) (As := [.int (nI j1), .int (nI (1 + j6))]) C (mX0_fill l D t cI ob ad H.size u j1 hj1 (nI (1 + j6)) (mv_1 (by omega) (by omega)) (nI_le (b := 500) (by omega) (by omega))) (rw_V q94 q95 q96 q2 q97) kd_X0_fill ⟨Nat.le_of_ble_eq_true rfl, Nat.le_of_ble_eq_true rfl⟩ (ci := 0) rfl rfl rfl (C.2.2.2.2.2.1.sub (tys' := [(cI, .int)]) [0] rfl) hPb hDb S.2.2 hl.1 rfl rfl (Nat.le_of_ble_eq_true rfl) dL_act_312 ⟨Nat.le_of_ble_eq_true rfl, Nat.le_of_ble_eq_true rfl⟩) (fun v w' H locs hv _ hP9 hD9 hS9 => ?_)
    obtain ⟨rfl, rfl⟩ := hv
    have S : sS D A s cI cR o z (ra_s u 8 j1 ((u.1 8 j1) + (nI (1 + j6)))) (ra_w cI ob ad (ra_s u 8 j1 (u.1 8 j1 + nI (1 + j6)))) H locs := ⟨hP9, hD9, hS9⟩
    refine lv_aload_n hx hb dL_act_315 rfl (lv_at hl 3 rfl) ?_
    refine s_gf C S 2 (by decide) (v := .ref (z.1 1)) rfl rfl q54 dL_act_316 ?_
    refine lv_iload hx hb dL_act_319 (lv_at hl 1 rfl) ?_
    refine s_l8 C S (i := j1) hj1 rfl dL_act_321 ?_
    refine g_top (y := (u.1 8 j1) + (nI (1 + j6))) ra_sS ?_
    refine lv_icmp_ne (tgt := 329) hx hb dL_act_322 (by decide) (fun c7 => absurd rfl c7) (fun c7 => ?_)
    refine lv_iconst (v := 1) hx hb dL_act_325 (by decide) ?_
    refine lv_goto (tgt := 330) hx hb dL_act_326 (by decide) ?_
    refine W.widen (k := 20) (n := 70) (Nat.le_of_ble_eq_true rfl) (Nat.le_of_ble_eq_true rfl) ?_
    exact g_zret C hrt rfl S.1 S.2.1 S.2.2 dL_act_330 ⟨rfl, z, ra_s u 8 j1 ((u.1 8 j1) + (nI (1 + j6))), rB_fill B hT1 hj1 (by omega), rfl⟩
set_option maxHeartbeats 4000000 in
set_option maxRecDepth 100000 in
theorem act_bind0 {p : Program} {l : Launch} {e : Env} {s : State} {m : MethodId} {args : Array Value} {below : List Frame} {meth : Method} {c : Code} {D : va_G} {t : Nat → Nat} {A : Nat → Prop} {H : Heap} {locs : List Loc} {ls : Array Slot} {cI cR cB : ClassId} {o ob T : Nat} {ad : Nat → Nat} {x : Int32} {z : SA} {u : S0}  (C : gC p s m args meth c cL_act 15 RL D (ty3 cI cR cB) t A) (hrt : meth.sig.returnType = some .boolean) (B : rB T u) (hT1 : T + 1 ≤ 400) (hn : u.2.1 = 0) (S : sS D A s cI cR o z u (ra_w cI ob ad u) H locs) (hl : lv_has ls 15 [(0, .ref ob), (1, .ref o), (2, .int x), (3, .int (nI u.2.1))]) : W p l e (rm_ 7 20 70 156) s m args below meth c H locs 0 0 (MQ below (va_Qi (fun r w' => r = 1 ∧ ∃ (z' : SA) (u' : S0), rB (T + 1) u' ∧ w' = rs_w cI cR o z' u' ++ ra_w cI ob ad u') (fun w' U => gQ D A w' U) A) args s 20 70 A) (F0 m 331 ls []) := by
  have hx := C.1
  have hb := C.2.1
  have hown := C.2.2.2.1
  have hts := C.2.2.2.2.1
  have hu8 : u.2.1 ≤ 8 := B.1
  refine lv_iload_n hx hb dL_act_331 rfl (lv_at hl 3 rfl) ?_
  refine lv_if_eq (tgt := 346) hx hb dL_act_332 (by decide) (fun c1 => ?_) (fun c1 => absurd ((nI_eq (a := u.2.1) (b := 0) (by omega) (by omega)).mpr (by omega)) c1)
  refine lv_iconst (v := 1) hx hb dL_act_346 (by decide) ?_
  refine W.widen (k := 20) (n := 70) (Nat.le_of_ble_eq_true rfl) (Nat.le_of_ble_eq_true rfl) ?_
  exact g_zret C hrt rfl S.1 S.2.1 S.2.2 dL_act_347 ⟨rfl, z, u, B.up hT1, rfl⟩
set_option maxHeartbeats 4000000 in
set_option maxRecDepth 100000 in
theorem act_bind {p : Program} {l : Launch} {e : Env} {s : State} {m : MethodId} {args : Array Value} {below : List Frame} {meth : Method} {c : Code} {D : va_G} {t : Nat → Nat} {A : Nat → Prop} {H : Heap} {locs : List Loc} {ls : Array Slot} {cI cR cB : ClassId} {o ob T : Nat} {ad : Nat → Nat} {x : Int32} {z : SA} {u : S0} {k : Nat} (C : gC p s m args meth c cL_act 15 RL D (ty3 cI cR cB) t A) (hrt : meth.sig.returnType = some .boolean) (B : rB T u) (hT1 : T + 1 ≤ 400) (hk : k < u.2.1) (S : sS D A s cI cR o z u (ra_w cI ob ad u) H locs) (hl : lv_has ls 15 [(0, .ref ob), (1, .ref o), (2, .int x), (3, .int (nI u.2.1)), (4, .int (nI k)), (5, .ref (z.2.1 k))]) : W p l e (rm_ 7 20 70 156) s m args below meth c H locs 0 0 (MQ below (va_Qi (fun r w' => r = 1 ∧ ∃ (z' : SA) (u' : S0), rB (T + 1) u' ∧ w' = rs_w cI cR o z' u' ++ ra_w cI ob ad u') (fun w' U => gQ D A w' U) A) args s 20 70 A) (F0 m 331 ls []) := by
  have hx := C.1
  have hb := C.2.1
  have hown := C.2.2.2.1
  have hts := C.2.2.2.2.1
  have hu8 : u.2.1 ≤ 8 := B.1
  refine lv_iload_n hx hb dL_act_331 rfl (lv_at hl 3 rfl) ?_
  refine lv_if_eq (tgt := 346) hx hb dL_act_332 (by decide) (fun c1 => absurd c1 (fun h9 => absurd ((nI_eq (a := u.2.1) (b := 0) (by omega) (by omega)).mp h9) (by omega))) (fun c1 => ?_)
  refine lv_aload hx hb dL_act_335 (lv_at hl 5 rfl) ?_
  refine r_gf C S 1 k (by decide) hk (v := .int (u.1 1 k)) rfl rfl q55 dL_act_337 ?_
  refine lv_sipush (v := 5000) hx hb dL_act_340 (by decide) ?_
  refine lv_icmp_le (tgt := 348) hx hb dL_act_343 (by decide) (fun c2 => ?_) (fun c2 => ?_)
  · refine lv_iconst (v := 1) hx hb dL_act_348 (by decide) ?_
    refine lv_iload_n hx hb dL_act_349 rfl (lv_at hl 2 rfl) ?_
    refine lv_iconst (v := 3) hx hb dL_act_350 (by decide) ?_
    refine lv_ishr hx hb dL_act_351 ?_
    refine lv_iload_n hx hb dL_act_352 rfl (lv_at hl 2 rfl) ?_
    refine lv_iconst (v := 2) hx hb dL_act_353 (by decide) ?_
    refine m_ci (wa := []) (wb := []) (wd := rs_w cI cR o z u ++ (ra_w cI ob ad u)) (cells' := 0) (slots' := 0) rfl rfl C S.1 S.2.1 S.2.2 (fun hPb hDb => g_runS (wr := (rs_w cI cR o z u ++ (ra_w cI ob ad u)) ++ []) (n := 2) (As := [.int x, .int 2]) C (mL_below l D t cI cR cB H.size x 2 (by decide) (by decide)) (rw_S q41 q42 q25 q43) kd_L_below ⟨Nat.le_of_ble_eq_true rfl, Nat.le_of_ble_eq_true rfl⟩ C.2.2.2.2.2.1 hPb hDb S.2.2 hl.1 rfl rfl (Nat.le_of_ble_eq_true rfl) dL_act_354 ⟨Nat.le_of_ble_eq_true rfl, Nat.le_of_ble_eq_true rfl⟩) (fun v w' H locs hv _ hP9 hD9 hS9 => ?_)
    obtain ⟨⟨j3, hj3, rfl⟩, rfl⟩ := hv
    have S : sS D A s cI cR o z u (ra_w cI ob ad u) H locs := ⟨hP9, hD9, hS9⟩
    refine lv_if_ne (tgt := 366) hx hb dL_act_357 (by decide) (fun c4 => ?_) (fun c4 => ?_)
    · refine lv_bipush (v := 90) hx hb dL_act_366 (by decide) ?_
      refine m_ci (wa := []) (wb := []) (wd := rs_w cI cR o z u ++ (ra_w cI ob ad u)) (cells' := 0) (slots' := 0) rfl rfl C S.1 S.2.1 S.2.2 (fun hPb hDb => g_runS (wr := (rs_w cI cR o z u ++ (ra_w cI ob ad u)) ++ []) (n := 2) (As := [.int (x >>> (3 &&& 31)), .int 90]) C (mL_below l D t cI cR cB H.size (x >>> (3 &&& 31)) 90 (by decide) (by decide)) (rw_S q41 q42 q25 q43) kd_L_below ⟨Nat.le_of_ble_eq_true rfl, Nat.le_of_ble_eq_true rfl⟩ C.2.2.2.2.2.1 hPb hDb S.2.2 hl.1 rfl rfl (Nat.le_of_ble_eq_true rfl) dL_act_368 ⟨Nat.le_of_ble_eq_true rfl, Nat.le_of_ble_eq_true rfl⟩) (fun v w' H locs hv _ hP9 hD9 hS9 => ?_)
      obtain ⟨⟨j5, hj5, rfl⟩, rfl⟩ := hv
      have S : sS D A s cI cR o z u (ra_w cI ob ad u) H locs := ⟨hP9, hD9, hS9⟩
      refine lv_iadd hx hb dL_act_371 ?_
      refine g_top (nI_add 1 j5) ?_
      refine lv_istore (lv' := [(11, .int (nI (1 + j5))), (0, .ref ob), (1, .ref o), (2, .int x), (3, .int (nI u.2.1)), (4, .int (nI k)), (5, .ref (z.2.1 k))]) hx hb dL_act_372 hl (by decide) rfl (fun ls hl => ?_)
      refine lv_aload hx hb dL_act_374 (lv_at hl 6 rfl) ?_
      refine lv_dup hx hb dL_act_376 rfl ?_
      refine r_gf C S 1 k (by decide) hk (v := .int (u.1 1 k)) rfl rfl q55 dL_act_377 ?_
      refine lv_iload hx hb dL_act_380 (lv_at hl 0 rfl) ?_
      refine lv_iadd hx hb dL_act_382 ?_
      refine r_pf C S 1 k (by decide) hk rfl rfl (by decide +kernel) q55 dL_act_383 (fun H locs S => ?_)
      refine lv_aload_n hx hb dL_act_386 rfl (lv_at hl 1 rfl) ?_
      refine lv_iload hx hb dL_act_387 (lv_at hl 5 rfl) ?_
      refine lv_iload hx hb dL_act_389 (lv_at hl 0 rfl) ?_
      refine m_ci (wa := rs_w cI cR o z (ra_s u 1 k ((u.1 1 k) + (nI (1 + j5))))) (wb := ra_w cI ob ad u) (wd := []) (cells' := 0) (slots' := 0) rfl rfl C S.1 S.2.1 S.2.2 (fun hPb hDb => g_runV (wr := ([]) ++ rs_w cI cR o z (ra_s u 1 k ((u.1 1 k) + (nI (1 + j5))))) (n := 2) (As := [.int (nI k), .int (nI (1 + j5))]) C (mX0_bind l D t cI ob ad H.size u hu8 k hk (nI (1 + j5)) (mv_1 (by omega) (by omega)) (nI_le (b := 999) (by omega) (by omega))) (rw_V q98 q99 q100 q2 q101) kd_X0_bind ⟨Nat.le_of_ble_eq_true rfl, Nat.le_of_ble_eq_true rfl⟩ (ci := 0) rfl rfl rfl (C.2.2.2.2.2.1.sub (tys' := [(cI, .int)]) [0] rfl) hPb hDb S.2.2 hl.1 rfl rfl (Nat.le_of_ble_eq_true rfl) dL_act_391 ⟨Nat.le_of_ble_eq_true rfl, Nat.le_of_ble_eq_true rfl⟩) (fun v w' H locs hv _ hP9 hD9 hS9 => ?_)
      obtain ⟨rfl, rfl⟩ := hv
      have S : sS D A s cI cR o z (ra_s u 1 k ((u.1 1 k) + (nI (1 + j5)))) (ra_w cI ob ad (ra_s u 1 k (u.1 1 k + nI (1 + j5)))) H locs := ⟨hP9, hD9, hS9⟩
      refine lv_aload hx hb dL_act_394 (lv_at hl 6 rfl) ?_
      refine r_gf C S 1 k (by decide) hk (v := .int ((ra_s u 1 k ((u.1 1 k) + (nI (1 + j5)))).1 1 k)) rfl rfl q55 dL_act_396 ?_
      refine g_top (y := (u.1 1 k) + (nI (1 + j5))) ra_sS ?_
      refine lv_icmp_ne (tgt := 406) hx hb dL_act_399 (by decide) (fun c6 => absurd rfl c6) (fun c6 => ?_)
      refine lv_iconst (v := 1) hx hb dL_act_402 (by decide) ?_
      refine lv_goto (tgt := 407) hx hb dL_act_403 (by decide) ?_
      refine W.widen (k := 20) (n := 70) (Nat.le_of_ble_eq_true rfl) (Nat.le_of_ble_eq_true rfl) ?_
      exact g_zret C hrt rfl S.1 S.2.1 S.2.2 dL_act_407 ⟨rfl, z, ra_s u 1 k ((u.1 1 k) + (nI (1 + j5))), rB_bind B hT1 hk (Int32.not_lt.mpr c2) (by omega), rfl⟩
    · refine lv_sipush (v := 999) hx hb dL_act_360 (by decide) ?_
      refine lv_goto (tgt := 368) hx hb dL_act_363 (by decide) ?_
      refine m_ci (wa := []) (wb := []) (wd := rs_w cI cR o z u ++ (ra_w cI ob ad u)) (cells' := 0) (slots' := 0) rfl rfl C S.1 S.2.1 S.2.2 (fun hPb hDb => g_runS (wr := (rs_w cI cR o z u ++ (ra_w cI ob ad u)) ++ []) (n := 2) (As := [.int (x >>> (3 &&& 31)), .int 999]) C (mL_below l D t cI cR cB H.size (x >>> (3 &&& 31)) 999 (by decide) (by decide)) (rw_S q41 q42 q25 q43) kd_L_below ⟨Nat.le_of_ble_eq_true rfl, Nat.le_of_ble_eq_true rfl⟩ C.2.2.2.2.2.1 hPb hDb S.2.2 hl.1 rfl rfl (Nat.le_of_ble_eq_true rfl) dL_act_368 ⟨Nat.le_of_ble_eq_true rfl, Nat.le_of_ble_eq_true rfl⟩) (fun v w' H locs hv _ hP9 hD9 hS9 => ?_)
      obtain ⟨⟨j7, hj7, rfl⟩, rfl⟩ := hv
      have S : sS D A s cI cR o z u (ra_w cI ob ad u) H locs := ⟨hP9, hD9, hS9⟩
      refine lv_iadd hx hb dL_act_371 ?_
      refine g_top (nI_add 1 j7) ?_
      refine lv_istore (lv' := [(11, .int (nI (1 + j7))), (0, .ref ob), (1, .ref o), (2, .int x), (3, .int (nI u.2.1)), (4, .int (nI k)), (5, .ref (z.2.1 k))]) hx hb dL_act_372 hl (by decide) rfl (fun ls hl => ?_)
      refine lv_aload hx hb dL_act_374 (lv_at hl 6 rfl) ?_
      refine lv_dup hx hb dL_act_376 rfl ?_
      refine r_gf C S 1 k (by decide) hk (v := .int (u.1 1 k)) rfl rfl q55 dL_act_377 ?_
      refine lv_iload hx hb dL_act_380 (lv_at hl 0 rfl) ?_
      refine lv_iadd hx hb dL_act_382 ?_
      refine r_pf C S 1 k (by decide) hk rfl rfl (by decide +kernel) q55 dL_act_383 (fun H locs S => ?_)
      refine lv_aload_n hx hb dL_act_386 rfl (lv_at hl 1 rfl) ?_
      refine lv_iload hx hb dL_act_387 (lv_at hl 5 rfl) ?_
      refine lv_iload hx hb dL_act_389 (lv_at hl 0 rfl) ?_
      refine m_ci (wa := rs_w cI cR o z (ra_s u 1 k ((u.1 1 k) + (nI (1 + j7))))) (wb := ra_w cI ob ad u) (wd := []) (cells' := 0) (slots' := 0) rfl rfl C S.1 S.2.1 S.2.2 (fun hPb hDb => g_runV (wr := ([]) ++ rs_w cI cR o z (ra_s u 1 k ((u.1 1 k) + (nI (1 + j7))))) (n := 2) (As := [.int (nI k), .int (nI (1 + j7))]) C (mX0_bind l D t cI ob ad H.size u hu8 k hk (nI (1 + j7)) (mv_1 (by omega) (by omega)) (nI_le (b := 999) (by omega) (by omega))) (rw_V q98 q99 q100 q2 q101) kd_X0_bind ⟨Nat.le_of_ble_eq_true rfl, Nat.le_of_ble_eq_true rfl⟩ (ci := 0) rfl rfl rfl (C.2.2.2.2.2.1.sub (tys' := [(cI, .int)]) [0] rfl) hPb hDb S.2.2 hl.1 rfl rfl (Nat.le_of_ble_eq_true rfl) dL_act_391 ⟨Nat.le_of_ble_eq_true rfl, Nat.le_of_ble_eq_true rfl⟩) (fun v w' H locs hv _ hP9 hD9 hS9 => ?_)
      obtain ⟨rfl, rfl⟩ := hv
      have S : sS D A s cI cR o z (ra_s u 1 k ((u.1 1 k) + (nI (1 + j7)))) (ra_w cI ob ad (ra_s u 1 k (u.1 1 k + nI (1 + j7)))) H locs := ⟨hP9, hD9, hS9⟩
      refine lv_aload hx hb dL_act_394 (lv_at hl 6 rfl) ?_
      refine r_gf C S 1 k (by decide) hk (v := .int ((ra_s u 1 k ((u.1 1 k) + (nI (1 + j7)))).1 1 k)) rfl rfl q55 dL_act_396 ?_
      refine g_top (y := (u.1 1 k) + (nI (1 + j7))) ra_sS ?_
      refine lv_icmp_ne (tgt := 406) hx hb dL_act_399 (by decide) (fun c8 => absurd rfl c8) (fun c8 => ?_)
      refine lv_iconst (v := 1) hx hb dL_act_402 (by decide) ?_
      refine lv_goto (tgt := 407) hx hb dL_act_403 (by decide) ?_
      refine W.widen (k := 20) (n := 70) (Nat.le_of_ble_eq_true rfl) (Nat.le_of_ble_eq_true rfl) ?_
      exact g_zret C hrt rfl S.1 S.2.1 S.2.2 dL_act_407 ⟨rfl, z, ra_s u 1 k ((u.1 1 k) + (nI (1 + j7))), rB_bind B hT1 hk (Int32.not_lt.mpr c2) (by omega), rfl⟩
  · refine lv_iconst (v := 1) hx hb dL_act_346 (by decide) ?_
    refine W.widen (k := 20) (n := 70) (Nat.le_of_ble_eq_true rfl) (Nat.le_of_ble_eq_true rfl) ?_
    exact g_zret C hrt rfl S.1 S.2.1 S.2.2 dL_act_347 ⟨rfl, z, u, B.up hT1, rfl⟩
set_option maxHeartbeats 4000000 in
set_option maxRecDepth 100000 in
theorem act_lend0 {p : Program} {l : Launch} {e : Env} {s : State} {m : MethodId} {args : Array Value} {below : List Frame} {meth : Method} {c : Code} {D : va_G} {t : Nat → Nat} {A : Nat → Prop} {H : Heap} {locs : List Loc} {ls : Array Slot} {cI cR cB : ClassId} {o ob T : Nat} {ad : Nat → Nat} {x : Int32} {z : SA} {u : S0}  (C : gC p s m args meth c cL_act 15 RL D (ty3 cI cR cB) t A) (hrt : meth.sig.returnType = some .boolean) (B : rB T u) (hT1 : T + 1 ≤ 400) (hn : u.2.1 = 0) (S : sS D A s cI cR o z u (ra_w cI ob ad u) H locs) (hl : lv_has ls 15 [(0, .ref ob), (1, .ref o), (2, .int x), (3, .int (nI u.2.1))]) : W p l e (rm_ 7 20 70 156) s m args below meth c H locs 0 0 (MQ below (va_Qi (fun r w' => r = 1 ∧ ∃ (z' : SA) (u' : S0), rB (T + 1) u' ∧ w' = rs_w cI cR o z' u' ++ ra_w cI ob ad u') (fun w' U => gQ D A w' U) A) args s 20 70 A) (F0 m 408 ls []) := by
  have hx := C.1
  have hb := C.2.1
  have hown := C.2.2.2.1
  have hts := C.2.2.2.2.1
  have hu8 : u.2.1 ≤ 8 := B.1
  refine lv_iload_n hx hb dL_act_408 rfl (lv_at hl 3 rfl) ?_
  refine lv_if_ne (tgt := 414) hx hb dL_act_409 (by decide) (fun c1 => absurd ((nI_eq (a := u.2.1) (b := 0) (by omega) (by omega)).mpr (by omega)) c1) (fun c1 => ?_)
  refine lv_iconst (v := 1) hx hb dL_act_412 (by decide) ?_
  refine W.widen (k := 20) (n := 70) (Nat.le_of_ble_eq_true rfl) (Nat.le_of_ble_eq_true rfl) ?_
  exact g_zret C hrt rfl S.1 S.2.1 S.2.2 dL_act_413 ⟨rfl, z, u, B.up hT1, rfl⟩
set_option maxHeartbeats 4000000 in
set_option maxRecDepth 100000 in
theorem act_lend {p : Program} {l : Launch} {e : Env} {s : State} {m : MethodId} {args : Array Value} {below : List Frame} {meth : Method} {c : Code} {D : va_G} {t : Nat → Nat} {A : Nat → Prop} {H : Heap} {locs : List Loc} {ls : Array Slot} {cI cR cB : ClassId} {o ob T : Nat} {ad : Nat → Nat} {x : Int32} {z : SA} {u : S0} {k : Nat} (C : gC p s m args meth c cL_act 15 RL D (ty3 cI cR cB) t A) (hrt : meth.sig.returnType = some .boolean) (B : rB T u) (hT1 : T + 1 ≤ 400) (hk : k < u.2.1) (S : sS D A s cI cR o z u (ra_w cI ob ad u) H locs) (hl : lv_has ls 15 [(0, .ref ob), (1, .ref o), (2, .int x), (3, .int (nI u.2.1)), (4, .int (nI k)), (5, .ref (z.2.1 k))]) : W p l e (rm_ 7 20 70 156) s m args below meth c H locs 0 0 (MQ below (va_Qi (fun r w' => r = 1 ∧ ∃ (z' : SA) (u' : S0), rB (T + 1) u' ∧ w' = rs_w cI cR o z' u' ++ ra_w cI ob ad u') (fun w' U => gQ D A w' U) A) args s 20 70 A) (F0 m 408 ls []) := by
  have hx := C.1
  have hb := C.2.1
  have hown := C.2.2.2.1
  have hts := C.2.2.2.2.1
  have hu8 : u.2.1 ≤ 8 := B.1
  refine lv_iload_n hx hb dL_act_408 rfl (lv_at hl 3 rfl) ?_
  refine lv_if_ne (tgt := 414) hx hb dL_act_409 (by decide) (fun c1 => ?_) (fun c1 => absurd c1 (fun h9 => absurd ((nI_eq (a := u.2.1) (b := 0) (by omega) (by omega)).mp h9) (by omega)))
  refine lv_iconst (v := 1) hx hb dL_act_414 (by decide) ?_
  refine lv_iload_n hx hb dL_act_415 rfl (lv_at hl 2 rfl) ?_
  refine lv_iconst (v := 3) hx hb dL_act_416 (by decide) ?_
  refine lv_ishr hx hb dL_act_417 ?_
  refine lv_iload_n hx hb dL_act_418 rfl (lv_at hl 2 rfl) ?_
  refine lv_iconst (v := 2) hx hb dL_act_419 (by decide) ?_
  refine m_ci (wa := []) (wb := []) (wd := rs_w cI cR o z u ++ (ra_w cI ob ad u)) (cells' := 0) (slots' := 0) rfl rfl C S.1 S.2.1 S.2.2 (fun hPb hDb => g_runS (wr := (rs_w cI cR o z u ++ (ra_w cI ob ad u)) ++ []) (n := 2) (As := [.int x, .int 2]) C (mL_below l D t cI cR cB H.size x 2 (by decide) (by decide)) (rw_S q41 q42 q25 q43) kd_L_below ⟨Nat.le_of_ble_eq_true rfl, Nat.le_of_ble_eq_true rfl⟩ C.2.2.2.2.2.1 hPb hDb S.2.2 hl.1 rfl rfl (Nat.le_of_ble_eq_true rfl) dL_act_420 ⟨Nat.le_of_ble_eq_true rfl, Nat.le_of_ble_eq_true rfl⟩) (fun v w' H locs hv _ hP9 hD9 hS9 => ?_)
  obtain ⟨⟨j2, hj2, rfl⟩, rfl⟩ := hv
  have S : sS D A s cI cR o z u (ra_w cI ob ad u) H locs := ⟨hP9, hD9, hS9⟩
  refine lv_if_ne (tgt := 432) hx hb dL_act_423 (by decide) (fun c3 => ?_) (fun c3 => ?_)
  · refine lv_sipush (v := 200) hx hb dL_act_432 (by decide) ?_
    refine m_ci (wa := []) (wb := []) (wd := rs_w cI cR o z u ++ (ra_w cI ob ad u)) (cells' := 0) (slots' := 0) rfl rfl C S.1 S.2.1 S.2.2 (fun hPb hDb => g_runS (wr := (rs_w cI cR o z u ++ (ra_w cI ob ad u)) ++ []) (n := 2) (As := [.int (x >>> (3 &&& 31)), .int 200]) C (mL_below l D t cI cR cB H.size (x >>> (3 &&& 31)) 200 (by decide) (by decide)) (rw_S q41 q42 q25 q43) kd_L_below ⟨Nat.le_of_ble_eq_true rfl, Nat.le_of_ble_eq_true rfl⟩ C.2.2.2.2.2.1 hPb hDb S.2.2 hl.1 rfl rfl (Nat.le_of_ble_eq_true rfl) dL_act_435 ⟨Nat.le_of_ble_eq_true rfl, Nat.le_of_ble_eq_true rfl⟩) (fun v w' H locs hv _ hP9 hD9 hS9 => ?_)
    obtain ⟨⟨j4, hj4, rfl⟩, rfl⟩ := hv
    have S : sS D A s cI cR o z u (ra_w cI ob ad u) H locs := ⟨hP9, hD9, hS9⟩
    refine lv_iadd hx hb dL_act_438 ?_
    refine g_top (nI_add 1 j4) ?_
    refine lv_istore (lv' := [(12, .int (nI (1 + j4))), (0, .ref ob), (1, .ref o), (2, .int x), (3, .int (nI u.2.1)), (4, .int (nI k)), (5, .ref (z.2.1 k))]) hx hb dL_act_439 hl (by decide) rfl (fun ls hl => ?_)
    refine lv_aload hx hb dL_act_441 (lv_at hl 6 rfl) ?_
    refine r_gf C S 4 k (by decide) hk (v := .int (u.1 4 k)) rfl rfl q56 dL_act_443 ?_
    refine lv_iload hx hb dL_act_446 (lv_at hl 0 rfl) ?_
    refine lv_iadd hx hb dL_act_448 ?_
    refine lv_sipush (v := 5000) hx hb dL_act_449 (by decide) ?_
    refine lv_icmp_le (tgt := 457) hx hb dL_act_452 (by decide) (fun c5 => ?_) (fun c5 => ?_)
    · refine lv_aload hx hb dL_act_457 (lv_at hl 6 rfl) ?_
      refine lv_dup hx hb dL_act_459 rfl ?_
      refine r_gf C S 4 k (by decide) hk (v := .int (u.1 4 k)) rfl rfl q56 dL_act_460 ?_
      refine lv_iload hx hb dL_act_463 (lv_at hl 0 rfl) ?_
      refine lv_iadd hx hb dL_act_465 ?_
      refine r_pf C S 4 k (by decide) hk rfl rfl (by decide +kernel) q56 dL_act_466 (fun H locs S => ?_)
      refine lv_aload_n hx hb dL_act_469 rfl (lv_at hl 1 rfl) ?_
      refine lv_iload hx hb dL_act_470 (lv_at hl 5 rfl) ?_
      refine lv_iload hx hb dL_act_472 (lv_at hl 0 rfl) ?_
      refine m_ci (wa := rs_w cI cR o z (ra_s u 4 k ((u.1 4 k) + (nI (1 + j4))))) (wb := ra_w cI ob ad u) (wd := []) (cells' := 0) (slots' := 0) rfl rfl C S.1 S.2.1 S.2.2 (fun hPb hDb => g_runV (wr := ([]) ++ rs_w cI cR o z (ra_s u 4 k ((u.1 4 k) + (nI (1 + j4))))) (n := 2) (As := [.int (nI k), .int (nI (1 + j4))]) C (mX0_lend l D t cI ob ad H.size u hu8 k hk (nI (1 + j4)) (mv_1 (by omega) (by omega)) (nI_le (b := 2000) (by omega) (by omega)) (Int32.not_lt.mpr c5)) (rw_V q102 q103 q104 q2 q105) kd_X0_lend ⟨Nat.le_of_ble_eq_true rfl, Nat.le_of_ble_eq_true rfl⟩ (ci := 0) rfl rfl rfl (C.2.2.2.2.2.1.sub (tys' := [(cI, .int)]) [0] rfl) hPb hDb S.2.2 hl.1 rfl rfl (Nat.le_of_ble_eq_true rfl) dL_act_474 ⟨Nat.le_of_ble_eq_true rfl, Nat.le_of_ble_eq_true rfl⟩) (fun v w' H locs hv _ hP9 hD9 hS9 => ?_)
      obtain ⟨rfl, rfl⟩ := hv
      have S : sS D A s cI cR o z (ra_s u 4 k ((u.1 4 k) + (nI (1 + j4)))) (ra_w cI ob ad (ra_s u 4 k (u.1 4 k + nI (1 + j4)))) H locs := ⟨hP9, hD9, hS9⟩
      refine lv_aload hx hb dL_act_477 (lv_at hl 6 rfl) ?_
      refine r_gf C S 4 k (by decide) hk (v := .int ((ra_s u 4 k ((u.1 4 k) + (nI (1 + j4)))).1 4 k)) rfl rfl q56 dL_act_479 ?_
      refine g_top (y := (u.1 4 k) + (nI (1 + j4))) ra_sS ?_
      refine lv_icmp_ne (tgt := 489) hx hb dL_act_482 (by decide) (fun c6 => absurd rfl c6) (fun c6 => ?_)
      refine lv_iconst (v := 1) hx hb dL_act_485 (by decide) ?_
      refine lv_goto (tgt := 490) hx hb dL_act_486 (by decide) ?_
      refine W.widen (k := 20) (n := 70) (Nat.le_of_ble_eq_true rfl) (Nat.le_of_ble_eq_true rfl) ?_
      exact g_zret C hrt rfl S.1 S.2.1 S.2.2 dL_act_490 ⟨rfl, z, ra_s u 4 k ((u.1 4 k) + (nI (1 + j4))), rB_lend B hT1 hk (Int32.not_lt.mpr c5) (by omega), rfl⟩
    · refine lv_iconst (v := 1) hx hb dL_act_455 (by decide) ?_
      refine W.widen (k := 20) (n := 70) (Nat.le_of_ble_eq_true rfl) (Nat.le_of_ble_eq_true rfl) ?_
      exact g_zret C hrt rfl S.1 S.2.1 S.2.2 dL_act_456 ⟨rfl, z, u, B.up hT1, rfl⟩
  · refine lv_sipush (v := 2000) hx hb dL_act_426 (by decide) ?_
    refine lv_goto (tgt := 435) hx hb dL_act_429 (by decide) ?_
    refine m_ci (wa := []) (wb := []) (wd := rs_w cI cR o z u ++ (ra_w cI ob ad u)) (cells' := 0) (slots' := 0) rfl rfl C S.1 S.2.1 S.2.2 (fun hPb hDb => g_runS (wr := (rs_w cI cR o z u ++ (ra_w cI ob ad u)) ++ []) (n := 2) (As := [.int (x >>> (3 &&& 31)), .int 2000]) C (mL_below l D t cI cR cB H.size (x >>> (3 &&& 31)) 2000 (by decide) (by decide)) (rw_S q41 q42 q25 q43) kd_L_below ⟨Nat.le_of_ble_eq_true rfl, Nat.le_of_ble_eq_true rfl⟩ C.2.2.2.2.2.1 hPb hDb S.2.2 hl.1 rfl rfl (Nat.le_of_ble_eq_true rfl) dL_act_435 ⟨Nat.le_of_ble_eq_true rfl, Nat.le_of_ble_eq_true rfl⟩) (fun v w' H locs hv _ hP9 hD9 hS9 => ?_)
    obtain ⟨⟨j7, hj7, rfl⟩, rfl⟩ := hv
    have S : sS D A s cI cR o z u (ra_w cI ob ad u) H locs := ⟨hP9, hD9, hS9⟩
    refine lv_iadd hx hb dL_act_438 ?_
    refine g_top (nI_add 1 j7) ?_
    refine lv_istore (lv' := [(12, .int (nI (1 + j7))), (0, .ref ob), (1, .ref o), (2, .int x), (3, .int (nI u.2.1)), (4, .int (nI k)), (5, .ref (z.2.1 k))]) hx hb dL_act_439 hl (by decide) rfl (fun ls hl => ?_)
    refine lv_aload hx hb dL_act_441 (lv_at hl 6 rfl) ?_
    refine r_gf C S 4 k (by decide) hk (v := .int (u.1 4 k)) rfl rfl q56 dL_act_443 ?_
    refine lv_iload hx hb dL_act_446 (lv_at hl 0 rfl) ?_
    refine lv_iadd hx hb dL_act_448 ?_
    refine lv_sipush (v := 5000) hx hb dL_act_449 (by decide) ?_
    refine lv_icmp_le (tgt := 457) hx hb dL_act_452 (by decide) (fun c8 => ?_) (fun c8 => ?_)
    · refine lv_aload hx hb dL_act_457 (lv_at hl 6 rfl) ?_
      refine lv_dup hx hb dL_act_459 rfl ?_
      refine r_gf C S 4 k (by decide) hk (v := .int (u.1 4 k)) rfl rfl q56 dL_act_460 ?_
      refine lv_iload hx hb dL_act_463 (lv_at hl 0 rfl) ?_
      refine lv_iadd hx hb dL_act_465 ?_
      refine r_pf C S 4 k (by decide) hk rfl rfl (by decide +kernel) q56 dL_act_466 (fun H locs S => ?_)
      refine lv_aload_n hx hb dL_act_469 rfl (lv_at hl 1 rfl) ?_
      refine lv_iload hx hb dL_act_470 (lv_at hl 5 rfl) ?_
      refine lv_iload hx hb dL_act_472 (lv_at hl 0 rfl) ?_
      refine m_ci (wa := rs_w cI cR o z (ra_s u 4 k ((u.1 4 k) + (nI (1 + j7))))) (wb := ra_w cI ob ad u) (wd := []) (cells' := 0) (slots' := 0) rfl rfl C S.1 S.2.1 S.2.2 (fun hPb hDb => g_runV (wr := ([]) ++ rs_w cI cR o z (ra_s u 4 k ((u.1 4 k) + (nI (1 + j7))))) (n := 2) (As := [.int (nI k), .int (nI (1 + j7))]) C (mX0_lend l D t cI ob ad H.size u hu8 k hk (nI (1 + j7)) (mv_1 (by omega) (by omega)) (nI_le (b := 2000) (by omega) (by omega)) (Int32.not_lt.mpr c8)) (rw_V q102 q103 q104 q2 q105) kd_X0_lend ⟨Nat.le_of_ble_eq_true rfl, Nat.le_of_ble_eq_true rfl⟩ (ci := 0) rfl rfl rfl (C.2.2.2.2.2.1.sub (tys' := [(cI, .int)]) [0] rfl) hPb hDb S.2.2 hl.1 rfl rfl (Nat.le_of_ble_eq_true rfl) dL_act_474 ⟨Nat.le_of_ble_eq_true rfl, Nat.le_of_ble_eq_true rfl⟩) (fun v w' H locs hv _ hP9 hD9 hS9 => ?_)
      obtain ⟨rfl, rfl⟩ := hv
      have S : sS D A s cI cR o z (ra_s u 4 k ((u.1 4 k) + (nI (1 + j7)))) (ra_w cI ob ad (ra_s u 4 k (u.1 4 k + nI (1 + j7)))) H locs := ⟨hP9, hD9, hS9⟩
      refine lv_aload hx hb dL_act_477 (lv_at hl 6 rfl) ?_
      refine r_gf C S 4 k (by decide) hk (v := .int ((ra_s u 4 k ((u.1 4 k) + (nI (1 + j7)))).1 4 k)) rfl rfl q56 dL_act_479 ?_
      refine g_top (y := (u.1 4 k) + (nI (1 + j7))) ra_sS ?_
      refine lv_icmp_ne (tgt := 489) hx hb dL_act_482 (by decide) (fun c9 => absurd rfl c9) (fun c9 => ?_)
      refine lv_iconst (v := 1) hx hb dL_act_485 (by decide) ?_
      refine lv_goto (tgt := 490) hx hb dL_act_486 (by decide) ?_
      refine W.widen (k := 20) (n := 70) (Nat.le_of_ble_eq_true rfl) (Nat.le_of_ble_eq_true rfl) ?_
      exact g_zret C hrt rfl S.1 S.2.1 S.2.2 dL_act_490 ⟨rfl, z, ra_s u 4 k ((u.1 4 k) + (nI (1 + j7))), rB_lend B hT1 hk (Int32.not_lt.mpr c8) (by omega), rfl⟩
    · refine lv_iconst (v := 1) hx hb dL_act_455 (by decide) ?_
      refine W.widen (k := 20) (n := 70) (Nat.le_of_ble_eq_true rfl) (Nat.le_of_ble_eq_true rfl) ?_
      exact g_zret C hrt rfl S.1 S.2.1 S.2.2 dL_act_456 ⟨rfl, z, u, B.up hT1, rfl⟩
set_option maxHeartbeats 4000000 in
set_option maxRecDepth 100000 in
theorem act_work0 {p : Program} {l : Launch} {e : Env} {s : State} {m : MethodId} {args : Array Value} {below : List Frame} {meth : Method} {c : Code} {D : va_G} {t : Nat → Nat} {A : Nat → Prop} {H : Heap} {locs : List Loc} {ls : Array Slot} {cI cR cB : ClassId} {o ob T : Nat} {ad : Nat → Nat} {x : Int32} {z : SA} {u : S0}  (C : gC p s m args meth c cL_act 15 RL D (ty3 cI cR cB) t A) (hrt : meth.sig.returnType = some .boolean) (B : rB T u) (hT1 : T + 1 ≤ 400) (hn : u.2.1 = 0) (S : sS D A s cI cR o z u (ra_w cI ob ad u) H locs) (hl : lv_has ls 15 [(0, .ref ob), (1, .ref o), (2, .int x), (3, .int (nI u.2.1))]) : W p l e (rm_ 7 20 70 156) s m args below meth c H locs 0 0 (MQ below (va_Qi (fun r w' => r = 1 ∧ ∃ (z' : SA) (u' : S0), rB (T + 1) u' ∧ w' = rs_w cI cR o z' u' ++ ra_w cI ob ad u') (fun w' U => gQ D A w' U) A) args s 20 70 A) (F0 m 518 ls []) := by
  have hx := C.1
  have hb := C.2.1
  have hown := C.2.2.2.1
  have hts := C.2.2.2.2.1
  have hu8 : u.2.1 ≤ 8 := B.1
  refine lv_iload_n hx hb dL_act_518 rfl (lv_at hl 3 rfl) ?_
  refine lv_if_ne (tgt := 524) hx hb dL_act_519 (by decide) (fun c1 => absurd ((nI_eq (a := u.2.1) (b := 0) (by omega) (by omega)).mpr (by omega)) c1) (fun c1 => ?_)
  refine lv_iconst (v := 1) hx hb dL_act_522 (by decide) ?_
  refine W.widen (k := 20) (n := 70) (Nat.le_of_ble_eq_true rfl) (Nat.le_of_ble_eq_true rfl) ?_
  exact g_zret C hrt rfl S.1 S.2.1 S.2.2 dL_act_523 ⟨rfl, z, u, B.up hT1, rfl⟩
set_option maxHeartbeats 4000000 in
set_option maxRecDepth 100000 in
theorem act_work {p : Program} {l : Launch} {e : Env} {s : State} {m : MethodId} {args : Array Value} {below : List Frame} {meth : Method} {c : Code} {D : va_G} {t : Nat → Nat} {A : Nat → Prop} {H : Heap} {locs : List Loc} {ls : Array Slot} {cI cR cB : ClassId} {o ob T : Nat} {ad : Nat → Nat} {x : Int32} {z : SA} {u : S0} {k : Nat} (C : gC p s m args meth c cL_act 15 RL D (ty3 cI cR cB) t A) (hrt : meth.sig.returnType = some .boolean) (B : rB T u) (hT1 : T + 1 ≤ 400) (hk : k < u.2.1) (S : sS D A s cI cR o z u (ra_w cI ob ad u) H locs) (hl : lv_has ls 15 [(0, .ref ob), (1, .ref o), (2, .int x), (3, .int (nI u.2.1)), (4, .int (nI k)), (5, .ref (z.2.1 k))]) : W p l e (rm_ 7 20 70 156) s m args below meth c H locs 0 0 (MQ below (va_Qi (fun r w' => r = 1 ∧ ∃ (z' : SA) (u' : S0), rB (T + 1) u' ∧ w' = rs_w cI cR o z' u' ++ ra_w cI ob ad u') (fun w' U => gQ D A w' U) A) args s 20 70 A) (F0 m 518 ls []) := by
  have hx := C.1
  have hb := C.2.1
  have hown := C.2.2.2.1
  have hts := C.2.2.2.2.1
  have hu8 : u.2.1 ≤ 8 := B.1
  refine lv_iload_n hx hb dL_act_518 rfl (lv_at hl 3 rfl) ?_
  refine lv_if_ne (tgt := 524) hx hb dL_act_519 (by decide) (fun c1 => ?_) (fun c1 => absurd c1 (fun h9 => absurd ((nI_eq (a := u.2.1) (b := 0) (by omega) (by omega)).mp h9) (by omega)))
  refine lv_iload_n hx hb dL_act_524 rfl (lv_at hl 2 rfl) ?_
  refine lv_iconst (v := 3) hx hb dL_act_525 (by decide) ?_
  refine lv_ishr hx hb dL_act_526 ?_
  refine lv_bipush (v := 17) hx hb dL_act_527 (by decide) ?_
  refine m_ci (wa := []) (wb := []) (wd := rs_w cI cR o z u ++ (ra_w cI ob ad u)) (cells' := 0) (slots' := 0) rfl rfl C S.1 S.2.1 S.2.2 (fun hPb hDb => g_runS (wr := (rs_w cI cR o z u ++ (ra_w cI ob ad u)) ++ []) (n := 2) (As := [.int (x >>> (3 &&& 31)), .int 17]) C (mL_below l D t cI cR cB H.size (x >>> (3 &&& 31)) 17 (by decide) (by decide)) (rw_S q41 q42 q25 q43) kd_L_below ⟨Nat.le_of_ble_eq_true rfl, Nat.le_of_ble_eq_true rfl⟩ C.2.2.2.2.2.1 hPb hDb S.2.2 hl.1 rfl rfl (Nat.le_of_ble_eq_true rfl) dL_act_529 ⟨Nat.le_of_ble_eq_true rfl, Nat.le_of_ble_eq_true rfl⟩) (fun v w' H locs hv _ hP9 hD9 hS9 => ?_)
  obtain ⟨⟨j2, hj2, rfl⟩, rfl⟩ := hv
  have S : sS D A s cI cR o z u (ra_w cI ob ad u) H locs := ⟨hP9, hD9, hS9⟩
  refine lv_istore (lv' := [(13, .int (nI j2)), (0, .ref ob), (1, .ref o), (2, .int x), (3, .int (nI u.2.1)), (4, .int (nI k)), (5, .ref (z.2.1 k))]) hx hb dL_act_532 hl (by decide) rfl (fun ls hl => ?_)
  refine lv_aload hx hb dL_act_534 (lv_at hl 6 rfl) ?_
  refine r_gf C S 2 k (by decide) hk (v := .int (u.1 2 k)) rfl rfl q57 dL_act_536 ?_
  refine lv_iload hx hb dL_act_539 (lv_at hl 0 rfl) ?_
  refine lv_iadd hx hb dL_act_541 ?_
  refine lv_bipush (v := 99) hx hb dL_act_542 (by decide) ?_
  refine lv_icmp_le (tgt := 549) hx hb dL_act_544 (by decide) (fun c3 => ?_) (fun c3 => ?_)
  · refine lv_iload_n hx hb dL_act_549 rfl (lv_at hl 3 rfl) ?_
    refine lv_iconst (v := 2) hx hb dL_act_550 (by decide) ?_
    refine lv_ishr hx hb dL_act_551 ?_
    refine lv_iconst (v := 3) hx hb dL_act_552 (by decide) ?_
    refine m_ci (wa := []) (wb := []) (wd := rs_w cI cR o z u ++ (ra_w cI ob ad u)) (cells' := 0) (slots' := 0) rfl rfl C S.1 S.2.1 S.2.2 (fun hPb hDb => g_runS (wr := (rs_w cI cR o z u ++ (ra_w cI ob ad u)) ++ []) (n := 2) (As := [.int (x >>> (2 &&& 31)), .int 3]) C (mL_below l D t cI cR cB H.size (x >>> (2 &&& 31)) 3 (by decide) (by decide)) (rw_S q41 q42 q25 q43) kd_L_below ⟨Nat.le_of_ble_eq_true rfl, Nat.le_of_ble_eq_true rfl⟩ C.2.2.2.2.2.1 hPb hDb S.2.2 hl.1 rfl rfl (Nat.le_of_ble_eq_true rfl) dL_act_553 ⟨Nat.le_of_ble_eq_true rfl, Nat.le_of_ble_eq_true rfl⟩) (fun v w' H locs hv _ hP9 hD9 hS9 => ?_)
    obtain ⟨⟨j4, hj4, rfl⟩, rfl⟩ := hv
    have S : sS D A s cI cR o z u (ra_w cI ob ad u) H locs := ⟨hP9, hD9, hS9⟩
    refine lv_if_ne (tgt := 563) hx hb dL_act_556 (by decide) (fun c5 => ?_) (fun c5 => ?_)
    · refine lv_iconst (v := 0) hx hb dL_act_563 (by decide) ?_
      refine lv_istore (lv' := [(14, .int 0), (13, .int (nI j2)), (0, .ref ob), (1, .ref o), (2, .int x), (3, .int (nI u.2.1)), (4, .int (nI k)), (5, .ref (z.2.1 k))]) hx hb dL_act_564 hl (by decide) rfl (fun ls hl => ?_)
      refine lv_aload hx hb dL_act_566 (lv_at hl 7 rfl) ?_
      refine lv_dup hx hb dL_act_568 rfl ?_
      refine r_gf C S 2 k (by decide) hk (v := .int (u.1 2 k)) rfl rfl q57 dL_act_569 ?_
      refine lv_iload hx hb dL_act_572 (lv_at hl 1 rfl) ?_
      refine lv_iadd hx hb dL_act_574 ?_
      refine r_pf C S 2 k (by decide) hk rfl rfl (by decide +kernel) q57 dL_act_575 (fun H locs S => ?_)
      refine lv_aload hx hb dL_act_578 (lv_at hl 7 rfl) ?_
      refine lv_dup hx hb dL_act_580 rfl ?_
      refine r_gf C S 3 k (by decide) hk (v := .int ((ra_s u 2 k ((u.1 2 k) + (nI j2))).1 3 k)) rfl rfl q58 dL_act_581 ?_
      refine g_top (y := u.1 3 k) (congrFun (ra_sN (by decide)) k) ?_
      refine lv_iload hx hb dL_act_584 (lv_at hl 0 rfl) ?_
      refine lv_if_eq (tgt := 593) hx hb dL_act_586 (by decide) (fun c6 => ?_) (fun c6 => absurd (by decide) c6)
      refine lv_iconst (v := 0) hx hb dL_act_593 (by decide) ?_
      refine lv_iadd hx hb dL_act_594 ?_
      refine r_pf C S 3 k (by decide) hk rfl rfl (by decide +kernel) q58 dL_act_595 (fun H locs S => ?_)
      rw [i32_0, wk_s (show u.1 3 k = (ra_s u 2 k ((u.1 2 k) + (nI j2))).1 3 k from (congrFun (ra_sN (by decide)) k).symm)] at S
      refine lv_aload_n hx hb dL_act_598 rfl (lv_at hl 2 rfl) ?_
      refine lv_iload hx hb dL_act_599 (lv_at hl 6 rfl) ?_
      refine lv_iload hx hb dL_act_601 (lv_at hl 1 rfl) ?_
      refine lv_iload hx hb dL_act_603 (lv_at hl 0 rfl) ?_
      refine m_ci (wa := rs_w cI cR o z (ra_s u 2 k ((u.1 2 k) + (nI j2)))) (wb := ra_w cI ob ad u) (wd := []) (cells' := 0) (slots' := 0) rfl rfl C S.1 S.2.1 S.2.2 (fun hPb hDb => g_runV (wr := ([]) ++ rs_w cI cR o z (ra_s u 2 k ((u.1 2 k) + (nI j2)))) (n := 3) (As := [.int (nI k), .int (nI j2), .int 0]) C (mX0_work l D t cI ob ad H.size u hu8 k hk (nI j2) 0 (nI_pos (by omega)) (nI_le (b := 16) (by omega) (by omega)) (Int32.not_lt.mpr c3)) (rw_V q188 q189 q190 q2 q191) kd_X0_work ⟨Nat.le_of_ble_eq_true rfl, Nat.le_of_ble_eq_true rfl⟩ (ci := 0) rfl rfl rfl (C.2.2.2.2.2.1.sub (tys' := [(cI, .int)]) [0] rfl) hPb hDb S.2.2 hl.1 rfl rfl (Nat.le_of_ble_eq_true rfl) dL_act_605 ⟨Nat.le_of_ble_eq_true rfl, Nat.le_of_ble_eq_true rfl⟩) (fun v w' H locs hv _ hP9 hD9 hS9 => ?_)
      obtain ⟨rfl, rfl⟩ := hv
      have S : sS D A s cI cR o z (ra_s u 2 k ((u.1 2 k) + (nI j2))) (ra_w cI ob ad (rf_wk u k (nI j2) 0)) H locs := ⟨hP9, hD9, hS9⟩
      rw [wk_0] at S
      refine lv_aload hx hb dL_act_608 (lv_at hl 7 rfl) ?_
      refine r_gf C S 2 k (by decide) hk (v := .int ((ra_s u 2 k ((u.1 2 k) + (nI j2))).1 2 k)) rfl rfl q57 dL_act_610 ?_
      refine g_top (y := (u.1 2 k) + (nI j2)) ra_sS ?_
      refine lv_icmp_ne (tgt := 620) hx hb dL_act_613 (by decide) (fun c7 => absurd rfl c7) (fun c7 => ?_)
      refine lv_iconst (v := 1) hx hb dL_act_616 (by decide) ?_
      refine lv_goto (tgt := 621) hx hb dL_act_617 (by decide) ?_
      refine W.widen (k := 20) (n := 70) (Nat.le_of_ble_eq_true rfl) (Nat.le_of_ble_eq_true rfl) ?_
      exact g_zret C hrt rfl S.1 S.2.1 S.2.2 dL_act_621 ⟨rfl, z, ra_s u 2 k ((u.1 2 k) + (nI j2)), rB_hours B hT1 hk (Int32.not_lt.mpr c3) (by omega), rfl⟩
    · refine lv_iconst (v := 1) hx hb dL_act_559 (by decide) ?_
      refine lv_goto (tgt := 564) hx hb dL_act_560 (by decide) ?_
      refine lv_istore (lv' := [(14, .int 1), (13, .int (nI j2)), (0, .ref ob), (1, .ref o), (2, .int x), (3, .int (nI u.2.1)), (4, .int (nI k)), (5, .ref (z.2.1 k))]) hx hb dL_act_564 hl (by decide) rfl (fun ls hl => ?_)
      refine lv_aload hx hb dL_act_566 (lv_at hl 7 rfl) ?_
      refine lv_dup hx hb dL_act_568 rfl ?_
      refine r_gf C S 2 k (by decide) hk (v := .int (u.1 2 k)) rfl rfl q57 dL_act_569 ?_
      refine lv_iload hx hb dL_act_572 (lv_at hl 1 rfl) ?_
      refine lv_iadd hx hb dL_act_574 ?_
      refine r_pf C S 2 k (by decide) hk rfl rfl (by decide +kernel) q57 dL_act_575 (fun H locs S => ?_)
      refine lv_aload hx hb dL_act_578 (lv_at hl 7 rfl) ?_
      refine lv_dup hx hb dL_act_580 rfl ?_
      refine r_gf C S 3 k (by decide) hk (v := .int ((ra_s u 2 k ((u.1 2 k) + (nI j2))).1 3 k)) rfl rfl q58 dL_act_581 ?_
      refine g_top (y := u.1 3 k) (congrFun (ra_sN (by decide)) k) ?_
      refine lv_iload hx hb dL_act_584 (lv_at hl 0 rfl) ?_
      refine lv_if_eq (tgt := 593) hx hb dL_act_586 (by decide) (fun c8 => absurd c8 (by decide)) (fun c8 => ?_)
      refine lv_iconst (v := 1) hx hb dL_act_589 (by decide) ?_
      refine lv_goto (tgt := 594) hx hb dL_act_590 (by decide) ?_
      refine lv_iadd hx hb dL_act_594 ?_
      refine r_pf C S 3 k (by decide) hk rfl rfl (by decide +kernel) q58 dL_act_595 (fun H locs S => ?_)
      refine lv_aload_n hx hb dL_act_598 rfl (lv_at hl 2 rfl) ?_
      refine lv_iload hx hb dL_act_599 (lv_at hl 6 rfl) ?_
      refine lv_iload hx hb dL_act_601 (lv_at hl 1 rfl) ?_
      refine lv_iload hx hb dL_act_603 (lv_at hl 0 rfl) ?_
      refine m_ci (wa := rs_w cI cR o z (ra_s (ra_s u 2 k ((u.1 2 k) + (nI j2))) 3 k ((u.1 3 k) + 1))) (wb := ra_w cI ob ad u) (wd := []) (cells' := 0) (slots' := 0) rfl rfl C S.1 S.2.1 S.2.2 (fun hPb hDb => g_runV (wr := ([]) ++ rs_w cI cR o z (ra_s (ra_s u 2 k ((u.1 2 k) + (nI j2))) 3 k ((u.1 3 k) + 1))) (n := 3) (As := [.int (nI k), .int (nI j2), .int 1]) C (mX0_work l D t cI ob ad H.size u hu8 k hk (nI j2) 1 (nI_pos (by omega)) (nI_le (b := 16) (by omega) (by omega)) (Int32.not_lt.mpr c3)) (rw_V q188 q189 q190 q2 q191) kd_X0_work ⟨Nat.le_of_ble_eq_true rfl, Nat.le_of_ble_eq_true rfl⟩ (ci := 0) rfl rfl rfl (C.2.2.2.2.2.1.sub (tys' := [(cI, .int)]) [0] rfl) hPb hDb S.2.2 hl.1 rfl rfl (Nat.le_of_ble_eq_true rfl) dL_act_605 ⟨Nat.le_of_ble_eq_true rfl, Nat.le_of_ble_eq_true rfl⟩) (fun v w' H locs hv _ hP9 hD9 hS9 => ?_)
      obtain ⟨rfl, rfl⟩ := hv
      have S : sS D A s cI cR o z (ra_s (ra_s u 2 k ((u.1 2 k) + (nI j2))) 3 k ((u.1 3 k) + 1)) (ra_w cI ob ad (rf_wk u k (nI j2) 1)) H locs := ⟨hP9, hD9, hS9⟩
      rw [wk_1] at S
      refine lv_aload hx hb dL_act_608 (lv_at hl 7 rfl) ?_
      refine r_gf C S 2 k (by decide) hk (v := .int ((ra_s (ra_s u 2 k ((u.1 2 k) + (nI j2))) 3 k ((u.1 3 k) + 1)).1 2 k)) rfl rfl q57 dL_act_610 ?_
      refine g_top (y := (u.1 2 k) + (nI j2)) ((congrFun (ra_sN (by decide)) k).trans ra_sS) ?_
      refine lv_icmp_ne (tgt := 620) hx hb dL_act_613 (by decide) (fun c9 => absurd rfl c9) (fun c9 => ?_)
      refine lv_iconst (v := 1) hx hb dL_act_616 (by decide) ?_
      refine lv_goto (tgt := 621) hx hb dL_act_617 (by decide) ?_
      refine W.widen (k := 20) (n := 70) (Nat.le_of_ble_eq_true rfl) (Nat.le_of_ble_eq_true rfl) ?_
      exact g_zret C hrt rfl S.1 S.2.1 S.2.2 dL_act_621 ⟨rfl, z, ra_s (ra_s u 2 k ((u.1 2 k) + (nI j2))) 3 k ((u.1 3 k) + 1), rB_work B hT1 hk (Int32.not_lt.mpr c3) (by omega), rfl⟩
  · refine lv_iconst (v := 1) hx hb dL_act_547 (by decide) ?_
    refine W.widen (k := 20) (n := 70) (Nat.le_of_ble_eq_true rfl) (Nat.le_of_ble_eq_true rfl) ?_
    exact g_zret C hrt rfl S.1 S.2.1 S.2.2 dL_act_548 ⟨rfl, z, u, B.up hT1, rfl⟩
set_option maxHeartbeats 4000000 in
set_option maxRecDepth 100000 in
theorem act_pay {p : Program} {l : Launch} {e : Env} {s : State} {m : MethodId} {args : Array Value} {below : List Frame} {meth : Method} {c : Code} {D : va_G} {t : Nat → Nat} {A : Nat → Prop} {H : Heap} {locs : List Loc} {ls : Array Slot} {cI cR cB : ClassId} {o ob T : Nat} {ad : Nat → Nat} {x : Int32} {z : SA} {u : S0}  (C : gC p s m args meth c cL_act 15 RL D (ty3 cI cR cB) t A) (hrt : meth.sig.returnType = some .boolean) (B : rB T u) (hT1 : T + 1 ≤ 400)  (S : sS D A s cI cR o z u (ra_w cI ob ad u) H locs) (hl : lv_has ls 15 [(0, .ref ob), (1, .ref o), (2, .int x), (3, .int (nI u.2.1))]) : W p l e (rm_ 7 20 70 156) s m args below meth c H locs 0 0 (MQ below (va_Qi (fun r w' => r = 1 ∧ ∃ (z' : SA) (u' : S0), rB (T + 1) u' ∧ w' = rs_w cI cR o z' u' ++ ra_w cI ob ad u') (fun w' U => gQ D A w' U) A) args s 20 70 A) (F0 m 491 ls []) := by
  have hx := C.1
  have hb := C.2.1
  have hown := C.2.2.2.1
  have hts := C.2.2.2.2.1
  have hu8 : u.2.1 ≤ 8 := B.1
  refine lv_iload_n hx hb dL_act_491 rfl (lv_at hl 2 rfl) ?_
  refine lv_iconst (v := 2) hx hb dL_act_492 (by decide) ?_
  refine m_ci (wa := []) (wb := []) (wd := rs_w cI cR o z u ++ (ra_w cI ob ad u)) (cells' := 0) (slots' := 0) rfl rfl C S.1 S.2.1 S.2.2 (fun hPb hDb => g_runS (wr := (rs_w cI cR o z u ++ (ra_w cI ob ad u)) ++ []) (n := 2) (As := [.int x, .int 2]) C (mL_below l D t cI cR cB H.size x 2 (by decide) (by decide)) (rw_S q41 q42 q25 q43) kd_L_below ⟨Nat.le_of_ble_eq_true rfl, Nat.le_of_ble_eq_true rfl⟩ C.2.2.2.2.2.1 hPb hDb S.2.2 hl.1 rfl rfl (Nat.le_of_ble_eq_true rfl) dL_act_493 ⟨Nat.le_of_ble_eq_true rfl, Nat.le_of_ble_eq_true rfl⟩) (fun v w' H locs hv _ hP9 hD9 hS9 => ?_)
  obtain ⟨⟨j1, hj1, rfl⟩, rfl⟩ := hv
  have S : sS D A s cI cR o z u (ra_w cI ob ad u) H locs := ⟨hP9, hD9, hS9⟩
  refine lv_if_ne (tgt := 501) hx hb dL_act_496 (by decide) (fun c2 => ?_) (fun c2 => ?_)
  · refine lv_aload_n hx hb dL_act_501 rfl (lv_at hl 0 rfl) ?_
    refine m_ci (wa := rs_w cI cR o z u) (wb := ra_w cI ob ad u) (wd := []) (cells' := 0) (slots' := 0) rfl rfl C S.1 S.2.1 S.2.2 (fun hPb hDb => g_runV (wr := ([]) ++ rs_w cI cR o z u) (n := 0) (As := []) C (mX0_pay l D t cI ob ad H.size u hu8) (rw_V q106 q107 q108 q2 q109) kd_X0_pay ⟨Nat.le_of_ble_eq_true rfl, Nat.le_of_ble_eq_true rfl⟩ (ci := 0) rfl rfl rfl (C.2.2.2.2.2.1.sub (tys' := [(cI, .int)]) [0] rfl) hPb hDb S.2.2 hl.1 rfl rfl (Nat.le_of_ble_eq_true rfl) dL_act_502 ⟨Nat.le_of_ble_eq_true rfl, Nat.le_of_ble_eq_true rfl⟩) (fun v w' H locs hv _ hP9 hD9 hS9 => ?_)
    obtain ⟨rfl, rfl⟩ := hv
    have S : sS D A s cI cR o z u (ra_w cI ob ad ((rf_py u u.2.1).2.1, (rf_py u u.2.1).2.2.1, (rf_py u u.2.1).2.2.2 + 1)) H locs := ⟨hP9, hD9, hS9⟩
    refine lv_aload_n hx hb dL_act_505 rfl (lv_at hl 1 rfl) ?_
    refine m_ci (wa := []) (wb := rs_w cI cR o z u) (wd := ra_w cI ob ad ((rf_py u u.2.1).2.1, (rf_py u u.2.1).2.2.1, (rf_py u u.2.1).2.2.2 + 1)) (cells' := 17) (slots' := 56) rfl rfl C S.1 S.2.1 S.2.2 (fun hPb hDb => g_runVj (n := 0) (As := []) C (mX2_pay l D t cI cR cB o z H.size u T B hT1) (rw_V q155 q156 q157 q29 q158) kd_X2_pay ⟨Nat.le_of_ble_eq_true rfl, Nat.le_of_ble_eq_true rfl⟩ (ci := 2) rfl rfl 0 rfl C.2.2.2.2.2.1 hPb hDb S.2.2 hl.1 rfl rfl (Nat.le_of_ble_eq_true rfl) dL_act_506 ⟨Nat.le_of_ble_eq_true rfl, Nat.le_of_ble_eq_true rfl⟩) (fun v w' H locs hv _ hP9 hD9 hS9 => ?_)
    obtain ⟨rfl, h9, r9, g9, -, rfl⟩ := hv
    have S : sS D A s cI cR o (z.1, z.2.1, some h9) (rf_pay u) (ra_w cI ob ad ((rf_py u u.2.1).2.1, (rf_py u u.2.1).2.2.1, (rf_py u u.2.1).2.2.2 + 1)) H locs := by
      have S9 : sS D A s cI cR o (z.1, z.2.1, some h9) (rf_pay u) (hw_w cI cB h9 u.2.1 r9 g9 ++ (ra_w cI ob ad ((rf_py u u.2.1).2.1, (rf_py u u.2.1).2.2.1, (rf_py u u.2.1).2.2.2 + 1))) H locs := by rw [List.append_assoc] at hP9 hD9; exact ⟨hP9, hD9, hS9⟩
      exact S9.swap.drop
    rw [pay_eq B] at S
    refine lv_icmp_ne (tgt := 516) hx hb dL_act_509 (by decide) (fun c3 => absurd rfl c3) (fun c3 => ?_)
    refine lv_iconst (v := 1) hx hb dL_act_512 (by decide) ?_
    refine lv_goto (tgt := 517) hx hb dL_act_513 (by decide) ?_
    refine W.widen (k := 20) (n := 70) (Nat.le_of_ble_eq_true rfl) (Nat.le_of_ble_eq_true rfl) ?_
    exact g_zret C hrt rfl S.1 S.2.1 S.2.2 dL_act_517 ⟨rfl, (z.1, z.2.1, some h9), (rf_pay u), rB_pay B hT1, rfl⟩
  · refine lv_iconst (v := 1) hx hb dL_act_499 (by decide) ?_
    refine W.widen (k := 20) (n := 70) (Nat.le_of_ble_eq_true rfl) (Nat.le_of_ble_eq_true rfl) ?_
    exact g_zret C hrt rfl S.1 S.2.1 S.2.2 dL_act_500 ⟨rfl, z, u, B.up hT1, rfl⟩
set_option maxHeartbeats 4000000 in
set_option maxRecDepth 100000 in
theorem lpL_act {p : Program} {l : Launch} {e : Env} {s : State} {m : MethodId} {args : Array Value} {below : List Frame} {meth : Method} {c : Code} {Q : State → Prop} {D : va_G} {t : Nat → Nat} {A : Nat → Prop} {cI cR cB : ClassId} {o ob m9 : Nat} {ad : Nat → Nat} {x : Int32} {z : SA} {u : S0} (C : gC p s m args meth c cL_act 15 RL D (ty3 cI cR cB) t A) (hu8 : u.2.1 ≤ 8) (kk : ∀ (H : Heap) (locs : List Loc) (ls : Array Slot), sS D A s cI cR o z u (ra_w cI ob ad u ++ [(m9, .inl (cR, u.2.1 + 1, .inr (.inr (.inr (.inr (fun k => if k < u.2.1 then some (z.2.1 k) else none))))))]) H locs → lv_has ls 15 [(0, .ref ob), (1, .ref o), (2, .int x), (3, .int (nI u.2.1)), (6, .ref m9), (7, .int (nI u.2.1))] → W p l e (rm_ 7 20 70 156) s m args below meth c H locs 1 9 Q (F0 m 151 ls [])) :
    ∀ (n i : Nat), i + n = u.2.1 → ∀ (H : Heap) (locs : List Loc) (ls : Array Slot), sS D A s cI cR o z u (ra_w cI ob ad u ++ [(m9, .inl (cR, u.2.1 + 1, .inr (.inr (.inr (.inr (fun k => if k < i then some (z.2.1 k) else none))))))]) H locs → lv_has ls 15 [(0, .ref ob), (1, .ref o), (2, .int x), (3, .int (nI u.2.1)), (6, .ref m9), (7, .int (nI i))] → W p l e (rm_ 7 20 70 156) s m args below meth c H locs 1 9 Q (F0 m 127 ls []) := by
  have hx := C.1
  have hb := C.2.1
  have hown := C.2.2.2.1
  have hts := C.2.2.2.2.1
  intro n
  induction n with
  | zero =>
    intro i hi H locs ls S hl
    have hiN : i = u.2.1 := by omega
    refine lv_iload hx hb dL_act_127 (lv_at hl 5 rfl) ?_
    refine lv_iload_n hx hb dL_act_129 rfl (lv_at hl 3 rfl) ?_
    refine lv_icmp_ge (tgt := 151) hx hb dL_act_130 (by decide) (fun c1 => ?_) (fun c1 => absurd ((nI_leI (a := u.2.1) (b := i) (by omega) (by omega)).mpr (by omega)) c1)
    rw [hiN] at S hl
    exact kk _ _ _ S (lv_sub hl [0, 1, 2, 3, 4, 5] rfl)
  | succ n ih =>
    intro i hi H locs ls S hl
    have hin : i < u.2.1 := by omega
    refine lv_iload hx hb dL_act_127 (lv_at hl 5 rfl) ?_
    refine lv_iload_n hx hb dL_act_129 rfl (lv_at hl 3 rfl) ?_
    refine lv_icmp_ge (tgt := 151) hx hb dL_act_130 (by decide) (fun c1 => absurd c1 (fun h9 => absurd ((nI_leI (a := u.2.1) (b := i) (by omega) (by omega)).mp h9) (by omega))) (fun c1 => ?_)
    refine lv_aload hx hb dL_act_133 (lv_at hl 4 rfl) ?_
    refine lv_iload hx hb dL_act_135 (lv_at hl 5 rfl) ?_
    refine lv_aload_n hx hb dL_act_137 rfl (lv_at hl 1 rfl) ?_
    refine s_gf C S 3 (by decide) (v := .ref (z.1 2)) rfl rfl q48 dL_act_138 ?_
    refine lv_iload hx hb dL_act_141 (lv_at hl 5 rfl) ?_
    refine s_al C S hu8 hin rfl dL_act_143 ?_
    refine x_ast C S 13 (4 + i) (n := u.2.1 + 1) (i := i) (f := fun k => if k < i then some (z.2.1 k) else none) rfl (rs_rpX hin) (by omega) (by omega) rfl dL_act_144 (fun H locs S => ?_)
    rw [hr_up rfl] at S
    have S : sS D A s cI cR o z u (ra_w cI ob ad u ++ [(m9, .inl (cR, u.2.1 + 1, .inr (.inr (.inr (.inr (fun k => if k < (i + 1) then some (z.2.1 k) else none))))))]) H locs := S
    refine lv_iinc (v := nI (i + 1)) (lv' := [(7, .int (nI (i + 1))), (0, .ref ob), (1, .ref o), (2, .int x), (3, .int (nI u.2.1)), (6, .ref m9)]) hx hb dL_act_145 hl (k := 5) rfl (nI_1 _) (by decide) rfl (fun ls hl => ?_)
    refine lv_goto (tgt := 127) hx hb dL_act_148 (by decide) ?_
    exact ih (i + 1) (by omega) _ _ _ S (lv_sub hl [1, 2, 3, 4, 5, 0] rfl)
set_option maxHeartbeats 4000000 in
set_option maxRecDepth 100000 in
theorem act_hire {p : Program} {l : Launch} {e : Env} {s : State} {m : MethodId} {args : Array Value} {below : List Frame} {meth : Method} {c : Code} {D : va_G} {t : Nat → Nat} {A : Nat → Prop} {H : Heap} {locs : List Loc} {ls : Array Slot} {cI cR cB : ClassId} {o ob T : Nat} {ad : Nat → Nat} {x : Int32} {z : SA} {u : S0}  (C : gC p s m args meth c cL_act 15 RL D (ty3 cI cR cB) t A) (hrt : meth.sig.returnType = some .boolean) (B : rB T u) (hT1 : T + 1 ≤ 400)  (S : sS D A s cI cR o z u (ra_w cI ob ad u) H locs) (hl : lv_has ls 15 [(0, .ref ob), (1, .ref o), (2, .int x), (3, .int (nI u.2.1))]) : W p l e (rm_ 7 20 70 156) s m args below meth c H locs 0 0 (MQ below (va_Qi (fun r w' => r = 1 ∧ ∃ (z' : SA) (u' : S0), rB (T + 1) u' ∧ w' = rs_w cI cR o z' u' ++ ra_w cI ob ad u') (fun w' U => gQ D A w' U) A) args s 20 70 A) (F0 m 108 ls []) := by
  have hx := C.1
  have hb := C.2.1
  have hown := C.2.2.2.1
  have hts := C.2.2.2.2.1
  have hu8 : u.2.1 ≤ 8 := B.1
  refine lv_iload_n hx hb dL_act_108 rfl (lv_at hl 3 rfl) ?_
  refine lv_bipush (v := 8) hx hb dL_act_109 (by decide) ?_
  refine lv_icmp_ne (tgt := 116) hx hb dL_act_111 (by decide) (fun c1 => ?_) (fun c1 => ?_)
  · have h8 : u.2.1 < 8 := hr_8 hu8 c1
    refine lv_iload_n hx hb dL_act_116 rfl (lv_at hl 3 rfl) ?_
    refine lv_iconst (v := 1) hx hb dL_act_117 (by decide) ?_
    refine lv_iadd hx hb dL_act_118 ?_
    refine g_top (nI_add u.2.1 1) ?_
    refine x_anw C S (N := u.2.1 + 1) rfl (by omega) q49 (C.2.2.2.2.2.2.2.1.2.2.2.2.2.2.2.2.2.1) (cells' := 0 + 1) (slots' := 0 + (u.2.1 + 1)) rfl rfl (Nat.le_of_ble_eq_true rfl) (show 0 + (u.2.1 + 1) ≤ 70 by omega) dL_act_119 (fun m9 H S => ?_)
    refine W.widen (k := 1) (n := 9) (by omega) (by omega) ?_
    refine lv_astore (lv' := [(6, .ref m9), (0, .ref ob), (1, .ref o), (2, .int x), (3, .int (nI u.2.1))]) hx hb dL_act_122 hl (by decide) rfl (fun ls hl => ?_)
    refine lv_iconst (v := 0) hx hb dL_act_124 (by decide) ?_
    refine lv_istore (lv' := [(7, .int 0), (6, .ref m9), (0, .ref ob), (1, .ref o), (2, .int x), (3, .int (nI u.2.1))]) hx hb dL_act_125 hl (by decide) rfl (fun ls hl => ?_)
    have S : sS D A s cI cR o z u (ra_w cI ob ad u ++ [(m9, .inl (cR, u.2.1 + 1, .inr (.inr (.inr (.inr (fun k => if k < 0 then some (z.2.1 k) else none))))))]) H locs := by
      have e : (fun k : Nat => if k < 0 then some (z.2.1 k) else none) = fun _ => (none : Option Nat) := funext fun k => if_neg (Nat.not_lt_zero k)
      rw [e]; exact S
    refine lpL_act C hu8 (fun H locs ls S hl => ?_) u.2.1 0 (by omega) _ _ _ S (lv_sub hl [2, 3, 4, 5, 1, 0] rfl)
    refine lv_aload hx hb dL_act_151 (lv_at hl 4 rfl) ?_
    refine lv_iload_n hx hb dL_act_153 rfl (lv_at hl 3 rfl) ?_
    refine x_new1 C S q49 q50 q51 (cells' := 2) (slots' := 16) rfl rfl (Nat.le_of_ble_eq_true rfl) (Nat.le_of_ble_eq_true rfl) dL_act_154 (fun q9 H S => ?_)
    refine lv_dup hx hb dL_act_157 rfl ?_
    have S0 : sS D A s cI cR o z u ((ra_w cI ob ad u ++ [(m9, .inl (cR, u.2.1 + 1, .inr (.inr (.inr (.inr (fun k => if k < u.2.1 then some (z.2.1 k) else none))))))]) ++ [(q9, .inr (1, [.int 0, .int 0, .int 0, .int 0, .int 0, .int 0, .int 0]))]) H locs := S
    refine m_cv (wa := rs_w cI cR o z u ++ (ra_w cI ob ad u ++ [(m9, .inl (cR, u.2.1 + 1, .inr (.inr (.inr (.inr (fun k => if k < u.2.1 then some (z.2.1 k) else none))))))])) (wb := [(q9, .inr (1, [.int 0, .int 0, .int 0, .int 0, .int 0, .int 0, .int 0]))]) (wd := []) (cells' := 2) (slots' := 16) rfl rfl C (by rw [List.append_assoc]; exact S0.1) (by rw [List.append_assoc]; exact S0.2.1) S.2.2 (fun hPb hDb => g_runIN (n := 0) (As := []) C (mX1_init l D t cI cR cB q9 H.size _) q60 q51 (C.2.2.2.2.2.2.2.1.2.2.2.2.2.2.2.1) q59 rfl kd_X1_init ⟨Nat.le_of_ble_eq_true rfl, Nat.le_of_ble_eq_true rfl⟩ C.2.2.2.2.2.1 hPb hDb S.2.2 hl.1 rfl rfl (Nat.le_of_ble_eq_true rfl) dL_act_158 ⟨Nat.le_of_ble_eq_true rfl, Nat.le_of_ble_eq_true rfl⟩) (fun w' H locs hv _ hP9 hD9 hS9 => ?_)
    subst hv
    have S : sS D A s cI cR o z u (ra_w cI ob ad u ++ [(m9, .inl (cR, u.2.1 + 1, .inr (.inr (.inr (.inr (fun k => if k < u.2.1 then some (z.2.1 k) else none)))))), (q9, .inr (1, [.int 0, .int 0, .int 0, .int 0, .int 0, .int 0, .int 0]))]) H locs := by
      rw [List.append_assoc] at hP9 hD9
      exact ⟨hP9, hD9, hS9⟩
    refine x_ast C S 13 ((rs_w cI cR o z u).length + 14) (n := u.2.1 + 1) (i := u.2.1) (f := fun k => if k < u.2.1 then some (z.2.1 k) else none) (v := q9) (vs := [.int 0, .int 0, .int 0, .int 0, .int 0, .int 0, .int 0]) rfl (rs_xp rfl) (by omega) (by omega) rfl dL_act_161 (fun H locs S => ?_)
    rw [hr_up2] at S
    have S : sS D A s cI cR o z u (ra_w cI ob ad u ++ hr_X cR u.2.1 z m9 q9 0) H locs := S
    refine lv_aload hx hb dL_act_162 (lv_at hl 4 rfl) ?_
    refine lv_iload_n hx hb dL_act_164 rfl (lv_at hl 3 rfl) ?_
    refine x_aldv C S 13 (n := u.2.1 + 1) (i := u.2.1) rfl (by omega) (by omega) rfl (v := q9) (by simp) dL_act_165 ?_
    refine lv_iload_n hx hb dL_act_166 rfl (lv_at hl 2 rfl) ?_
    refine lv_iconst (v := 1) hx hb dL_act_167 (by decide) ?_
    refine lv_ishr hx hb dL_act_168 ?_
    refine lv_iconst (v := 3) hx hb dL_act_169 (by decide) ?_
    refine m_ci (wa := []) (wb := []) (wd := rs_w cI cR o z u ++ (ra_w cI ob ad u ++ hr_X cR u.2.1 z m9 q9 0)) (cells' := 2) (slots' := 16) rfl rfl C S.1 S.2.1 S.2.2 (fun hPb hDb => g_runS (wr := (rs_w cI cR o z u ++ (ra_w cI ob ad u ++ hr_X cR u.2.1 z m9 q9 0)) ++ []) (n := 2) (As := [.int (x >>> (1 &&& 31)), .int 3]) C (mL_below l D t cI cR cB H.size (x >>> (1 &&& 31)) 3 (by decide) (by decide)) (rw_S q41 q42 q25 q43) kd_L_below ⟨Nat.le_of_ble_eq_true rfl, Nat.le_of_ble_eq_true rfl⟩ C.2.2.2.2.2.1 hPb hDb S.2.2 hl.1 rfl rfl (Nat.le_of_ble_eq_true rfl) dL_act_170 ⟨Nat.le_of_ble_eq_true rfl, Nat.le_of_ble_eq_true rfl⟩) (fun v w' H locs hv _ hP9 hD9 hS9 => ?_)
    obtain ⟨⟨j2, hj2, rfl⟩, rfl⟩ := hv
    have S : sS D A s cI cR o z u (ra_w cI ob ad u ++ hr_X cR u.2.1 z m9 q9 0) H locs := ⟨hP9, hD9, hS9⟩
    refine x_p1 C S 14 0 (by decide) (fs := [.int 0, .int 0, .int 0, .int 0, .int 0, .int 0, .int 0]) rfl rfl rfl (by decide +kernel) (Nat.le_of_ble_eq_true rfl) q52 dL_act_173 (fun H locs S => ?_)
    have S : sS D A s cI cR o z u (ra_w cI ob ad u ++ hr_X cR u.2.1 z m9 q9 (nI j2)) H locs := S
    refine lv_aload_n hx hb dL_act_176 rfl (lv_at hl 1 rfl) ?_
    refine lv_aload hx hb dL_act_177 (lv_at hl 4 rfl) ?_
    refine s_ph C B h8 S q48 dL_act_179 (fun H locs S => ?_)
    refine lv_aload_n hx hb dL_act_182 rfl (lv_at hl 0 rfl) ?_
    refine lv_aload hx hb dL_act_183 (lv_at hl 4 rfl) ?_
    refine lv_iload_n hx hb dL_act_185 rfl (lv_at hl 3 rfl) ?_
    refine s_al C S (show u.2.1 + 1 ≤ 8 from h8) (show u.2.1 < u.2.1 + 1 by omega) rfl dL_act_186 ?_
    refine r_gf C S 0 u.2.1 (by decide) (show u.2.1 < u.2.1 + 1 by omega) (v := .int ((ra_s u 0 u.2.1 (nI j2)).1 0 u.2.1)) rfl rfl q52 dL_act_187 ?_
    refine g_top (y := nI j2) ra_sS ?_
    refine m_ci (wa := rs_w cI cR o (fun k => if k = 2 then m9 else z.1 k, fun k => if k = u.2.1 then q9 else z.2.1 k, z.2.2) ((ra_s u 0 u.2.1 (nI j2)).1, u.2.1 + 1, u.2.2)) (wb := ra_w cI ob ad u) (wd := []) (cells' := 2) (slots' := 16) rfl rfl C S.1 S.2.1 S.2.2 (fun hPb hDb => g_runV (wr := ([]) ++ rs_w cI cR o (fun k => if k = 2 then m9 else z.1 k, fun k => if k = u.2.1 then q9 else z.2.1 k, z.2.2) ((ra_s u 0 u.2.1 (nI j2)).1, u.2.1 + 1, u.2.2)) (n := 1) (As := [.int (nI j2)]) C (mX0_hire l D t cI ob ad H.size u (nI j2) (nI_pos (by omega)) (nI_le (b := 2) (by omega) (by omega)) h8) (rw_V q62 q63 q64 q2 q65) kd_X0_hire ⟨Nat.le_of_ble_eq_true rfl, Nat.le_of_ble_eq_true rfl⟩ (ci := 0) rfl rfl rfl (C.2.2.2.2.2.1.sub (tys' := [(cI, .int)]) [0] rfl) hPb hDb S.2.2 hl.1 rfl rfl (Nat.le_of_ble_eq_true rfl) dL_act_190 ⟨Nat.le_of_ble_eq_true rfl, Nat.le_of_ble_eq_true rfl⟩) (fun v w' H locs hv _ hP9 hD9 hS9 => ?_)
    obtain ⟨rfl, rfl⟩ := hv
    have S : sS D A s cI cR o (fun k => if k = 2 then m9 else z.1 k, fun k => if k = u.2.1 then q9 else z.2.1 k, z.2.2) ((ra_s u 0 u.2.1 (nI j2)).1, u.2.1 + 1, u.2.2) (ra_w cI ob ad ((ra_s u 0 u.2.1 (nI j2)).1, u.2.1 + 1, u.2.2)) H locs := ⟨hP9, hD9, hS9⟩
    refine lv_iload_n hx hb dL_act_193 rfl (lv_at hl 3 rfl) ?_
    refine lv_icmp_ne (tgt := 201) hx hb dL_act_194 (by decide) (fun c3 => absurd rfl c3) (fun c3 => ?_)
    refine lv_iconst (v := 1) hx hb dL_act_197 (by decide) ?_
    refine lv_goto (tgt := 202) hx hb dL_act_198 (by decide) ?_
    refine W.widen (k := 20) (n := 70) (Nat.le_of_ble_eq_true rfl) (Nat.le_of_ble_eq_true rfl) ?_
    exact g_zret C hrt rfl S.1 S.2.1 S.2.2 dL_act_202 ⟨rfl, (fun k => if k = 2 then m9 else z.1 k, fun k => if k = u.2.1 then q9 else z.2.1 k, z.2.2), ((ra_s u 0 u.2.1 (nI j2)).1, u.2.1 + 1, u.2.2), rB_hire B hT1 h8 (by omega), rfl⟩
  · refine lv_iconst (v := 1) hx hb dL_act_114 (by decide) ?_
    refine W.widen (k := 20) (n := 70) (Nat.le_of_ble_eq_true rfl) (Nat.le_of_ble_eq_true rfl) ?_
    exact g_zret C hrt rfl S.1 S.2.1 S.2.2 dL_act_115 ⟨rfl, z, u, B.up hT1, rfl⟩
set_option maxHeartbeats 4000000 in
set_option maxRecDepth 100000 in
theorem mL_act (l : Launch) (D : va_G) (t : Nat → Nat) (cI cR cB : ClassId) (o ob : Nat) (ad : Nat → Nat) (z : SA) (sz : Nat) (u : S0) (T : Nat) (B : rB T u) (hT1 : T + 1 ≤ 400) (x : Int32) : gMi l yL_act (rw_ yL_act cL_act 15 (some .boolean)) (rm_ 7 20 70 156) [.ref ob, .ref o, .int x] D (ty3 cI cR cB) t (rs_w cI cR o z u ++ ra_w cI ob ad u) sz (fun r w' => r = 1 ∧ ∃ (z' : SA) (u' : S0), rB (T + 1) u' ∧ w' = rs_w cI cR o z' u' ++ ra_w cI ob ad u') := by
  refine g_of (cc := cL_act) (nL := 15) (rt := (some .boolean)) (Q := fun A => va_Qi _ (fun w' U => gQ D A w' U) A) (by decide) (Nat.le_of_ble_eq_true rfl) (fun p e s m args below meth c A ls H C hrt hnm hS hP hD hl => ?_)
  have hx := C.1
  have hb := C.2.1
  have hown := C.2.2.2.1
  have hts := C.2.2.2.2.1
  have hu8 : u.2.1 ≤ 8 := B.1
  have hl : lv_has ls 15 [(0, .ref ob), (1, .ref o), (2, .int x)] := hl
  have S : sS D A s cI cR o z u (ra_w cI ob ad u) H [] := ⟨hP, hD, hS⟩
  obtain ⟨locs, elocs⟩ : ∃ z : List Loc, z = [] := ⟨_, rfl⟩
  rw [← elocs] at S ⊢
  by_cases hn : u.2.1 = 0
  · refine lv_aload_n hx hb dL_act_0 rfl (lv_at hl 1 rfl) ?_
    refine s_gf C S 3 (by decide) (v := .ref (z.1 2)) rfl rfl q48 dL_act_1 ?_
    refine s_an C S dL_act_4 ?_
    refine lv_istore_n (lv' := [(3, .int (nI u.2.1)), (0, .ref ob), (1, .ref o), (2, .int x)]) hx hb dL_act_5 rfl hl (by decide) rfl (fun ls hl => ?_)
    refine lv_iload_n hx hb dL_act_6 rfl (lv_at hl 0 rfl) ?_
    refine lv_if_ne (tgt := 14) hx hb dL_act_7 (by decide) (fun c1 => absurd ((nI_eq (a := u.2.1) (b := 0) (by omega) (by omega)).mpr (by omega)) c1) (fun c1 => ?_)
    refine lv_iconst (v := 0) hx hb dL_act_10 (by decide) ?_
    refine lv_goto (tgt := 21) hx hb dL_act_11 (by decide) ?_
    refine lv_istore (lv' := [(4, .int 0), (3, .int (nI u.2.1)), (0, .ref ob), (1, .ref o), (2, .int x)]) hx hb dL_act_21 hl (by decide) rfl (fun ls hl => ?_)
    refine lv_iload_n hx hb dL_act_23 rfl (lv_at hl 1 rfl) ?_
    refine lv_if_ne (tgt := 31) hx hb dL_act_24 (by decide) (fun c2 => absurd ((nI_eq (a := u.2.1) (b := 0) (by omega) (by omega)).mpr (by omega)) c2) (fun c2 => ?_)
    refine lv_null hx hb dL_act_27 ?_
    refine lv_goto (tgt := 38) hx hb dL_act_28 (by decide) ?_
    refine lv_astoreN (lv' := [(5, .null), (4, .int 0), (3, .int (nI u.2.1)), (0, .ref ob), (1, .ref o), (2, .int x)]) hx hb dL_act_38 hl (by decide) rfl (fun ls hl => ?_)
    refine lv_iload_n hx hb dL_act_40 rfl (lv_at hl 5 rfl) ?_
    refine lv_bipush (v := 9) hx hb dL_act_41 (by decide) ?_
    refine lv_ishr hx hb dL_act_43 ?_
    refine lv_bipush (v := 18) hx hb dL_act_44 (by decide) ?_
    refine m_ci (wa := []) (wb := []) (wd := rs_w cI cR o z u ++ (ra_w cI ob ad u)) (cells' := 0) (slots' := 0) rfl rfl C S.1 S.2.1 S.2.2 (fun hPb hDb => g_runS (wr := (rs_w cI cR o z u ++ (ra_w cI ob ad u)) ++ []) (n := 2) (As := [.int (x >>> (9 &&& 31)), .int 18]) C (mL_below l D t cI cR cB H.size (x >>> (9 &&& 31)) 18 (by decide) (by decide)) (rw_S q41 q42 q25 q43) kd_L_below ⟨Nat.le_of_ble_eq_true rfl, Nat.le_of_ble_eq_true rfl⟩ C.2.2.2.2.2.1 hPb hDb S.2.2 hl.1 rfl rfl (Nat.le_of_ble_eq_true rfl) dL_act_46 ⟨Nat.le_of_ble_eq_true rfl, Nat.le_of_ble_eq_true rfl⟩) (fun v w' H locs hv _ hP9 hD9 hS9 => ?_)
    obtain ⟨⟨j3, hj3, rfl⟩, rfl⟩ := hv
    have S : sS D A s cI cR o z u (ra_w cI ob ad u) H locs := ⟨hP9, hD9, hS9⟩
    rcases (show j3 = 0 ∨ j3 = 1 ∨ j3 = 2 ∨ j3 = 3 ∨ j3 = 4 ∨ j3 = 5 ∨ j3 = 6 ∨ j3 = 7 ∨ j3 = 8 ∨ j3 = 9 ∨ j3 = 10 ∨ 10 < j3 by omega) with rfl | rfl | rfl | rfl | rfl | rfl | rfl | rfl | rfl | rfl | rfl | hbig
    · refine lv_tableIn (off := 59) (tgt := 108) hx hb dL_act_49 (by decide) (by decide) rfl (by decide) ?_
      exact act_hire C hrt B hT1 S (lv_sub hl [3, 4, 5, 2] rfl)
    · refine lv_tableIn (off := 59) (tgt := 108) hx hb dL_act_49 (by decide) (by decide) rfl (by decide) ?_
      exact act_hire C hrt B hT1 S (lv_sub hl [3, 4, 5, 2] rfl)
    · refine lv_tableIn (off := 154) (tgt := 203) hx hb dL_act_49 (by decide) (by decide) rfl (by decide) ?_
      exact act_rate C hrt B hT1 S (lv_sub hl [3, 4, 5, 2] rfl)
    · refine lv_tableIn (off := 211) (tgt := 260) hx hb dL_act_49 (by decide) (by decide) rfl (by decide) ?_
      exact act_fill C hrt B hT1 S (lv_sub hl [3, 4, 5, 2] rfl)
    · refine lv_tableIn (off := 211) (tgt := 260) hx hb dL_act_49 (by decide) (by decide) rfl (by decide) ?_
      exact act_fill C hrt B hT1 S (lv_sub hl [3, 4, 5, 2] rfl)
    · refine lv_tableIn (off := 282) (tgt := 331) hx hb dL_act_49 (by decide) (by decide) rfl (by decide) ?_
      exact act_bind0 C hrt B hT1 hn S (lv_sub hl [3, 4, 5, 2] rfl)
    · refine lv_tableIn (off := 282) (tgt := 331) hx hb dL_act_49 (by decide) (by decide) rfl (by decide) ?_
      exact act_bind0 C hrt B hT1 hn S (lv_sub hl [3, 4, 5, 2] rfl)
    · refine lv_tableIn (off := 282) (tgt := 331) hx hb dL_act_49 (by decide) (by decide) rfl (by decide) ?_
      exact act_bind0 C hrt B hT1 hn S (lv_sub hl [3, 4, 5, 2] rfl)
    · refine lv_tableIn (off := 359) (tgt := 408) hx hb dL_act_49 (by decide) (by decide) rfl (by decide) ?_
      exact act_lend0 C hrt B hT1 hn S (lv_sub hl [3, 4, 5, 2] rfl)
    · refine lv_tableIn (off := 359) (tgt := 408) hx hb dL_act_49 (by decide) (by decide) rfl (by decide) ?_
      exact act_lend0 C hrt B hT1 hn S (lv_sub hl [3, 4, 5, 2] rfl)
    · refine lv_tableIn (off := 442) (tgt := 491) hx hb dL_act_49 (by decide) (by decide) rfl (by decide) ?_
      exact act_pay C hrt B hT1 S (lv_sub hl [3, 4, 5, 2] rfl)
    · refine lv_tableOut (tgt := 518) hx hb dL_act_49 (Or.inr (by rw [tI_nI (by omega)]; omega)) (by decide) ?_
      exact act_work0 C hrt B hT1 hn S (lv_sub hl [3, 4, 5, 2] rfl)
  · refine lv_aload_n hx hb dL_act_0 rfl (lv_at hl 1 rfl) ?_
    refine s_gf C S 3 (by decide) (v := .ref (z.1 2)) rfl rfl q48 dL_act_1 ?_
    refine s_an C S dL_act_4 ?_
    refine lv_istore_n (lv' := [(3, .int (nI u.2.1)), (0, .ref ob), (1, .ref o), (2, .int x)]) hx hb dL_act_5 rfl hl (by decide) rfl (fun ls hl => ?_)
    refine lv_iload_n hx hb dL_act_6 rfl (lv_at hl 0 rfl) ?_
    refine lv_if_ne (tgt := 14) hx hb dL_act_7 (by decide) (fun c1 => ?_) (fun c1 => absurd c1 (fun h9 => absurd ((nI_eq (a := u.2.1) (b := 0) (by omega) (by omega)).mp h9) (by omega)))
    refine lv_iload_n hx hb dL_act_14 rfl (lv_at hl 3 rfl) ?_
    refine lv_iconst (v := 1) hx hb dL_act_15 (by decide) ?_
    refine lv_ishr hx hb dL_act_16 ?_
    refine lv_iload_n hx hb dL_act_17 rfl (lv_at hl 0 rfl) ?_
    refine m_ci (wa := []) (wb := []) (wd := rs_w cI cR o z u ++ (ra_w cI ob ad u)) (cells' := 0) (slots' := 0) rfl rfl C S.1 S.2.1 S.2.2 (fun hPb hDb => g_runS (wr := (rs_w cI cR o z u ++ (ra_w cI ob ad u)) ++ []) (n := 2) (As := [.int (x >>> (1 &&& 31)), .int (nI u.2.1)]) C (mL_below l D t cI cR cB H.size (x >>> (1 &&& 31)) u.2.1 (by omega) (by omega)) (rw_S q41 q42 q25 q43) kd_L_below ⟨Nat.le_of_ble_eq_true rfl, Nat.le_of_ble_eq_true rfl⟩ C.2.2.2.2.2.1 hPb hDb S.2.2 hl.1 rfl rfl (Nat.le_of_ble_eq_true rfl) dL_act_18 ⟨Nat.le_of_ble_eq_true rfl, Nat.le_of_ble_eq_true rfl⟩) (fun v w' H locs hv _ hP9 hD9 hS9 => ?_)
    obtain ⟨⟨j2, hj2, rfl⟩, rfl⟩ := hv
    have S : sS D A s cI cR o z u (ra_w cI ob ad u) H locs := ⟨hP9, hD9, hS9⟩
    obtain ⟨k, ek⟩ : ∃ k, k = j2 := ⟨_, rfl⟩
    rw [← ek]
    have hk : k < u.2.1 := by omega
    refine lv_istore (lv' := [(4, .int (nI k)), (3, .int (nI u.2.1)), (0, .ref ob), (1, .ref o), (2, .int x)]) hx hb dL_act_21 hl (by decide) rfl (fun ls hl => ?_)
    refine lv_iload_n hx hb dL_act_23 rfl (lv_at hl 1 rfl) ?_
    refine lv_if_ne (tgt := 31) hx hb dL_act_24 (by decide) (fun c3 => ?_) (fun c3 => absurd c3 (fun h9 => absurd ((nI_eq (a := u.2.1) (b := 0) (by omega) (by omega)).mp h9) (by omega)))
    refine lv_aload_n hx hb dL_act_31 rfl (lv_at hl 3 rfl) ?_
    refine s_gf C S 3 (by decide) (v := .ref (z.1 2)) rfl rfl q48 dL_act_32 ?_
    refine lv_iload hx hb dL_act_35 (lv_at hl 0 rfl) ?_
    refine s_al C S hu8 hk rfl dL_act_37 ?_
    refine lv_astore (lv' := [(5, .ref (z.2.1 k)), (4, .int (nI k)), (3, .int (nI u.2.1)), (0, .ref ob), (1, .ref o), (2, .int x)]) hx hb dL_act_38 hl (by decide) rfl (fun ls hl => ?_)
    refine lv_iload_n hx hb dL_act_40 rfl (lv_at hl 5 rfl) ?_
    refine lv_bipush (v := 9) hx hb dL_act_41 (by decide) ?_
    refine lv_ishr hx hb dL_act_43 ?_
    refine lv_bipush (v := 18) hx hb dL_act_44 (by decide) ?_
    refine m_ci (wa := []) (wb := []) (wd := rs_w cI cR o z u ++ (ra_w cI ob ad u)) (cells' := 0) (slots' := 0) rfl rfl C S.1 S.2.1 S.2.2 (fun hPb hDb => g_runS (wr := (rs_w cI cR o z u ++ (ra_w cI ob ad u)) ++ []) (n := 2) (As := [.int (x >>> (9 &&& 31)), .int 18]) C (mL_below l D t cI cR cB H.size (x >>> (9 &&& 31)) 18 (by decide) (by decide)) (rw_S q41 q42 q25 q43) kd_L_below ⟨Nat.le_of_ble_eq_true rfl, Nat.le_of_ble_eq_true rfl⟩ C.2.2.2.2.2.1 hPb hDb S.2.2 hl.1 rfl rfl (Nat.le_of_ble_eq_true rfl) dL_act_46 ⟨Nat.le_of_ble_eq_true rfl, Nat.le_of_ble_eq_true rfl⟩) (fun v w' H locs hv _ hP9 hD9 hS9 => ?_)
    obtain ⟨⟨j4, hj4, rfl⟩, rfl⟩ := hv
    have S : sS D A s cI cR o z u (ra_w cI ob ad u) H locs := ⟨hP9, hD9, hS9⟩
    rcases (show j4 = 0 ∨ j4 = 1 ∨ j4 = 2 ∨ j4 = 3 ∨ j4 = 4 ∨ j4 = 5 ∨ j4 = 6 ∨ j4 = 7 ∨ j4 = 8 ∨ j4 = 9 ∨ j4 = 10 ∨ 10 < j4 by omega) with rfl | rfl | rfl | rfl | rfl | rfl | rfl | rfl | rfl | rfl | rfl | hbig
    · refine lv_tableIn (off := 59) (tgt := 108) hx hb dL_act_49 (by decide) (by decide) rfl (by decide) ?_
      exact act_hire C hrt B hT1 S (lv_sub hl [3, 4, 5, 2] rfl)
    · refine lv_tableIn (off := 59) (tgt := 108) hx hb dL_act_49 (by decide) (by decide) rfl (by decide) ?_
      exact act_hire C hrt B hT1 S (lv_sub hl [3, 4, 5, 2] rfl)
    · refine lv_tableIn (off := 154) (tgt := 203) hx hb dL_act_49 (by decide) (by decide) rfl (by decide) ?_
      exact act_rate C hrt B hT1 S (lv_sub hl [3, 4, 5, 2] rfl)
    · refine lv_tableIn (off := 211) (tgt := 260) hx hb dL_act_49 (by decide) (by decide) rfl (by decide) ?_
      exact act_fill C hrt B hT1 S (lv_sub hl [3, 4, 5, 2] rfl)
    · refine lv_tableIn (off := 211) (tgt := 260) hx hb dL_act_49 (by decide) (by decide) rfl (by decide) ?_
      exact act_fill C hrt B hT1 S (lv_sub hl [3, 4, 5, 2] rfl)
    · refine lv_tableIn (off := 282) (tgt := 331) hx hb dL_act_49 (by decide) (by decide) rfl (by decide) ?_
      exact act_bind C hrt B hT1 hk S (lv_sub hl [3, 4, 5, 2, 1, 0] rfl)
    · refine lv_tableIn (off := 282) (tgt := 331) hx hb dL_act_49 (by decide) (by decide) rfl (by decide) ?_
      exact act_bind C hrt B hT1 hk S (lv_sub hl [3, 4, 5, 2, 1, 0] rfl)
    · refine lv_tableIn (off := 282) (tgt := 331) hx hb dL_act_49 (by decide) (by decide) rfl (by decide) ?_
      exact act_bind C hrt B hT1 hk S (lv_sub hl [3, 4, 5, 2, 1, 0] rfl)
    · refine lv_tableIn (off := 359) (tgt := 408) hx hb dL_act_49 (by decide) (by decide) rfl (by decide) ?_
      exact act_lend C hrt B hT1 hk S (lv_sub hl [3, 4, 5, 2, 1, 0] rfl)
    · refine lv_tableIn (off := 359) (tgt := 408) hx hb dL_act_49 (by decide) (by decide) rfl (by decide) ?_
      exact act_lend C hrt B hT1 hk S (lv_sub hl [3, 4, 5, 2, 1, 0] rfl)
    · refine lv_tableIn (off := 442) (tgt := 491) hx hb dL_act_49 (by decide) (by decide) rfl (by decide) ?_
      exact act_pay C hrt B hT1 S (lv_sub hl [3, 4, 5, 2] rfl)
    · refine lv_tableOut (tgt := 518) hx hb dL_act_49 (Or.inr (by rw [tI_nI (by omega)]; omega)) (by decide) ?_
      exact act_work C hrt B hT1 hk S (lv_sub hl [3, 4, 5, 2, 1, 0] rfl)
end
section
theorem nI_mod {i m : Nat} (h : i < 2147483648) (h0 : 0 < m) (hm : m < 2147483648) : nI i - nI i / nI m * nI m = nI (i % m) := by
  have e := rem_toInt (nI i) (nI m)
  have hl : i % m < m := Nat.mod_lt _ h0
  rw [tI_eq, e, tI_nI h, tI_nI hm, tI_nI (by omega), Int.tmod_eq_emod_of_nonneg (by omega)]
  rfl
theorem rB_0 : rB 0 ra_u0 := by
  refine ⟨by decide, by decide, ?_, fun c hc => ?_, fun r hr => ?_, fun r k _ hr hk1 hk7 => ?_⟩
  · unfold rV
    decide +kernel
  · show 0 ≤ (0 : Int32).toInt ∧ (0 : Int32).toInt ≤ _
    decide
  · have z : ∀ k : Nat, k < 7 → ra_u0.1 k r = 0 := fun k hk => by
      rw [show ra_u0.1 k = fun _ => 0 from if_neg (by omega)]
    unfold rR
    rw [z 0 (by decide), z 1 (by decide), z 2 (by decide), z 3 (by decide), z 4 (by decide), z 5 (by decide), z 6 (by decide)]
    decide
  · rw [show ra_u0.1 k = fun _ => 0 from if_neg (by omega)]
theorem kd_L_build : yL_build.cls ≠ "java/lang/invoke/MethodHandle" ∧ yL_build.cls ≠ "java/lang/invoke/VarHandle" ∧ (parseMethodDescriptor yL_build.desc).map (fun d => d.parameters.length) = some 2 := by decide +kernel
set_option maxHeartbeats 4000000 in
set_option maxRecDepth 100000 in
theorem lpL_build {p : Program} {l : Launch} {e : Env} {s : State} {m : MethodId} {args : Array Value} {below : List Frame} {meth : Method} {c : Code} {Q : State → Prop} {D : va_G} {t : Nat → Nat} {A : Nat → Prop} {cI cR cB : ClassId} {o ob NN : Nat} {ad : Nat → Nat} (C : gC p s m args meth c cL_build 5 RL D (ty3 cI cR cB) t A) (hL : t 10 ≤ 260) (hN : NN ≤ 79) (kk : ∀ (z : SA) (u : S0) (H : Heap) (locs : List Loc) (ls : Array Slot), rB NN u → sS D A s cI cR o z u (ra_w cI ob ad u) H locs → lv_has ls 5 [(0, .ref ob), (1, .ref (t 9)), (2, .ref o), (3, .int (nI NN)), (4, .int (nI NN))] → W p l e (rm_ 8 1600 5600 190) s m args below meth c H locs (4 + 20 * NN) (13 + 70 * NN) Q (F0 m 85 ls [])) :
    ∀ (n i : Nat), i + n = NN → ∀ (z : SA) (u : S0) (H : Heap) (locs : List Loc) (ls : Array Slot), rB i u → sS D A s cI cR o z u (ra_w cI ob ad u) H locs → lv_has ls 5 [(0, .ref ob), (1, .ref (t 9)), (2, .ref o), (3, .int (nI NN)), (4, .int (nI i))] → W p l e (rm_ 8 1600 5600 190) s m args below meth c H locs (4 + 20 * i) (13 + 70 * i) Q (F0 m 25 ls []) := by
  have hx := C.1
  have hb := C.2.1
  have hown := C.2.2.2.1
  have hts := C.2.2.2.2.1
  intro n
  induction n with
  | zero =>
    intro i hi z u H locs ls B S hl
    have hiN : i = NN := by omega
    refine lv_iload hx hb dL_build_25 (lv_at hl 4 rfl) ?_
    refine lv_iload_n hx hb dL_build_27 rfl (lv_at hl 3 rfl) ?_
    refine lv_icmp_ge (tgt := 85) hx hb dL_build_28 (by decide) (fun c1 => ?_) (fun c1 => absurd ((nI_leI (a := NN) (b := i) (by omega) (by omega)).mpr (by omega)) c1)
    rw [hiN] at B hl ⊢
    exact kk _ _ _ _ _ B S (lv_sub hl [0, 1, 2, 3, 4] rfl)
  | succ n ih =>
    intro i hi z u H locs ls B S hl
    have hin : i < NN := by omega
    refine lv_iload hx hb dL_build_25 (lv_at hl 4 rfl) ?_
    refine lv_iload_n hx hb dL_build_27 rfl (lv_at hl 3 rfl) ?_
    refine lv_icmp_ge (tgt := 85) hx hb dL_build_28 (by decide) (fun c1 => absurd c1 (fun h9 => absurd ((nI_leI (a := NN) (b := i) (by omega) (by omega)).mp h9) (by omega))) (fun c1 => ?_)
    refine lv_aload_n hx hb dL_build_31 rfl (lv_at hl 0 rfl) ?_
    refine lv_aload_n hx hb dL_build_32 rfl (lv_at hl 2 rfl) ?_
    refine lv_aload_n hx hb dL_build_33 rfl (lv_at hl 1 rfl) ?_
    refine lv_iload hx hb dL_build_34 (lv_at hl 4 rfl) ?_
    refine lv_bipush (v := 16) hx hb dL_build_36 (by decide) ?_
    refine lv_irem hx hb dL_build_38 (by decide) ?_
    refine g_top (nI_mod (m := 16) (by omega) (by decide) (by decide)) ?_
    refine m_ci (wa := []) (wb := []) (wd := rs_w cI cR o z u ++ (ra_w cI ob ad u)) (cells' := 4 + 20 * i + 0) (slots' := 13 + 70 * i + 0) rfl rfl C S.1 S.2.1 S.2.2 (fun hPb hDb => g_runS (wr := (rs_w cI cR o z u ++ (ra_w cI ob ad u)) ++ []) (n := 2) (As := [.ref (t 9), .int (nI (i % 16))]) C (mL_cell l D t cI cR cB H.size hL (i % 16) (by omega)) (rw_S q37 q38 q25 q39) kd_L_cell ⟨Nat.le_of_ble_eq_true rfl, Nat.le_of_ble_eq_true rfl⟩ C.2.2.2.2.2.1 hPb hDb S.2.2 hl.1 rfl rfl (Nat.le_of_ble_eq_true rfl) dL_build_39 ⟨(show 4 + 20 * i + 0 ≤ 1600 by omega), (show 13 + 70 * i + 0 ≤ 5600 by omega)⟩) (fun v w' H locs hv _ hP9 hD9 hS9 => ?_)
    obtain rfl := hv
    have S : sS D A s cI cR o z u (ra_w cI ob ad u) H locs := ⟨hP9, hD9, hS9⟩
    refine lv_iload hx hb dL_build_42 (lv_at hl 4 rfl) ?_
    refine lv_bipush (v := 16) hx hb dL_build_44 (by decide) ?_
    refine lv_idiv hx hb dL_build_46 (by decide) ?_
    refine lv_iconst (v := 3) hx hb dL_build_47 (by decide) ?_
    refine lv_imul hx hb dL_build_48 ?_
    refine lv_ishr hx hb dL_build_49 ?_
    refine lv_sipush (v := 401) hx hb dL_build_50 (by decide) ?_
    refine lv_iload hx hb dL_build_53 (lv_at hl 4 rfl) ?_
    refine lv_imul hx hb dL_build_55 ?_
    refine lv_iadd hx hb dL_build_56 ?_
    refine lv_iload hx hb dL_build_57 (lv_at hl 4 rfl) ?_
    refine lv_iconst (v := 3) hx hb dL_build_59 (by decide) ?_
    refine lv_icmp_ge (tgt := 69) hx hb dL_build_60 (by decide) (fun c2 => ?_) (fun c2 => ?_)
    · refine lv_iconst (v := 0) hx hb dL_build_69 (by decide) ?_
      refine lv_iadd hx hb dL_build_70 ?_
      refine lv_topi (fun x3 _ => ?_)
      refine m_ci (wa := []) (wb := rs_w cI cR o z u ++ ra_w cI ob ad u) (wd := []) (cells' := 4 + 20 * i + 0 + 20) (slots' := 13 + 70 * i + 0 + 70) rfl rfl C (by rw [List.nil_append, List.append_assoc]; exact S.1) (by rw [List.nil_append, List.append_assoc]; exact S.2.1) S.2.2 (fun hPb hDb => g_runS (wr := ([]) ++ []) (n := 3) (As := [.ref ob, .ref o, .int x3]) C (mL_act l D t cI cR cB o ob ad z H.size u _ B (by omega) x3) (rw_S q45 q46 q25 q47) kd_L_act ⟨Nat.le_of_ble_eq_true rfl, Nat.le_of_ble_eq_true rfl⟩ C.2.2.2.2.2.1 hPb hDb S.2.2 hl.1 rfl rfl (Nat.le_of_ble_eq_true rfl) dL_build_71 ⟨(show 4 + 20 * i + 0 + 20 ≤ 1600 by omega), (show 13 + 70 * i + 0 + 70 ≤ 5600 by omega)⟩) (fun v w' H locs hv _ hP9 hD9 hS9 => ?_)
      obtain ⟨rfl, z, u, B, rfl⟩ := hv
      rw [List.nil_append, List.append_assoc] at hP9 hD9
      have S : sS D A s cI cR o z u (ra_w cI ob ad u) H locs := ⟨hP9, hD9, hS9⟩
      refine lv_if_ne (tgt := 79) hx hb dL_build_74 (by decide) (fun c4 => ?_) (fun c4 => absurd c4 (by decide))
      refine lv_iinc (v := nI (i + 1)) (lv' := [(4, .int (nI (i + 1))), (0, .ref ob), (1, .ref (t 9)), (2, .ref o), (3, .int (nI NN))]) hx hb dL_build_79 hl (k := 4) rfl (nI_1 _) (by decide) rfl (fun ls hl => ?_)
      refine lv_goto (tgt := 25) hx hb dL_build_82 (by decide) ?_
      refine W.widen (k := 4 + 20 * (i + 1)) (n := 13 + 70 * (i + 1)) (by omega) (by omega) ?_
      exact ih (i + 1) (by omega) _ _ _ _ _ B S (lv_sub hl [1, 2, 3, 4, 0] rfl)
    · refine lv_sipush (v := 512) hx hb dL_build_63 (by decide) ?_
      refine lv_goto (tgt := 70) hx hb dL_build_66 (by decide) ?_
      refine lv_iadd hx hb dL_build_70 ?_
      refine lv_topi (fun x5 _ => ?_)
      refine m_ci (wa := []) (wb := rs_w cI cR o z u ++ ra_w cI ob ad u) (wd := []) (cells' := 4 + 20 * i + 0 + 20) (slots' := 13 + 70 * i + 0 + 70) rfl rfl C (by rw [List.nil_append, List.append_assoc]; exact S.1) (by rw [List.nil_append, List.append_assoc]; exact S.2.1) S.2.2 (fun hPb hDb => g_runS (wr := ([]) ++ []) (n := 3) (As := [.ref ob, .ref o, .int x5]) C (mL_act l D t cI cR cB o ob ad z H.size u _ B (by omega) x5) (rw_S q45 q46 q25 q47) kd_L_act ⟨Nat.le_of_ble_eq_true rfl, Nat.le_of_ble_eq_true rfl⟩ C.2.2.2.2.2.1 hPb hDb S.2.2 hl.1 rfl rfl (Nat.le_of_ble_eq_true rfl) dL_build_71 ⟨(show 4 + 20 * i + 0 + 20 ≤ 1600 by omega), (show 13 + 70 * i + 0 + 70 ≤ 5600 by omega)⟩) (fun v w' H locs hv _ hP9 hD9 hS9 => ?_)
      obtain ⟨rfl, z, u, B, rfl⟩ := hv
      rw [List.nil_append, List.append_assoc] at hP9 hD9
      have S : sS D A s cI cR o z u (ra_w cI ob ad u) H locs := ⟨hP9, hD9, hS9⟩
      refine lv_if_ne (tgt := 79) hx hb dL_build_74 (by decide) (fun c6 => ?_) (fun c6 => absurd c6 (by decide))
      refine lv_iinc (v := nI (i + 1)) (lv' := [(4, .int (nI (i + 1))), (0, .ref ob), (1, .ref (t 9)), (2, .ref o), (3, .int (nI NN))]) hx hb dL_build_79 hl (k := 4) rfl (nI_1 _) (by decide) rfl (fun ls hl => ?_)
      refine lv_goto (tgt := 25) hx hb dL_build_82 (by decide) ?_
      refine W.widen (k := 4 + 20 * (i + 1)) (n := 13 + 70 * (i + 1)) (by omega) (by omega) ?_
      exact ih (i + 1) (by omega) _ _ _ _ _ B S (lv_sub hl [1, 2, 3, 4, 0] rfl)
set_option maxHeartbeats 4000000 in
set_option maxRecDepth 100000 in
theorem mL_build (l : Launch) (D : va_G) (t : Nat → Nat) (cI cR cB : ClassId) (ob : Nat) (ad : Nat → Nat) (sz : Nat) (hL : t 10 ≤ 260) : gMr l yL_build (rw_ yL_build cL_build 5 (some (.object "ReaperWagesLaw$Sim"))) (rm_ 8 1600 5600 190) [.ref ob, .ref (t 9)] D (ty3 cI cR cB) t (ra_w cI ob ad ra_u0) sz (fun x => ∃ (z : SA) (u : S0) (T : Nat), T ≤ 79 ∧ rB T u ∧ x.2 = rs_w cI cR x.1 z u ++ ra_w cI ob ad u) := by
  refine g_of (cc := cL_build) (nL := 5) (rt := (some (.object "ReaperWagesLaw$Sim"))) (Q := fun A => va_Qr (S := Nat × va_W) _ (fun u a U => u.1 = a ∧ gQ D A u.2 U) A) (by decide) (Nat.le_of_ble_eq_true rfl) (fun p e s m args below meth c A ls H C hrt hnm hS hP hD hl => ?_)
  have hx := C.1
  have hb := C.2.1
  have hown := C.2.2.2.1
  have hts := C.2.2.2.2.1
  have hl : lv_has ls 5 [(0, .ref ob), (1, .ref (t 9))] := hl
  refine va_new (ci := 2) (fs := [.int 0, .null, .null, .null, .null]) (C := RX2) (T := TX2) (N := 5) C.1 C.2.1 C.2.2.2.2.1 inlX2 tyX2 tyX2_ok C.2.2.2.1 (C.2.2.2.2.1 _ q27) (C.2.2.2.2.1 _ q28) (C.2.2.2.2.1 _ q29) C.2.2.2.2.2.1 hP hD hS C.2.2.2.2.2.2.1 rfl (fun j hj => by rcases (show j = 0 ∨ j = 1 ∨ j = 2 ∨ j = 3 ∨ j = 4 by omega) with rfl | rfl | rfl | rfl | rfl <;> rfl) (Nat.le_of_ble_eq_true rfl) (Nat.le_of_ble_eq_true rfl) dL_build_0 (fun o H hP hD hS => ?_)
  refine lv_dup hx hb dL_build_3 rfl ?_
  refine m_cv (wa := ra_w cI ob ad ra_u0) (wb := [(o, .inr (2, [.int 0, .null, .null, .null, .null]))]) (wd := []) (cells' := 4) (slots' := 13) rfl rfl C hP hD hS (fun hPb hDb => g_runIN (n := 0) (As := []) C (mX2_init l D t cI cR cB o H.size) q31 q29 (C.2.2.2.2.2.2.2.1.2.2.2.2.2.2.2.2.1) q30 rfl kd_X2_init ⟨Nat.le_of_ble_eq_true rfl, Nat.le_of_ble_eq_true rfl⟩ C.2.2.2.2.2.1 hPb hDb hS hl.1 rfl rfl (Nat.le_of_ble_eq_true rfl) dL_build_4 ⟨Nat.le_of_ble_eq_true rfl, Nat.le_of_ble_eq_true rfl⟩) (fun w' H locs hv _ hP9 hD9 hS9 => ?_)
  obtain ⟨z0, hz0, rfl⟩ := hv
  rw [List.append_nil] at hP9 hD9
  have S : sS D A s cI cR o z0 ra_u0 (ra_w cI ob ad ra_u0) H locs := ⟨va_P.app (rp_right hP9) (rp_left hP9), rd_swap hD9, hS9⟩
  refine lv_astore_n (lv' := [(2, .ref o), (0, .ref ob), (1, .ref (t 9))]) hx hb dL_build_7 rfl hl (by decide) rfl (fun ls hl => ?_)
  refine lv_bipush (v := 20) hx hb dL_build_8 (by decide) ?_
  refine lv_aload_n hx hb dL_build_10 rfl (lv_at hl 2 rfl) ?_
  refine lv_iconst (v := 0) hx hb dL_build_11 (by decide) ?_
  refine m_ci (wa := []) (wb := []) (wd := rs_w cI cR o z0 ra_u0 ++ (ra_w cI ob ad ra_u0)) (cells' := 4) (slots' := 13) rfl rfl C S.1 S.2.1 S.2.2 (fun hPb hDb => g_runS (wr := (rs_w cI cR o z0 ra_u0 ++ (ra_w cI ob ad ra_u0)) ++ []) (n := 2) (As := [.ref (t 9), .int 0]) C (mL_cell l D t cI cR cB H.size hL 0 (by omega)) (rw_S q37 q38 q25 q39) kd_L_cell ⟨Nat.le_of_ble_eq_true rfl, Nat.le_of_ble_eq_true rfl⟩ C.2.2.2.2.2.1 hPb hDb S.2.2 hl.1 rfl rfl (Nat.le_of_ble_eq_true rfl) dL_build_12 ⟨Nat.le_of_ble_eq_true rfl, Nat.le_of_ble_eq_true rfl⟩) (fun v w' H locs hv _ hP9 hD9 hS9 => ?_)
  obtain rfl := hv
  have S : sS D A s cI cR o z0 ra_u0 (ra_w cI ob ad ra_u0) H locs := ⟨hP9, hD9, hS9⟩
  refine lv_bipush (v := 60) hx hb dL_build_15 (by decide) ?_
  refine m_ci (wa := []) (wb := []) (wd := rs_w cI cR o z0 ra_u0 ++ (ra_w cI ob ad ra_u0)) (cells' := 4) (slots' := 13) rfl rfl C S.1 S.2.1 S.2.2 (fun hPb hDb => g_runS (wr := (rs_w cI cR o z0 ra_u0 ++ (ra_w cI ob ad ra_u0)) ++ []) (n := 2) (As := [.int v, .int 60]) C (mL_below l D t cI cR cB H.size v 60 (by decide) (by decide)) (rw_S q41 q42 q25 q43) kd_L_below ⟨Nat.le_of_ble_eq_true rfl, Nat.le_of_ble_eq_true rfl⟩ C.2.2.2.2.2.1 hPb hDb S.2.2 hl.1 rfl rfl (Nat.le_of_ble_eq_true rfl) dL_build_17 ⟨Nat.le_of_ble_eq_true rfl, Nat.le_of_ble_eq_true rfl⟩) (fun v w' H locs hv _ hP9 hD9 hS9 => ?_)
  obtain ⟨⟨j1, hj1, rfl⟩, rfl⟩ := hv
  have S : sS D A s cI cR o z0 ra_u0 (ra_w cI ob ad ra_u0) H locs := ⟨hP9, hD9, hS9⟩
  refine lv_iadd hx hb dL_build_20 ?_
  refine g_top (nI_add 20 j1) ?_
  refine lv_istore_n (lv' := [(3, .int (nI (20 + j1))), (2, .ref o), (0, .ref ob), (1, .ref (t 9))]) hx hb dL_build_21 rfl hl (by decide) rfl (fun ls hl => ?_)
  obtain ⟨NN, eN⟩ : ∃ N : Nat, N = 20 + j1 := ⟨_, rfl⟩
  rw [← eN] at hl
  refine lv_iconst (v := 0) hx hb dL_build_22 (by decide) ?_
  refine lv_istore (lv' := [(4, .int 0), (3, .int (nI NN)), (2, .ref o), (0, .ref ob), (1, .ref (t 9))]) hx hb dL_build_23 hl (by decide) rfl (fun ls hl => ?_)
  refine lpL_build C hL (by omega) (fun z u H locs ls B S hl => ?_) NN 0 (by omega) z0 ra_u0 _ _ _ rB_0 S (lv_sub hl [3, 4, 2, 1, 0] rfl)
  refine W.widen (k := 1600) (n := 5600) (by omega) (by omega) ?_
  refine lv_aload_n hx hb dL_build_85 rfl (lv_at hl 2 rfl) ?_
  exact g_areto C hrt S.1 S.2.1 S.2.2 dL_build_86 ⟨z, u, NN, by omega, B, rfl⟩
end
section
/-! THE CLASS'S STATE but for the rows that are only tried (11, 12, 13) -/
def E9 (u v : S0) : Prop := v.2 = u.2 ∧ ∀ k : Nat, k < 9 → v.1 k = u.1 k
theorem E9.rf {u : S0} : E9 u u := ⟨rfl, fun _ _ => rfl⟩
theorem E9.tr {u v w : S0} (h : E9 u v) (k : E9 v w) : E9 u w := ⟨k.1.trans h.1, fun j hj => (k.2 j hj).trans (h.2 j hj)⟩
theorem E9.n {u v : S0} (h : E9 u v) : v.2.1 = u.2.1 := congrArg Prod.fst h.1
theorem E9.s {u v : S0} {k i : Nat} {x : Int32} (h : E9 u v) (hk : 9 ≤ k) : E9 u (ra_s v k i x) := ⟨h.1, fun j hj => (ra_sN (by omega)).trans (h.2 j hj)⟩
theorem e9_hc {u v : S0} (h : E9 u v) (r : Nat) : rf_hc v r = rf_hc u r := by
  unfold rf_hc
  rw [h.2 2 (by decide), h.2 3 (by decide)]
theorem e9_pc {u v : S0} (h : E9 u v) (r : Nat) : rf_pc v 7 r = rf_pc u 7 r := by
  unfold rf_pc
  rw [h.2 7 (by decide), h.2 1 (by decide)]
theorem e9_hw {u v : S0} (h : E9 u v) (r : Nat) : rf_hw v 7 r = rf_hw u 7 r := by
  unfold rf_hw
  rw [h.2 7 (by decide), e9_hc h]
theorem e9_ww {u v : S0} (h : E9 u v) (r : Nat) : rf_ww v 7 r = rf_ww u 7 r := by
  unfold rf_ww
  rw [h.2 0 (by decide), e9_pc h, e9_hw h]
theorem e9_cm {u v : S0} (h : E9 u v) (r : Nat) : rf_cm v r = rf_cm u r := by
  unfold rf_cm
  rw [e9_ww h, h.2 5 (by decide)]
theorem e9_tk {u v : S0} (h : E9 u v) (r : Nat) : rf_tk v r = rf_tk u r := by
  unfold rf_tk rf_tb
  rw [e9_cm h, h.2 4 (by decide), h.2 7 (by decide)]
theorem e9_L {u v : S0} (h : E9 u v) (r : Nat) : rl_L v r = rl_L u r := by
  unfold rl_L
  rw [e9_cm h, e9_tk h]
theorem e9_sm {f g : Nat → Int32} : ∀ n : Nat, (∀ i : Nat, i < n → f i = g i) → rf_sm f n = rf_sm g n
  | 0, _ => rfl
  | n + 1, h => by
    show rf_sm f n + f n = rf_sm g n + g n
    rw [e9_sm n (fun i hi => h i (by omega)), h n (Nat.lt_succ_self n)]
theorem e9_rs {u v : S0} (h : E9 u v) {cI cR : ClassId} {o : Nat} {z : SA} : rs_w cI cR o z v = rs_w cI cR o z u := rs_congr h.1 (h.2 7 (by decide)) (h.2 8 (by decide)) (fun j k hj _ => by rw [h.2 j (by omega)])
theorem e9_told {u v : S0} (h : E9 u v) (r : Nat) {k : Nat} (hk : k < 7) : rf_told v r k = u.1 k r := by
  unfold rf_told
  rw [if_pos hk, h.2 k (by omega)]
theorem e9_told7 {u v : S0} (h : E9 u v) (r : Nat) : rf_told v r 7 = rf_hc u r := by
  unfold rf_told
  rw [if_neg (by decide), e9_hc h]
theorem e9_w0 {u v : S0} (h : E9 u v) (r : Nat) : rf_wage v r 0 = rf_pc u 7 r := e9_pc h r
theorem e9_w1 {u v : S0} (h : E9 u v) (r : Nat) : rf_wage v r 1 = rf_hw u 7 r := e9_hw h r
theorem e9_w2 {u v : S0} (h : E9 u v) (r : Nat) : rf_wage v r 2 = rf_ww u 7 r := e9_ww h r
theorem e9_w3 {u v : S0} (h : E9 u v) (r : Nat) : rf_wage v r 3 = rf_cm u r := e9_cm h r
theorem e9_w4 {u v : S0} (h : E9 u v) (r : Nat) : rf_wage v r 4 = rf_tk u r := e9_tk h r
theorem e9_w5 {u v : S0} (h : E9 u v) (r : Nat) : rf_wage v r 5 = rl_L u r := e9_L h r
theorem e9_c0 {u v : S0} (h : E9 u v) : rf_cnt v 0 = u.2.2 := congrArg Prod.snd h.1
theorem e9_c1 {u v : S0} (h : E9 u v) : rf_cnt v 1 = nI u.2.1 := congrArg nI h.n
theorem e9_c2 {u v : S0} (h : E9 u v) : rf_cnt v 2 = rf_sm (u.1 4) u.2.1 := by
  show rf_sm (v.1 4) v.2.1 = _
  rw [h.2 4 (by decide), h.n]
theorem e9_c3 {u v : S0} (h : E9 u v) : rf_cnt v 3 = rf_sm (u.1 5) u.2.1 := by
  show rf_sm (v.1 5) v.2.1 = _
  rw [h.2 5 (by decide), h.n]
theorem e9_c4 {u v : S0} (h : E9 u v) : rf_cnt v 4 = rf_sm (fun c => u.1 8 c * rt_RX0_COIN_WORTH c) 3 := by
  show rf_sm (fun c => v.1 8 c * rt_RX0_COIN_WORTH c) 3 = _
  rw [h.2 8 (by decide)]
theorem e9_c5 {u v : S0} (h : E9 u v) : rf_cnt v 5 = rf_sm (rf_ww u 7) u.2.1 := by
  show rf_sm (rf_ww v 7) v.2.1 = _
  rw [h.n]
  exact e9_sm _ fun i _ => e9_ww h i
theorem e9_c6 {u v : S0} (h : E9 u v) : rf_cnt v 6 = rf_sm (u.1 6) u.2.1 := by
  show rf_sm (v.1 6) v.2.1 = _
  rw [h.2 6 (by decide), h.n]
theorem e9_mn {u v : S0} (h : E9 u v) : rf_mn v = rf_mn u := by
  unfold rf_mn
  rw [h.n, e9_sm u.2.1 fun i _ => e9_ww h i]
theorem e9_cp {u : S0} {a b : Nat} (hb : 9 ≤ b) : ∀ n : Nat, E9 u (rf_cp u a b n)
  | 0 => E9.rf
  | n + 1 => (e9_cp hb n).s hb
theorem e9_ho {u : S0} {k : Nat} {s : Int32} (hk : 9 ≤ k) : ∀ c : Nat, E9 u (rf_ho u k s c).2
  | 0 => E9.rf
  | c + 1 => ((e9_ho hk c).s hk).s (by decide)
theorem e9_ci {u : S0} : ∀ i : Nat, E9 u (rf_ci u i)
  | 0 => E9.rf
  | i + 1 => (e9_ci i).tr (e9_ho (by decide) 3)
theorem e9_lk {u : S0} : ∀ i : Nat, E9 u (rf_lk u i).2
  | 0 => E9.rf
  | i + 1 => (e9_lk i).tr (e9_ho (by decide) 3)
theorem e9_cs {u : S0} {r : Nat} : E9 u (rf_cs u r) := (e9_cp (by decide) 3).tr (e9_ci _)
theorem e9_lkS {u : S0} {n : Nat} : E9 u (rf_lk (rf_cp u 8 12 3) n).2 := (e9_cp (by decide) 3).tr (e9_lk _)
/-! coins by purses that agree -/
theorem ks_c {s : Int32} {p q : Nat → Int32} : ∀ c : Nat, (∀ j : Nat, j < c → p j = q j) → ks s p c = ks s q c
  | 0, _ => rfl
  | c + 1, h => by
    rw [ks_1, ks_1]
    unfold km
    rw [ks_c c (fun j hj => h j (by omega)), h c (Nat.lt_succ_self c)]
theorem km_c {s : Int32} {p q : Nat → Int32} {c : Nat} (h : ∀ j : Nat, j < c + 1 → p j = q j) : km s p c = km s q c := by
  unfold km
  rw [ks_c c (fun j hj => h j (by omega)), h c (Nat.lt_succ_self c)]
theorem st_9 {u v : S0} (h : E9 u v) (r : Nat) : E9 (rf_st u r) (rf_st v r) ∧ rf_sv v r = rf_sv u r := by
  obtain ⟨a2, a8, -, ao, a0, a7, a1, a2', a3, a4, a5, a6, asv⟩ := st_rows (u := u) (r := r)
  obtain ⟨b2, b8, -, bo, b0, b7, b1, b2', b3, b4, b5, b6, bsv⟩ := st_rows (u := v) (r := r)
  have eL := e9_L h r
  have e8 := h.2 8 (by decide)
  refine ⟨⟨by rw [a2, b2, h.1], fun k hk => funext fun j => ?_⟩, by rw [asv, bsv, eL, e8]⟩
  by_cases hk8 : k = 8
  · subst hk8
    rw [a8, b8, eL, e8]
  · by_cases hj : j = r
    · subst hj
      rcases (show k = 0 ∨ k = 1 ∨ k = 2 ∨ k = 3 ∨ k = 4 ∨ k = 5 ∨ k = 6 ∨ k = 7 by omega) with rfl | rfl | rfl | rfl | rfl | rfl | rfl | rfl
      · rw [a0, b0, h.2 0 (by decide)]
      · rw [a1, b1]
      · rw [a2', b2']
      · rw [a3, b3]
      · rw [a4, b4, h.2 4 (by decide), e9_tk h]
      · rw [a5, b5, eL, e8]
      · rw [a6, b6, h.2 6 (by decide), eL, e8]
      · rw [a7, b7, h.2 7 (by decide)]
    · rw [ao k j (by omega) hj, bo k j (by omega) hj, h.2 k (by omega)]
theorem py_9 {u v : S0} (h : E9 u v) : ∀ i : Nat, E9 (rf_py u i).2 (rf_py v i).2 ∧ (rf_py v i).1 = (rf_py u i).1
  | 0 => ⟨h, rfl⟩
  | i + 1 => by
    obtain ⟨h1, h2⟩ := py_9 h i
    obtain ⟨s1, s2⟩ := st_9 h1 i
    refine ⟨s1, ?_⟩
    show (rf_py v i).1 + rf_sv (rf_py v i).2 i = (rf_py u i).1 + rf_sv (rf_py u i).2 i
    rw [h2, s2]
theorem pay_9 {u v : S0} (h : E9 u v) : E9 (rf_pay u) ((rf_py v v.2.1).2.1, (rf_py v v.2.1).2.2.1, (rf_py v v.2.1).2.2.2 + 1) ∧ (rf_py v v.2.1).1 = (rf_py u u.2.1).1 := by
  rw [h.n]
  obtain ⟨h1, h2⟩ := py_9 h u.2.1
  refine ⟨⟨?_, fun k hk => h1.2 k hk⟩, h2⟩
  show ((rf_py v u.2.1).2.2.1, (rf_py v u.2.1).2.2.2 + 1) = (u.2.1, u.2.2 + 1)
  rw [h1.1, rf_py2]
/-! a reaper's pay is that of the week's start -/
theorem L_c {u v : S0} {r : Nat} (h : ∀ k : Nat, k < 7 → v.1 k r = u.1 k r) (h7 : v.1 7 = u.1 7) : rl_L v r = rl_L u r ∧ rf_tk v r = rf_tk u r := by
  have hc : rf_hc v r = rf_hc u r := by
    unfold rf_hc
    rw [h 2 (by decide), h 3 (by decide)]
  have pc : rf_pc v 7 r = rf_pc u 7 r := by
    unfold rf_pc
    rw [h7, h 1 (by decide)]
  have hw : rf_hw v 7 r = rf_hw u 7 r := by
    unfold rf_hw
    rw [h7, hc]
  have ww : rf_ww v 7 r = rf_ww u 7 r := by
    unfold rf_ww
    rw [h 0 (by decide), pc, hw]
  have cm : rf_cm v r = rf_cm u r := by
    unfold rf_cm
    rw [ww, h 5 (by decide)]
  have tk : rf_tk v r = rf_tk u r := by
    unfold rf_tk rf_tb
    rw [cm, h 4 (by decide), h7]
  refine ⟨?_, tk⟩
  unfold rl_L
  rw [cm, tk]
/-- what the row k of the reaper r is while others are paid -/
theorem py_o {T : Nat} {u : S0} (B : rB T u) {i r k : Nat} (hi : i ≤ u.2.1) (hr : i ≤ r) (hk : k < 7) : (rf_py u i).2.1 k r = u.1 k r := (pyI_py B i hi).2.2.2.2.1 k r hk hr
theorem py_7 {T : Nat} {u : S0} (B : rB T u) {i : Nat} (hi : i ≤ u.2.1) : (rf_py u i).2.1 7 = u.1 7 := (pyI_py B i hi).2.2.1
theorem py_L {T : Nat} {u : S0} (B : rB T u) {r : Nat} (hr : r < u.2.1) : rl_L (rf_py u r).2 r = rl_L u r ∧ rf_tk (rf_py u r).2 r = rf_tk u r := L_c (fun k hk => py_o B (by omega) (Nat.le_refl r) hk) (py_7 B (by omega))
/-- behind its own pay a reaper's rows stay -/
theorem py_k {u : S0} {r k : Nat} (hk : k < 8) : ∀ i : Nat, r < i → (rf_py u i).2.1 k r = (rf_py u (r + 1)).2.1 k r
  | 0, h => absurd h (Nat.not_lt_zero r)
  | i + 1, h => by
    by_cases e : r = i
    · subst e
      rfl
    · show (rf_st (rf_py u i).2 i).1 k r = _
      rw [st_rows.2.2.2.1 k r hk e]
      exact py_k hk i (by omega)
/-- the purse behind i reapers -/
def pu (u : S0) (i : Nat) : Nat → Int32 := (rf_py u i).2.1 8
theorem pu_1 {T : Nat} {u : S0} (B : rB T u) {i c : Nat} (hi : i < u.2.1) (hc : c < 3) : pu u (i + 1) c = pu u i c - km (rl_L u i) (pu u i) c := by
  show (rf_st (rf_py u i).2 i).1 8 c = _
  rw [st_rows.2.1 c, if_pos hc, (py_L B hi).1]
  rfl
theorem pu_9 {u v : S0} (h : E9 u v) (i : Nat) : pu v i = pu u i := (py_9 h i).1.2 8 (by decide)
/-- what coins tells -/
theorem ci_p {T : Nat} {u : S0} (B : rB T u) : ∀ i : Nat, i ≤ u.2.1 → ∀ j : Nat, j < 3 → (rf_ci (rf_cp u 8 12 3) i).1 12 j = pu u i j
  | 0, _, j, hj => by
    show (rf_cp u 8 12 3).1 12 j = u.1 8 j
    rcases (show j = 0 ∨ j = 1 ∨ j = 2 by omega) with rfl | rfl | rfl
    · show (ra_s (ra_s (ra_s u 12 0 (u.1 8 0)) 12 1 _) 12 2 _).1 12 0 = _
      rw [ra_sO (by decide), ra_sO (by decide), ra_sS]
    · show (ra_s (ra_s (ra_s u 12 0 (u.1 8 0)) 12 1 ((ra_s u 12 0 (u.1 8 0)).1 8 1)) 12 2 _).1 12 1 = _
      rw [ra_sO (by decide), ra_sS, ra_sN (by decide)]
    · show (ra_s (ra_s (ra_s u 12 0 (u.1 8 0)) 12 1 ((ra_s u 12 0 (u.1 8 0)).1 8 1)) 12 2 ((ra_s (ra_s u 12 0 (u.1 8 0)) 12 1 ((ra_s u 12 0 (u.1 8 0)).1 8 1)).1 8 2)).1 12 2 = _
      rw [ra_sS, ra_sN (by decide), ra_sN (by decide)]
  | i + 1, hi, j, hj => by
    have ih := ci_p B i (by omega)
    have he : E9 u (rf_ci (rf_cp u 8 12 3) i) := (e9_cp (by decide) 3).tr (e9_ci i)
    show (rf_ho (rf_ci (rf_cp u 8 12 3) i) 12 (rf_re (rf_ci (rf_cp u 8 12 3) i) i) 3).2.1 12 j = _
    rw [(ho_1 (Or.inr rfl) 3).2.1 j, if_pos hj, ih j hj, pu_1 B (by omega) hj, show rf_re (rf_ci (rf_cp u 8 12 3) i) i = rl_L u i from e9_L he i, km_c (q := pu u i) (fun k hk => ih k (by omega))]
theorem co_m {T : Nat} {u : S0} (B : rB T u) {r c : Nat} (hr : r < u.2.1) (hc : c < 3) : rf_co u r c = km (rl_L u r) (pu u r) c := by
  have he : E9 u (rf_ci (rf_cp u 8 12 3) r) := (e9_cp (by decide) 3).tr (e9_ci r)
  show (rf_ho (rf_ci (rf_cp u 8 12 3) r) 12 (rf_re (rf_ci (rf_cp u 8 12 3) r) r) 3).2.1 13 c = _
  rw [(ho_1 (Or.inr rfl) 3).2.2.1 c, if_pos hc, show rf_re (rf_ci (rf_cp u 8 12 3) r) r = rl_L u r from e9_L he r, km_c (q := pu u r) (fun k hk => ci_p B r (by omega) k (by omega))]
theorem B_9 {T : Nat} {u v : S0} (B : rB T u) (h : E9 u v) : rB T v := by
  obtain ⟨h1, h2, h3, h4, h5, h6⟩ := B
  refine ⟨by rw [h.n]; exact h1, h2, h3.of (h.2 7 (by decide)), fun c hc => by rw [h.2 8 (by decide)]; exact h4 c hc, fun r hr => (h5 r hr).of fun k hk => by rw [h.2 k (by omega)], fun r k hr h8 hk1 hk7 => by rw [h.2 k (by omega)]; exact h6 r k (by rw [← h.n]; exact hr) h8 hk1 hk7⟩
theorem e9_co {T : Nat} {u v : S0} (B : rB T u) (h : E9 u v) {r c : Nat} (hr : r < u.2.1) (hc : c < 3) : rf_co v r c = km (rl_L u r) (pu u r) c := by
  rw [co_m (B_9 B h) (by rw [h.n]; exact hr) hc, e9_L h, pu_9 h]
/-- what was handed -/
theorem hd_m {T : Nat} {u : S0} (B : rB T u) {r c : Nat} (hr : r < u.2.1) (hc : c < 3) : (rf_py u (r + 1)).2.1 13 c = km (rl_L u r) (pu u r) c := by
  show (rf_st (rf_py u r).2 r).1 13 c = _
  rw [st_rows.2.2.1 c, if_pos hc, (py_L B hr).1]
  rfl
/-- pennies that lack -/
theorem lk_m {T : Nat} {u : S0} (B : rB T u) : ∀ i : Nat, i ≤ u.2.1 → (rf_lk (rf_cp u 8 12 3) i).1 = rf_sm (fun r => ks (rl_L u r) (pu u r) 3 / 4) i ∧ (rf_lk (rf_cp u 8 12 3) i).2 = rf_ci (rf_cp u 8 12 3) i
  | 0, _ => ⟨rfl, rfl⟩
  | i + 1, hi => by
    obtain ⟨h1, h2⟩ := lk_m B i (by omega)
    have he : E9 u (rf_ci (rf_cp u 8 12 3) i) := (e9_cp (by decide) 3).tr (e9_ci i)
    refine ⟨?_, ?_⟩
    · show (rf_lk (rf_cp u 8 12 3) i).1 + (rf_re (rf_lk (rf_cp u 8 12 3) i).2 i - rf_hv (rf_lk (rf_cp u 8 12 3) i).2 12 (rf_re (rf_lk (rf_cp u 8 12 3) i).2 i)) / 4 = rf_sm (fun r => ks (rl_L u r) (pu u r) 3 / 4) i + ks (rl_L u i) (pu u i) 3 / 4
      rw [h1, h2, show rf_re (rf_ci (rf_cp u 8 12 3) i) i = rl_L u i from e9_L he i]
      unfold rf_hv
      rw [(ho_1 (Or.inr rfl) 3).1, i32_a, ks_c (q := pu u i) 3 (fun k hk => ci_p B i (by omega) k hk)]
    · show rf_hs (rf_lk (rf_cp u 8 12 3) i).2 12 (rf_re (rf_lk (rf_cp u 8 12 3) i).2 i) = rf_hs (rf_ci (rf_cp u 8 12 3) i) 12 (rf_re (rf_ci (rf_cp u 8 12 3) i) i)
      rw [h2]
theorem e9_lkA {T : Nat} {u v : S0} (B : rB T u) (h : E9 u v) : (rf_lk (rf_cp v 8 12 3) v.2.1).1 = rf_sm (fun r => ks (rl_L u r) (pu u r) 3 / 4) u.2.1 := by
  rw [(lk_m (B_9 B h) v.2.1 (Nat.le_refl _)).1, h.n]
  exact e9_sm _ fun r _ => by rw [e9_L h, pu_9 h]
end
section
/-! BEHIND PAYING -/
def its (u : S0) (r : Nat) : Int32 := 0 + 120 * km (rl_L u r) (pu u r) 0 + 48 * km (rl_L u r) (pu u r) 1 + 4 * km (rl_L u r) (pu u r) 2
theorem i32_j (s a b c : Int32) : 0 + 120 * a + 48 * b + 4 * c = s - (s - a * 120 - b * 48 - c * 4) := by grind
theorem i32_k (s x : Int32) : s - (s - x) = x := by grind
theorem its_e (u : S0) (r : Nat) : its u r = rl_L u r - ks (rl_L u r) (pu u r) 3 := i32_j _ _ _ _
section PA
variable {T : Nat} {u : S0} {r : Nat}
theorem pa_s (B : rB T u) (hr : r < u.2.1) : rf_sv (rf_py u r).2 r = its u r := by
  rw [st_sv, (py_L B hr).1, its_e]
  rfl
theorem pa_all (B : rB T u) : ∀ i : Nat, i ≤ u.2.1 → rf_sm (its u) i = (rf_py u i).1
  | 0, _ => rfl
  | i + 1, hi => by
    show rf_sm (its u) i + its u i = (rf_py u i).1 + rf_sv (rf_py u i).2 i
    rw [pa_all B i (by omega), pa_s B (by omega)]
theorem pa_k {k : Nat} (hk : k < 8) (hr : r < u.2.1) : (rf_pay u).1 k r = (rf_st (rf_py u r).2 r).1 k r := py_k hk u.2.1 hr
theorem pa_6 (B : rB T u) (hr : r < u.2.1) : (rf_pay u).1 6 r = u.1 6 r + its u r := by
  rw [pa_k (by decide) hr, st_rows.2.2.2.2.2.2.2.2.2.2.2.1, (py_L B hr).1, py_o B (by omega) (Nat.le_refl r) (by decide), its_e]
  rfl
theorem pa_4 (B : rB T u) (hr : r < u.2.1) : (rf_pay u).1 4 r = u.1 4 r - rf_tk u r := by
  rw [pa_k (by decide) hr, st_rows.2.2.2.2.2.2.2.2.2.1, (py_L B hr).2, py_o B (by omega) (Nat.le_refl r) (by decide)]
theorem pa_5 (B : rB T u) (hr : r < u.2.1) : (rf_pay u).1 5 r = ks (rl_L u r) (pu u r) 3 := by
  rw [pa_k (by decide) hr, st_rows.2.2.2.2.2.2.2.2.2.2.1, (py_L B hr).1]
  rfl
theorem pa_5i (B : rB T u) (hr : r < u.2.1) : (rf_pay u).1 5 r = rf_cm u r - rf_tk u r - its u r := by
  rw [pa_5 B hr, its_e]
  exact (i32_k (rl_L u r) _).symm
theorem pa_1 (hr : r < u.2.1) : (rf_pay u).1 1 r = 0 ∧ (rf_pay u).1 2 r = 0 ∧ (rf_pay u).1 3 r = 0 := by
  rw [pa_k (by decide) hr, pa_k (by decide) hr, pa_k (by decide) hr]
  exact ⟨st_rows.2.2.2.2.2.2.1, st_rows.2.2.2.2.2.2.2.1, st_rows.2.2.2.2.2.2.2.2.1⟩
theorem pu_b (B : rB T u) (hT1 : T + 1 ≤ 400) {i c : Nat} (hi : i ≤ u.2.1) (hc : c < 3) : 0 ≤ (pu u i c).toInt ∧ (pu u i c).toInt ≤ 500 * T := (pyI_py B i hi).2.2.2.1 c hc
theorem km_b (B : rB T u) (hT1 : T + 1 ≤ 400) (hr : r < u.2.1) : ((0 ≤ (km (rl_L u r) (pu u r) 0).toInt ∧ (km (rl_L u r) (pu u r) 0).toInt ≤ (pu u r 0).toInt) ∧ (0 ≤ (km (rl_L u r) (pu u r) 1).toInt ∧ (km (rl_L u r) (pu u r) 1).toInt ≤ (pu u r 1).toInt) ∧ (0 ≤ (km (rl_L u r) (pu u r) 2).toInt ∧ (km (rl_L u r) (pu u r) 2).toInt ≤ (pu u r 2).toInt)) ∧ 0 ≤ (ks (rl_L u r) (pu u r) 3).toInt := by
  have R := B.2.2.2.2.1 r (Nat.lt_of_lt_of_le hr B.1)
  have Lt := L_t B.2.2.1 R B.2.1
  obtain ⟨k0, k1, k2, k3, -⟩ := ks_all (p := pu u r) Lt.2 (fun c hc => (pu_b B hT1 (Nat.le_of_lt hr) hc).1)
  exact ⟨⟨k0, k1, k2⟩, k3⟩
theorem km_0 (B : rB T u) (hT1 : T + 1 ≤ 400) (hr : r < u.2.1) {c : Nat} (hc : c < 3) : ¬ km (rl_L u r) (pu u r) c < 0 := by
  obtain ⟨⟨k0, k1, k2⟩, -⟩ := km_b B hT1 hr
  rw [tI_lt, z32]
  rcases (show c = 0 ∨ c = 1 ∨ c = 2 by omega) with rfl | rfl | rfl <;> omega
theorem pa_5n (B : rB T u) (hT1 : T + 1 ≤ 400) (hr : r < u.2.1) : ¬ (rf_pay u).1 5 r < 0 := by
  rw [pa_5 B hr, tI_lt, z32]
  have := (km_b B hT1 hr).2
  omega
theorem pu_dec (B : rB T u) (hT1 : T + 1 ≤ 400) {c : Nat} (hc : c < 3) : ∀ (n i : Nat), i + n ≤ u.2.1 → (pu u (i + n) c).toInt ≤ (pu u i c).toInt
  | 0, i, _ => Int.le_refl _
  | n + 1, i, h => by
    have ih := pu_dec B hT1 hc n i (by omega)
    have b := pu_b B hT1 (i := i + n) (by omega) hc
    obtain ⟨⟨k0, k1, k2⟩, -⟩ := km_b B hT1 (r := i + n) (by omega)
    have kb : 0 ≤ (km (rl_L u (i + n)) (pu u (i + n)) c).toInt ∧ (km (rl_L u (i + n)) (pu u (i + n)) c).toInt ≤ (pu u (i + n) c).toInt := by
      rcases (show c = 0 ∨ c = 1 ∨ c = 2 by omega) with rfl | rfl | rfl
      · exact k0
      · exact k1
      · exact k2
    have hT := B.2.1
    have e := pu_1 B (i := i + n) (by omega) hc
    rw [show i + (n + 1) = i + n + 1 by omega, e, tI_sub (by omega) (by omega)]
    omega
theorem pa_8 {c : Nat} : (rf_pay u).1 8 c = pu u u.2.1 c := rfl
/-- no coin is kept that would go -/
theorem pa_c (B : rB T u) (hT1 : T + 1 ≤ 400) (hr : r < u.2.1) {c : Nat} (hc : c < 3) (h : rt_RX0_COIN_WORTH c ≤ (rf_pay u).1 5 r) : (rf_pay u).1 8 c ≤ 0 := by
  rw [pa_5 B hr, tI_le] at h
  rw [pa_8, tI_le, z32]
  have R := B.2.2.2.2.1 r (Nat.lt_of_lt_of_le hr B.1)
  have Lt := L_t B.2.2.1 R B.2.1
  have hp : ∀ c : Nat, c < 3 → 0 ≤ (pu u r c).toInt := fun c hc => (pu_b B hT1 (Nat.le_of_lt hr) hc).1
  have kn := ks_n Lt.2 hp
  have h0 : 0 ≤ (ks (rl_L u r) (pu u r) c).toInt := by
    rcases (show c = 0 ∨ c = 1 ∨ c = 2 by omega) with rfl | rfl | rfl
    · exact Lt.2
    · exact kn.1
    · exact kn.2.1
  obtain ⟨a1, a2, a3, a4, a5⟩ := km_t hp hc h0
  have mono : (ks (rl_L u r) (pu u r) 3).toInt ≤ (ks (rl_L u r) (pu u r) (c + 1)).toInt := by
    obtain ⟨-, b2, -, b4, -⟩ := km_t hp (c := 1) (by omega) kn.1
    obtain ⟨-, d2, -, d4, -⟩ := km_t hp (c := 2) (by omega) kn.2.1
    have w1 : (rt_RX0_COIN_WORTH 1).toInt = 48 := rfl
    have w2 : (rt_RX0_COIN_WORTH 2).toInt = 4 := rfl
    rw [w1] at b4
    rw [w2] at d4
    have z1 : (ks (rl_L u r) (pu u r) (0 + 1)).toInt = (ks (rl_L u r) (pu u r) 1).toInt := rfl
    have z2 : (ks (rl_L u r) (pu u r) (1 + 1)).toInt = (ks (rl_L u r) (pu u r) 2).toInt := rfl
    have z3 : (ks (rl_L u r) (pu u r) (2 + 1)).toInt = (ks (rl_L u r) (pu u r) 3).toInt := rfl
    rcases (show c = 0 ∨ c = 1 ∨ c = 2 by omega) with rfl | rfl | rfl <;> omega
  have w := cw_b hc
  have hfull : (km (rl_L u r) (pu u r) c).toInt = (pu u r c).toInt := by
    rcases (show (km (rl_L u r) (pu u r) c).toInt = (ks (rl_L u r) (pu u r) c).toInt / (rt_RX0_COIN_WORTH c).toInt ∨ (km (rl_L u r) (pu u r) c).toInt = (pu u r c).toInt by omega) with e | e
    · have := Int.lt_ediv_add_one_mul_self (ks (rl_L u r) (pu u r) c).toInt (show 0 < (rt_RX0_COIN_WORTH c).toInt by omega)
      rw [← e, Int.add_mul, Int.one_mul] at this
      omega
    · exact e
  have hT := B.2.1
  have b := pu_b B hT1 (Nat.le_of_lt hr) hc
  have z : (pu u (r + 1) c).toInt = 0 := by
    rw [pu_1 B hr hc, tI_sub (by omega) (by omega)]
    omega
  have d := pu_dec B hT1 hc (u.2.1 - (r + 1)) (r + 1) (by omega)
  rw [show r + 1 + (u.2.1 - (r + 1)) = u.2.1 by omega] at d
  omega
theorem pa_8n (B : rB T u) (hT1 : T + 1 ≤ 400) {c : Nat} (hc : c < 3) : ¬ (rf_pay u).1 8 c < 0 := by
  rw [pa_8, tI_lt, z32]
  have := pu_b B hT1 (Nat.le_refl _) hc
  omega
theorem pcI_0 {a m b : Int} (hm : 0 ≤ m) : pcI a 0 m b = 0 := by
  unfold pcI
  rw [show min 0 m = 0 by omega]
  simp
/-- a week begins without wages -/
theorem ww_0 (B : rB T u) (hr : r < 8) (h : u.1 1 r = 0 ∧ u.1 2 r = 0 ∧ u.1 3 r = 0) : rf_ww u 7 r = 0 := by
  have R := B.2.2.2.2.1 r hr
  have p0 : rf_pc u 7 r = 0 := by
    rw [tI_eq, tI_pc B.2.2.1 R, h.1]
    exact pcI_0 (by have := B.2.2.1.2.2.1; omega)
  have w0 : rf_hw u 7 r = 0 := by
    rw [tI_eq, (tI_hw B.2.2.1 R B.2.1).1, h.2.1, h.2.2]
    show (u.1 7 1).toInt * hcI 0 0 = 0
    rw [show hcI 0 0 = 0 from rfl, Int.mul_zero]
  unfold rf_ww
  rw [p0, w0]
  split
  · rfl
  · split
    · rfl
    · rfl
theorem pa_w (B : rB T u) (hT1 : T + 1 ≤ 400) (hr : r < u.2.1) : rf_ww (rf_pay u) 7 r = 0 := ww_0 (rB_pay B hT1) (Nat.lt_of_lt_of_le hr B.1) (pa_1 hr)
theorem i32_z (a : Int32) : 0 + a = a := by grind
theorem pa_cm (B : rB T u) (hT1 : T + 1 ≤ 400) (hr : r < u.2.1) : rf_cm (rf_pay u) r = (rf_pay u).1 5 r := by
  unfold rf_cm
  rw [pa_w B hT1 hr]
  exact i32_z _
/-! AHEAD OF PAYING -/
theorem pb_w0 (B : rB T u) (hr : r < u.2.1) : ¬ rf_ww u 7 r < 0 := by
  have := ww_bd B.2.2.1 (B.2.2.2.2.1 r (Nat.lt_of_lt_of_le hr B.1)) B.2.1
  rw [tI_lt, z32]
  omega
theorem pb_kd (B : rB T u) (hr : r < u.2.1) : u.1 0 r = 0 ∨ u.1 0 r = 1 ∨ u.1 0 r = 2 := by
  have R := (B.2.2.2.2.1 r (Nat.lt_of_lt_of_le hr B.1)).1
  rw [tI_eq, tI_eq, tI_eq]
  show (u.1 0 r).toInt = 0 ∨ (u.1 0 r).toInt = 1 ∨ (u.1 0 r).toInt = 2
  omega
theorem pb_0 (h : u.1 0 r = 0) : rf_ww u 7 r = rf_pc u 7 r := (rl_w0 h).symm
theorem pb_1 (h : u.1 0 r = 1) : rf_ww u 7 r = rf_hw u 7 r := by
  rw [rf_ww, if_neg (by rw [h]; decide), if_pos h]
theorem pb_2 (h : u.1 0 r = 2) : ¬ rf_ww u 7 r < rf_pc u 7 r ∧ ¬ rf_ww u 7 r < rf_hw u 7 r ∧ (¬ rf_ww u 7 r = rf_pc u 7 r → rf_ww u 7 r = rf_hw u 7 r) := by
  have e : (rf_ww u 7 r).toInt = max (rf_pc u 7 r).toInt (rf_hw u 7 r).toInt := by
    rw [rf_ww, if_neg (by rw [h]; decide), if_neg (by rw [h]; decide), tI_max]
  rw [tI_lt, tI_lt, tI_eq, tI_eq]
  omega
theorem pb_tk (B : rB T u) (hr : r < u.2.1) : ¬ rf_tk u r < 0 ∧ ¬ u.1 4 r < rf_tk u r ∧ ¬ rf_cm u r < rf_tk u r := by
  have k := tk_t B.2.2.1 (B.2.2.2.2.1 r (Nat.lt_of_lt_of_le hr B.1)) B.2.1
  rw [tI_lt, tI_lt, tI_lt, z32]
  omega
theorem pb_h1 (B : rB T u) (hr : r < u.2.1) (h : ¬ u.1 2 r ≤ 60) : rf_hc u r ≤ u.1 2 r + (u.1 2 r - 60) / 2 := by
  have R := B.2.2.2.2.1 r (Nat.lt_of_lt_of_le hr B.1)
  have e := tI_hc R B.2.1
  have h2 := R.2.2.1
  have h3 := R.2.2.2.1
  have s : (60 : Int32).toInt = 60 := rfl
  rw [tI_le, s] at h
  have e1 : (u.1 2 r - 60).toInt = (u.1 2 r).toInt - 60 := by rw [tI_sub (by rw [s]; omega) (by rw [s]; omega), s]
  have e2 : ((u.1 2 r - 60) / 2).toInt = ((u.1 2 r).toInt - 60) / 2 := by rw [tI_div (by omega) (by decide), e1]; rfl
  rw [tI_le, e, tI_add (by omega) (by omega), e2]
  unfold hcI
  omega
theorem pb_h2 (B : rB T u) (hr : r < u.2.1) (h : u.1 2 r ≤ 60) : rf_hc u r ≤ u.1 2 r + 0 := by
  have R := B.2.2.2.2.1 r (Nat.lt_of_lt_of_le hr B.1)
  have e := tI_hc R B.2.1
  have h2 := R.2.2.1
  have h3 := R.2.2.2.1
  rw [tI_le, show (60 : Int32).toInt = 60 from rfl] at h
  rw [i32_0, tI_le, e]
  unfold hcI
  omega
end PA
end
