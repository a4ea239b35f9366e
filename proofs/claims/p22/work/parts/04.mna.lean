/-! 'new int[n][k]': a row of our own for multianewarray of two dimensions. The walk is followed by an invariant over the inner rows made so far. -/
section GMNA
variable {p : Program} {l : Launch} {e : Env} {R : Room} {s : State} {m : MethodId} {args : Array Value} {below : List Frame} {meth : Method} {c : Code} {H : Heap} {locs : List Loc} {cells slots : Nat} {Q : State → Prop}
/-- i inner rows of M zeros stand behind the outer row of N -/
def gmI (p : Program) (l : Launch) (e : Env) (R : Room) (s : State) (m : MethodId) (args : Array Value) (below : List Frame) (meth : Method) (c : Code) (locs : List Loc) (cells slots : Nat) (T : State) (cA comp : ClassId) (N M i : Nat) (U : State) : Prop :=
  ∃ L : List Loc, Stand p l e R s m args below meth c U L (cells + 1 + i) (slots + N + i * M) ∧ (∀ x ∈ L, x ∈ locs ∨ x.base = T.heap.size) ∧ U.vm = T.vm ∧ U.heap.size = T.heap.size + 1 + i ∧ U.slotsUsed = T.slotsUsed + N + i * M ∧
    U.heap[T.heap.size]? = some (arrV cA N (fun j => if j < i then .ref (T.heap.size + 1 + j) else .null)) ∧ (∀ j : Nat, j < i → U.heap[T.heap.size + 1 + j]? = some (arrV comp M (fun _ => .int 0))) ∧ (∀ q : Nat, q < T.heap.size → U.heap[q]? = T.heap[q]?)
theorem gmI_0 {T : State} {cA comp : ClassId} {N M : Nat} (X : Stand p l e R s m args below meth c T locs cells slots) : gmI p l e R s m args below meth c locs cells slots T cA comp N M 0 (T.pushCell { cls := cA, slots := Array.replicate N .null }) := by
  have X1 := X.pushed { cls := cA, slots := Array.replicate N .null }
  refine ⟨locs, by simpa using X1, fun x h => Or.inl h, rfl, by simp, by simp, ?_, fun j h => absurd h (Nat.not_lt_zero j), fun q h => State.heap_pushCell_of_lt _ _ h⟩
  rw [State.heap_pushCell_size]
  exact congrArg some (arrV_new cA N .null)
theorem gmI_1 {T U : State} {cA comp : ClassId} {N M i : Nat} (hi : i < N) (h : gmI p l e R s m args below meth c locs cells slots T cA comp N M i U) :
    gmI p l e R s m args below meth c locs cells slots T cA comp N M (i + 1) ((U.pushCell { cls := comp, slots := Array.replicate M (.int 0) }).setCell T.heap.size ((arrV cA N (fun j => if j < i then .ref (T.heap.size + 1 + j) else .null)).setSlot i (.ref U.heap.size))) := by
  obtain ⟨L, X, hL, hv, hz, hu, ho, hr, hk⟩ := h
  have hlt : T.heap.size < U.heap.size := by omega
  have ho' : (U.pushCell { cls := comp, slots := Array.replicate M (.int 0) }).heap[T.heap.size]? = some (arrV cA N (fun j => if j < i then .ref (T.heap.size + 1 + j) else .null)) := by
    rw [State.heap_pushCell_of_lt (h := hlt)]
    exact ho
  have X2 := (X.pushed { cls := comp, slots := Array.replicate M (.int 0) }).stored ho' i (.ref U.heap.size)
  have hsz : (Array.replicate M (Value.int 0)).size = M := Array.size_replicate
  refine ⟨L ++ [⟨T.heap.size, i⟩], ?_, ?_, hv, ?_, ?_, ?_, ?_, ?_⟩
  · have e1 : slots + N + (i + 1) * M = slots + N + i * M + (Array.replicate M (Value.int 0)).size := by rw [hsz, Nat.succ_mul]; omega
    rw [e1]
    exact X2
  · intro x hx
    rcases List.mem_append.mp hx with h | h
    · exact hL x h
    · rw [List.mem_singleton.mp h]
      exact Or.inr rfl
  · rw [size_setCell]
    show (U.heap.push _).size = _
    rw [Array.size_push, hz]
    omega
  · show U.slotsUsed + (Array.replicate M (Value.int 0)).size = _
    rw [hsz, hu, Nat.succ_mul]
    omega
  · rw [heapAt_setCell_self _ (Array.getElem?_eq_some_iff.mp ho').1, arrV_store]
    refine congrArg some (congrArg (arrV cA N) (funext fun j => ?_))
    by_cases e : j = i
    · subst e
      simp [updV, hz]
    · by_cases h : j < i
      · simp [updV, e, h, Nat.lt_succ_of_lt h]
      · simp [updV, e, h, show ¬ j < i + 1 by omega]
  · intro j hj
    rw [heapAt_setCell_ne _ (show T.heap.size ≠ T.heap.size + 1 + j by omega)]
    by_cases e : j = i
    · subst e
      rw [← hz, State.heap_pushCell_size]
      exact congrArg some (arrV_new comp M (.int 0))
    · rw [State.heap_pushCell_of_lt _ _ (show T.heap.size + 1 + j < U.heap.size by omega)]
      exact hr j (by omega)
  · intro q hq
    rw [heapAt_setCell_ne _ (show T.heap.size ≠ q by omega), State.heap_pushCell_of_lt _ _ (show q < U.heap.size by omega)]
    exact hk q hq
/-- the states that the loop goes through -/
def gmS (T : State) (cA comp : ClassId) (N M : Nat) : Nat → State
  | 0 => T.pushCell { cls := cA, slots := Array.replicate N .null }
  | i + 1 => ((gmS T cA comp N M i).pushCell { cls := comp, slots := Array.replicate M (.int 0) }).setCell T.heap.size ((arrV cA N (fun j => if j < i then .ref (T.heap.size + 1 + j) else .null)).setSlot i (.ref (gmS T cA comp N M i).heap.size))
theorem gmS_I {T : State} {cA comp : ClassId} {N M : Nat} (X : Stand p l e R s m args below meth c T locs cells slots) : ∀ i : Nat, i ≤ N → gmI p l e R s m args below meth c locs cells slots T cA comp N M i (gmS T cA comp N M i)
  | 0, _ => gmI_0 X
  | i + 1, h => gmI_1 h (gmS_I X i (Nat.le_of_succ_le h))
end GMNA
section GMNW
variable {p : Program} {l : Launch} {R : Room} {s : State} {m : MethodId} {args : Array Value} {below : List Frame} {meth : Method} {c : Code} {locs : List Loc} {cells slots : Nat}
variable {E : CtlPost} {e : Env} {d : Bool} {acts : List Action}
/-- the model's making of two dimensions, from a state T with the frame g on top -/
theorem gm_make {T : State} {g : JFrame} {cA comp c0 : ClassId} {k kc : Class} {n w : Int32} (X : Stand p l e R s m args below meth c T locs cells slots) (hk : T.vm.classes[cA]? = some k) (hkind : k.kind = .array comp (.array .int)) (hkc : T.vm.classes[comp]? = some kc) (hkindc : kc.kind = .array c0 .int) (hn : ¬ n < 0) (hw : ¬ w < 0)
    (hb1 : n.toNatClampNeg * 4 ≤ 536870912) (hb2 : w.toNatClampNeg * 4 ≤ 536870912) (hc : T.heap.size + 1 + n.toNatClampNeg ≤ e.platform.maxCells) (hs : T.slotsUsed + n.toNatClampNeg + n.toNatClampNeg * w.toNatClampNeg ≤ e.platform.maxSlots)
    {Q : Addr → Pre} (hq : ∀ (d' : Bool) (acts' : List Action), Q T.heap.size d' acts' ((gmS T cA comp n.toNatClampNeg w.toNatClampNeg n.toNatClampNeg).setTop g)) :
    wp (Jvm.Op.multianewarray.make cA [n, w]) Q E e d acts (T.setTop g) := by
  have hl1 : ¬ n.toNatClampNeg > e.platform.arrayLengthLimit := by rw [Launch.admits_arrayLengthLimit X.admits]; omega
  have hh1 : ¬ n.toNatClampNeg * componentBytes (.array .int) > e.platform.maxHeapBytes := by
    rw [Launch.admits_maxHeapBytes X.admits]; show ¬ n.toNatClampNeg * 4 > 536870912; omega
  have hl2 : ¬ w.toNatClampNeg > e.platform.arrayLengthLimit := by rw [Launch.admits_arrayLengthLimit X.admits]; omega
  have hh2 : ¬ w.toNatClampNeg * componentBytes .int > e.platform.maxHeapBytes := by
    rw [Launch.admits_maxHeapBytes X.admits]; show ¬ w.toNatClampNeg * 4 > 536870912; omega
  have hfind : ([w].find? (· < 0)) = none := by simp [hw]
  rw [Jvm.Op.multianewarray.make]
  simp only [wp_bind', W.ite, hn, if_false, wp_pure', W.theClass, State.vm_setTop, hk, hkind, Option.some.injEq, exists_eq_left']
  refine W.newArray_of (k := k) hk hkind hl1 hh1 (by show T.heap.size < _; omega) (by show T.slotsUsed + _ ≤ _; omega) rfl (fun acts0 => ?_)
  simp only [hfind]
  rw [ite_self, wp_bind', Std.Legacy.Range.forIn_eq_forIn_range']
  have hsz : ([:n.toNatClampNeg] : Std.Legacy.Range).size = n.toNatClampNeg := by simp [Std.Legacy.Range.size]
  rw [hsz]
  show wp (forIn (List.range' 0 n.toNatClampNeg 1) PUnit.unit _) _ E e _ _ _
  refine wp_forIn_inv (fun todo V => ∃ i : Nat, i ≤ n.toNatClampNeg ∧ todo = List.range' i (n.toNatClampNeg - i) ∧ V = (gmS T cA comp n.toNatClampNeg w.toNatClampNeg i).setTop g) _ _ ⟨0, Nat.zero_le _, rfl, rfl⟩ ?_ ?_
  · rintro x todo V d' acts' Q' ⟨i, hi, hl, rfl⟩ hnext
    have hlt : i < n.toNatClampNeg := by
      rcases Nat.lt_or_ge i n.toNatClampNeg with h | h
      · exact h
      · rw [show n.toNatClampNeg - i = 0 by omega] at hl
        cases hl
    rw [show n.toNatClampNeg - i = (n.toNatClampNeg - (i + 1)) + 1 by omega, List.range'_succ] at hl
    obtain ⟨rfl, hrest⟩ := List.cons.inj hl
    obtain ⟨L, XU, hL, hv, hz, hu, ho, hr, hkp⟩ := gmS_I (cA := cA) (comp := comp) (M := w.toNatClampNeg) X x hi
    have hmul : x * w.toNatClampNeg + w.toNatClampNeg ≤ n.toNatClampNeg * w.toNatClampNeg := by
      have := Nat.mul_le_mul_right w.toNatClampNeg (show x + 1 ≤ n.toNatClampNeg from hlt)
      rw [Nat.succ_mul] at this
      exact this
    have hlt0 : T.heap.size < (gmS T cA comp n.toNatClampNeg w.toNatClampNeg x).heap.size := by omega
    simp only [wp_bind']
    rw [Jvm.Op.multianewarray.make]
    simp only [wp_bind', W.ite, hw, if_false, wp_pure', W.theClass, State.vm_setTop, hv, hkc, hkindc, Option.some.injEq, exists_eq_left']
    refine W.newArray_of (k := kc) (by rw [State.vm_setTop, hv]; exact hkc) hkindc hl2 hh2 (by show (gmS T cA comp n.toNatClampNeg w.toNatClampNeg x).heap.size < _; omega) (by show (gmS T cA comp n.toNatClampNeg w.toNatClampNeg x).slotsUsed + _ ≤ _; omega) rfl (fun acts1 => ?_)
    simp only [wp_bind', W.writeLoc, wp_pure']
    refine ⟨arrV cA n.toNatClampNeg (fun j => if j < x then .ref (T.heap.size + 1 + j) else .null), ?_, fun h => (by cases h), by rw [arrV_size]; exact hlt, ?_, hnext _ _ _ ⟨x + 1, hlt, hrest, ?_⟩⟩
    · show ((gmS T cA comp n.toNatClampNeg w.toNatClampNeg x).pushCell _).heap[T.heap.size]? = _
      rw [State.heap_pushCell_of_lt (h := hlt0)]
      exact ho
    · show State.fitsSlot _ cA .none x _ = true
      simp [State.fitsSlot, State.slotType?, hv, hk, hkind, fits]
    · rfl
  · rintro V d' acts' ⟨i, hi, hl, rfl⟩
    have hiN : i = n.toNatClampNeg := by
      rcases Nat.lt_or_ge i n.toNatClampNeg with h | h
      · rw [show n.toNatClampNeg - i = (n.toNatClampNeg - (i + 1)) + 1 by omega, List.range'_succ] at hl
        cases hl
      · omega
    subst hiN
    simp only [wp_pure']
    exact hq _ _
end GMNW
section GMNR
variable {p : Program} {l : Launch} {e : Env} {R : Room} {s : State} {m : MethodId} {args : Array Value} {below : List Frame} {meth : Method} {c : Code} {H : Heap} {locs : List Loc} {cells slots : Nat} {Q : State → Prop}
variable {cc : ByteArray} {pc : Nat} {ls : Array Slot} {rest : List Value}
theorem W_mna (hexec : p.tables.exec = Jvm.exec) (hb : c.code = cc) {own : String} {index : Nat} (hown : s.vm.findClass own = some m.cls) (hclink : (Cond.classLink own index "[[I").before args s = true) {cA comp c0 : ClassId} {k kc : Class} (hA : s.vm.findClass "[[I" = some cA) (hk : s.vm.classes[cA]? = some k) (hkind : k.kind = .array comp (.array .int)) (hkc : s.vm.classes[comp]? = some kc) (hkindc : kc.kind = .array c0 .int)
    {n w : Int32} {N M : Nat} (hn : ¬ n < 0) (hw : ¬ w < 0) (hN : n.toNatClampNeg = N) (hM : w.toNatClampNeg = M) (hb1 : N * 4 ≤ 536870912) (hb2 : M * 4 ≤ 536870912) (hcells : cells + (1 + N) ≤ R.cells) (hslots : slots + (N + N * M) ≤ R.slots) (hdg : decode cc pc = .ok (.multianewarray index 2, 4))
    (kk : ∀ (H1 : Heap) (L : List Loc), (∀ x ∈ L, x ∈ locs ∨ x.base = H.size) → H1.size = H.size + 1 + N → H1[H.size]? = some (arrV cA N (fun j => if j < N then .ref (H.size + 1 + j) else .null)) → (∀ j : Nat, j < N → H1[H.size + 1 + j]? = some (arrV comp M (fun _ => .int 0))) → (∀ q : Nat, q < H.size → H1[q]? = H[q]?) →
      W p l e R s m args below meth c H1 L (cells + 1 + N) (slots + N + N * M) Q (F0 m (pc + 4) ls (.ref H.size :: rest))) : W p l e R s m args below meth c H locs cells slots Q (F0 m pc ls (.int w :: .int n :: rest)) := by
  subst hN
  subst hM
  intro T hT X
  subst hT
  subst hb
  have hpl : e.platform.magicAccessors = ({} : Platform).magicAccessors := by rw [X.admits.platform]
  obtain ⟨cB, hfc, hcl⟩ := Cond.classLink_spec hown hclink e.platform hpl
  cases hA.symm.trans hfc
  obtain ⟨hg₁, hwarm₁, hready₁⟩ := State.classEntry (e := e) X.warmed hcl
  generalize T.vm.noted m.cls index (.cls cA) = vm₁ at hg₁ hwarm₁ hready₁
  have hal : s.vm.Alike vm₁ := hwarm₁.alike
  obtain ⟨k₁, hk₁, he₁⟩ := hal.2.2 _ _ hk
  obtain ⟨kc₁, hkc₁, hec₁⟩ := hal.2.2 _ _ hkc
  have X₁ := X.noted hwarm₁
  obtain ⟨hr1, hr2⟩ := X.roomAbove hcells hslots
  obtain ⟨L, XU, hL, hv, hz, hu, ho, hr, hkp⟩ := gmS_I (cA := cA) (comp := comp) (N := n.toNatClampNeg) (M := w.toNatClampNeg) X₁ n.toNatClampNeg (Nat.le_refl _)
  obtain ⟨t, a1, b1⟩ := kk _ L hL hz ho hr hkp (gmS (T.setVm vm₁) cA comp n.toNatClampNeg w.toNatClampNeg n.toNatClampNeg) rfl XU
  refine ⟨t, ?_, b1⟩
  jvm_step X.here [hexec, hdg]
  simp only [Jvm.Op.multianewarray.sem, wp_bind', W.resolveClassAt_links (State.method?_setTop (F0 m pc ls (.int w :: .int n :: rest)) X.here.top) hg₁]
  rw [W.popN, if_neg (by decide)]
  refine ⟨F0 m pc ls (.int w :: .int n :: rest), State.topJava?_setTop' (s := T.setVm vm₁) _ X.here.top, [.int n, .int w], rest, rfl, rfl, ?_⟩
  simp only [List.mapM_cons, List.mapM_nil, wp_bind', wp_pure']
  have eS : ((T.setTop (F0 m pc ls (.int w :: .int n :: rest))).setVm vm₁).setTop (F0 m pc ls rest) = (T.setVm vm₁).setTop (F0 m pc ls rest) := by
    show ((T.setVm vm₁).setTop _).setTop _ = _
    rw [State.setTop_setTop]
  show wp _ _ _ _ _ _ (((T.setTop (F0 m pc ls (.int w :: .int n :: rest))).setVm vm₁).setTop (F0 m pc ls rest))
  rw [eS]
  refine gm_make (T := T.setVm vm₁) (g := F0 m pc ls rest) X₁ hk₁ (by rw [he₁]; exact hkind) hkc₁ (by rw [hec₁]; exact hkindc) hn hw hb1 hb2 (by show T.heap.size + 1 + _ ≤ _; omega) (by show T.slotsUsed + _ + _ ≤ _; omega) (fun d' acts' => ?_)
  simp only [wp_bind', W.mark, W.pushRef, State.topJava?_setTop' _ XU.here.top, Option.some.injEq, exists_eq_left', State.setTop_setTop]
  intro acts
  simp [jvm, XU.here.top]
  exact a1
end GMNR
