/-- k reapers are paid -/
def rb_R (v v' : S1) (k : Nat) : Prop := v'.2.1 = v.2.1 ∧ v'.2.2.2.1 = v.2.2.2.1 ∧ v'.1 0 = v.1 0 ∧ (∀ j, 7 * k ≤ j → v'.1 2 j = v.1 2 j) ∧ ∀ r, r < k → v'.1 2 (7 * r + 1) = 0 ∧ v'.1 2 (7 * r + 2) = 0
/-- coins go out -/
def rb_C (v v' : S1) : Prop := v'.2 = v.2 ∧ v'.1 0 = v.1 0 ∧ v'.1 2 = v.1 2
theorem rb_R0 {v : S1} : rb_R v v 0 := ⟨rfl, rfl, rfl, fun _ _ => rfl, fun r h => absurd h (Nat.not_lt_zero r)⟩
theorem rb_C0 {v : S1} : rb_C v v := ⟨rfl, rfl, rfl⟩
theorem rb_C.s {v v' : S1} (h : rb_C v v') {i j : Nat} {x y : Int32} : rb_C v (rb_s (rb_s v' 1 i x) 3 j y) := ⟨h.1, h.2.1, h.2.2⟩
theorem rb_R_step {v v1 v2 : S1} {g : Nat → Int32} {i : Nat} (hR : rb_R v v1 i) (hC : rb_C v1 v2) (g1 : g 1 = 0) (g2 : g 2 = 0) : rb_R v (rb_u v2 2 (va_cpy g (v2.1 2) 0 (7 * i) 7)) (i + 1) := by
  obtain ⟨a1, a2, a3, a4, a5⟩ := hR
  obtain ⟨b1, b2, b3⟩ := hC
  have e2 : (rb_u v2 2 (va_cpy g (v2.1 2) 0 (7 * i) 7)).1 2 = va_cpy g (v2.1 2) 0 (7 * i) 7 := rb_uS
  refine ⟨?_, ?_, ?_, fun j hj => ?_, fun r hr => ?_⟩
  · show v2.2.1 = _
    rw [b1]; exact a1
  · show v2.2.2.2.1 = _
    rw [b1]; exact a2
  · rw [rb_uN (by decide), b2]; exact a3
  · rw [e2, pk_cpy_out (Or.inr (by omega)), b3]; exact a4 j (by omega)
  · rw [e2]
    by_cases h : r = i
    · subst h
      rw [pk_cpy_in (by omega) (by omega), pk_cpy_in (by omega) (by omega)]
      rw [show 0 + (7 * r + 1 - 7 * r) = 1 by omega, show 0 + (7 * r + 2 - 7 * r) = 2 by omega]
      exact ⟨g1, g2⟩
    · rw [pk_cpy_out (Or.inl (by omega)), pk_cpy_out (Or.inl (by omega)), b3]
      exact a5 r (by omega)
/-- a look: what is put back -/
def rb_L (v v' : S1) : Prop := v'.2.1 = v.2.1 ∧ v'.2.2.2.1 = v.2.2.2.1 ∧ v'.1 0 = v.1 0 ∧ (∀ j, j < 56 → v'.1 2 j = v.1 2 j) ∧ ∀ j, j < 3 → v'.1 1 j = v.1 1 j
theorem rb_L.e {v v' : S1} (h : rb_L v v') : rb_E v v' := ⟨h.1, h.2.2.1, fun r hr => ⟨h.2.2.2.1 _ (by omega), h.2.2.2.1 _ (by omega)⟩⟩
theorem rb_wnz {c : Nat} (h : c < 3) : ¬ rt_RX1_WORTH c = 0 := by
  rcases (show c = 0 ∨ c = 1 ∨ c = 2 by omega) with rfl | rfl | rfl <;> decide
section X1NEW
variable {p : Program} {l : Launch} {e : Env} {R : Room} {s : State} {m : MethodId} {args : Array Value} {below : List Frame} {meth : Method} {c : Code} {H : Heap} {locs : List Loc} {cells slots : Nat} {Q : State → Prop}
variable {cc : ByteArray} {nL pc : Nat} {ls : Array Slot} {rest : List Value} {D : va_G} {cI : ClassId} {t : Nat → Nat} {A : Nat → Prop} {o : Nat} {v : S1} {own : String} {ws : va_W}
/-- a new row of numbers -/
theorem g_newa (C : gC p s m args meth c cc nL own D [(cI, .int)] t A) (hP : va_P D vwCl ws H) (hD : va_D A ws) (hS : va_S A s.heap H locs) {n : Int32} {N : Nat} (hn : n = nI N) (hN : N ≤ 1000) (hq : Cond.arrayClass .int ∈ wsL_law) {cells' slots' : Nat} (hc : cells + 1 = cells') (hs : slots + N = slots') (hRc : cells' ≤ R.cells) (hRs : slots' ≤ R.slots) (hdg : decode cc pc = .ok (.newarray .int, 2))
    (kk : ∀ (q : Nat) (H1 : Heap), va_P D vwCl (ws ++ [(q, .inl (cI, N, .inl (fun _ => 0)))]) H1 → va_D A (ws ++ [(q, .inl (cI, N, .inl (fun _ => 0)))]) → va_S A s.heap H1 locs → W p l e R s m args below meth c H1 locs cells' slots' Q (F0 m (pc + 2) ls (.ref q :: rest))) : W p l e R s m args below meth c H locs cells slots Q (F0 m pc ls (.int n :: rest)) := by
  subst hn
  subst hc
  subst hs
  refine va_newa (D := D) (atype := .int) (ty := .int) (a0 := (N, .inl (fun _ => 0))) C.1 C.2.1 (C.2.2.2.2.1 _ hq) rfl C.2.2.2.2.2.1 hP hD hS C.2.2.2.2.2.2.1 (fun _ => rfl) (nI_pos (by omega)) (nI_clamp (by omega)) (by show N * 4 ≤ 536870912; omega) hRc hRs hdg (fun q cA H1 hK1 hP1 hD1 hS1 => ?_)
  have e1 := (hK1.2 0 (cI, .int) rfl).2
  have e2 := (hK1.2 1 (cA, .int) rfl).2
  have e3 : cI = cA := Option.some.inj (e1.symm.trans e2)
  subst e3
  exact kk q H1 hP1 hD1 hS1
/-- a store into the row at place k -/
theorem g_st (C : gC p s m args meth c cc nL own D [(cI, .int)] t A) (hP : va_P D vwCl ws H) (hD : va_D A ws) (hS : va_S A s.heap H locs) (k : Nat) {a n i : Nat} {f : Nat → Int32} {i0 x : Int32} (ha : ws[k]? = some (a, .inl (cI, n, .inl f))) (hi : i < n) (hn : n ≤ 1000) (h0 : i0 = nI i) (hdg : decode cc pc = .ok (.iastore, 1))
    (kk : ∀ (H1 : Heap) (locs1 : List Loc), va_P D vwCl (ws.set k (a, .inl (cI, n, .inl (upd f i x)))) H1 → va_D A (ws.set k (a, .inl (cI, n, .inl (upd f i x)))) → va_S A s.heap H1 locs1 → W p l e R s m args below meth c H1 locs1 cells slots Q (F0 m (pc + 1) ls rest)) : W p l e R s m args below meth c H locs cells slots Q (F0 m pc ls (.int x :: .int i0 :: .ref a :: rest)) := by
  subst h0
  refine va_iast (D := D) C.1 C.2.1 C.2.2.2.2.2.1 hP hD hS k 0 ha rfl (vp_in_nI hi (by omega)) hdg (fun H1 locs1 hP1 hD1 hS1 => ?_)
  rw [nI_clamp (by omega)] at hP1 hD1
  exact kk H1 locs1 hP1 hD1 hS1
/-- System.arraycopy of n numbers, from place 0 of the row k0 to place d of the row k1 -/
theorem g_copy (C : gC p s m args meth c cc nL own D [(cI, .int)] t A) (hP : va_P D vwCl ws H) (hD : va_D A ws) (hS : va_S A s.heap H locs) (k0 k1 : Nat) {a0 a1 n0 n1 n d : Nat} {f g : Nat → Int32} {sp dp nn : Int32} (h0 : ws[k0]? = some (a0, .inl (cI, n0, .inl f))) (h1 : ws[k1]? = some (a1, .inl (cI, n1, .inl g))) (es : sp = nI 0) (ed : dp = nI d) (en : nn = nI n) (hn : n ≤ n0) (hd : d + n ≤ n1) (hn1 : n1 ≤ 1000) {idx : Nat}
    (q1 : Cond.methodLink own idx arraycopyName ∈ wsL_law) (q2 : Cond.native arraycopyName ∈ wsL_law) (q3 : Cond.static arraycopyName ∈ wsL_law) (q4 : Cond.initialized "java/lang/System" ∈ wsL_law) (hl : ls.size = nL) (hRf : 1 ≤ R.frames) (hRl : (rest.map fun v => v.category).sum + (nativeFrameWords "java/lang/System" "arraycopy" 5 + 11) ≤ R.locals) (hdg : decode cc pc = .ok (.invokestatic idx, 3))
    (kk : ∀ (H1 : Heap) (locs1 : List Loc), va_P D vwCl (ws.set k1 (a1, .inl (cI, n1, .inl (va_cpy f g 0 d n)))) H1 → va_D A (ws.set k1 (a1, .inl (cI, n1, .inl (va_cpy f g 0 d n)))) → va_S A s.heap H1 locs1 → W p l e R s m args below meth c H1 locs1 cells slots Q (F0 m (pc + 3) ls rest)) : W p l e R s m args below meth c H locs cells slots Q (F0 m pc ls (.int nn :: .int dp :: .ref a1 :: .int sp :: .ref a0 :: rest)) := by
  subst es
  subst ed
  subst en
  refine va_copyi (D := D) (ty := .int) C.1 C.2.1 (C.2.2.1.trans hl.symm) C.2.2.2.1 (C.2.2.2.2.1 _ q1) (C.2.2.2.2.1 _ q2) (C.2.2.2.2.1 _ q3) (C.2.2.2.2.1 _ q4) C.2.2.2.2.2.1 hP hD hS k0 k1 0 0 h0 h1 rfl rfl rfl (nI_pos (by omega)) (nI_pos (by omega)) (nI_pos (by omega)) ?_ ?_ (fun _ _ => rfl) hRf hRl hdg (fun H1 locs1 hP1 hD1 hS1 => ?_)
  · rw [nI_clamp (by omega), nI_clamp (by omega)]; omega
  · rw [nI_clamp (by omega), nI_clamp (by omega)]; omega
  · rw [nI_clamp (n := 0) (by omega), nI_clamp (n := d) (by omega), nI_clamp (n := n) (by omega)] at hP1 hD1
    exact kk H1 locs1 hP1 hD1 hS1
end X1NEW
theorem kd_X1_all : yX1_all.cls = yX1_all.cls ∧ yX1_all.cls ≠ "java/lang/invoke/MethodHandle" ∧ yX1_all.cls ≠ "java/lang/invoke/VarHandle" ∧ (parseMethodDescriptor yX1_all.desc).map (fun d => d.parameters.length) = some 0 := by decide +kernel
set_option maxHeartbeats 4000000 in
set_option maxRecDepth 100000 in
theorem lpX1_all {p : Program} {l : Launch} {e : Env} {s : State} {m : MethodId} {args : Array Value} {below : List Frame} {meth : Method} {c : Code} {Q : State → Prop} {D : va_G} {t : Nat → Nat} {A : Nat → Prop} {cI : ClassId} {o : Nat} {v : S1} (C : gC p s m args meth c cX1_all 3 RX1 D [(cI, .int)] t A) (hn : v.2.1 ≤ 8) (kk : ∀ (a : Int32) (H : Heap) (locs : List Loc) (ls : Array Slot), va_P D vwCl (rb_w cI o v) H → va_D A (rb_w cI o v) → va_S A s.heap H locs → lv_has ls 3 [(0, .ref o), (1, .int a), (2, .int (nI v.2.1))] → W p l e (rm_ 4 0 0 86) s m args below meth c H locs 0 0 Q (F0 m 26 ls [])) :
    ∀ (n i : Nat) (a : Int32), i + n = v.2.1 → ∀ (H : Heap) (locs : List Loc) (ls : Array Slot), va_P D vwCl (rb_w cI o v) H → va_D A (rb_w cI o v) → va_S A s.heap H locs → lv_has ls 3 [(0, .ref o), (1, .int a), (2, .int (nI i))] → W p l e (rm_ 4 0 0 86) s m args below meth c H locs 0 0 Q (F0 m 4 ls []) := by
  have hx := C.1
  have hb := C.2.1
  have hown := C.2.2.2.1
  have hts := C.2.2.2.2.1
  intro n
  induction n with
  | zero =>
    intro i a hi H locs ls hP hD hS hl
    have hiN : i = v.2.1 := by omega
    refine lv_iload_n hx hb dX1_all_4 rfl (lv_at hl 2 rfl) ?_
    refine lv_aload_n hx hb dX1_all_5 rfl (lv_at hl 0 rfl) ?_
    refine x1_gf C hP 1 (by decide) (x := .int (nI v.2.1)) rfl rfl q60 dX1_all_6 ?_
    refine lv_icmp_ge (tgt := 26) hx hb dX1_all_9 (by decide) (fun c1 => ?_) (fun c1 => absurd ((nI_leI (a := v.2.1) (b := i) (by omega) (by omega)).mpr (by omega)) c1)
    subst hiN
    exact kk a _ _ _ hP hD hS (lv_sub hl [0, 1, 2] rfl)
  | succ n ih =>
    intro i a hi H locs ls hP hD hS hl
    have hin : i < v.2.1 := by omega
    refine lv_iload_n hx hb dX1_all_4 rfl (lv_at hl 2 rfl) ?_
    refine lv_aload_n hx hb dX1_all_5 rfl (lv_at hl 0 rfl) ?_
    refine x1_gf C hP 1 (by decide) (x := .int (nI v.2.1)) rfl rfl q60 dX1_all_6 ?_
    refine lv_icmp_ge (tgt := 26) hx hb dX1_all_9 (by decide) (fun c1 => absurd c1 (fun h9 => absurd ((nI_leI (a := v.2.1) (b := i) (by omega) (by omega)).mp h9) (by omega))) (fun c1 => ?_)
    refine lv_iload_n hx hb dX1_all_12 rfl (lv_at hl 1 rfl) ?_
    refine lv_aload_n hx hb dX1_all_13 rfl (lv_at hl 0 rfl) ?_
    refine lv_iload_n hx hb dX1_all_14 rfl (lv_at hl 2 rfl) ?_
    refine g_ci (wr := []) (cells' := 0) (slots' := 0) rfl rfl C rd_nil hD hS (g_runV (wr := []) (n := 1) C (mX1_wageOf l D t cI o H.size v i (by omega)) (rw_V q226 q227 q228 q5 q229) kd_X1_wageOf ⟨Nat.le_of_ble_eq_true rfl, Nat.le_of_ble_eq_true rfl⟩ (ci := 1) rfl rfl rfl C.2.2.2.2.2.1 hP hD hS hl.1 rfl rfl (Nat.le_of_ble_eq_true rfl) dX1_all_15 ⟨Nat.le_of_ble_eq_true rfl, Nat.le_of_ble_eq_true rfl⟩) (fun r2 w' H locs hv _ _ hP hD hS => ?_)
    subst hv
    have hD : va_D A (rb_w cI o v) := hD
    refine lv_iadd hx hb dX1_all_18 ?_
    refine lv_topi (fun v3 ev3 => ?_)
    refine lv_istore_n (lv' := [(1, .int v3), (0, .ref o), (2, .int (nI i))]) hx hb dX1_all_19 rfl hl (by decide) rfl (fun ls hl => ?_)
    refine lv_iinc (v := nI (i + 1)) (lv' := [(2, .int (nI (i + 1))), (1, .int v3), (0, .ref o)]) hx hb dX1_all_20 hl (k := 2) rfl (nI_1 _) (by decide) rfl (fun ls hl => ?_)
    refine lv_goto (tgt := 4) hx hb dX1_all_23 (by decide) ?_
    exact ih (i + 1) _ (by omega) _ _ _ hP hD hS (lv_sub hl [2, 1, 0] rfl)
set_option maxHeartbeats 4000000 in
set_option maxRecDepth 100000 in
theorem mX1_all (l : Launch) (D : va_G) (t : Nat → Nat) (cI : ClassId) (o : Nat) (sz : Nat) (v : S1) (hn : v.2.1 ≤ 8) : gMi l yX1_all (rw_ yX1_all cX1_all 3 (some .int)) (rm_ 4 0 0 86) [.ref o] D [(cI, .int)] t (rb_w cI o v) sz (fun _ w' => w' = rb_w cI o v) := by
  refine g_of (cc := cX1_all) (nL := 3) (rt := (some .int)) (Q := fun A => va_Qi _ (fun w' U => gQ D A w' U) A) (by decide) (Nat.le_of_ble_eq_true rfl) (fun p e s m args below meth c A ls H C hrt hnm hS hP hD hl => ?_)
  have hx := C.1
  have hb := C.2.1
  have hown := C.2.2.2.1
  have hts := C.2.2.2.2.1
  have hl : lv_has ls 3 [(0, .ref o)] := hl
  refine lv_iconst (v := 0) hx hb dX1_all_0 (by decide) ?_
  refine lv_istore_n (lv' := [(1, .int 0), (0, .ref o)]) hx hb dX1_all_1 rfl hl (by decide) rfl (fun ls hl => ?_)
  refine lv_iconst (v := 0) hx hb dX1_all_2 (by decide) ?_
  refine lv_istore_n (lv' := [(2, .int 0), (1, .int 0), (0, .ref o)]) hx hb dX1_all_3 rfl hl (by decide) rfl (fun ls hl => ?_)
  refine lpX1_all  C hn (fun a H locs ls hP hD hS hl => ?_) v.2.1 0 0 (by omega) _ _ _ hP hD hS (lv_sub hl [2, 1, 0] rfl)
  refine lv_iload_n hx hb dX1_all_26 rfl (lv_at hl 1 rfl) ?_
  exact g_iret C hrt hP hD hS dX1_all_27 rfl
theorem kd_X1_sum : yX1_sum.cls = yX1_sum.cls ∧ yX1_sum.cls ≠ "java/lang/invoke/MethodHandle" ∧ yX1_sum.cls ≠ "java/lang/invoke/VarHandle" ∧ (parseMethodDescriptor yX1_sum.desc).map (fun d => d.parameters.length) = some 1 := by decide +kernel
set_option maxHeartbeats 4000000 in
set_option maxRecDepth 100000 in
theorem lpX1_sum {p : Program} {l : Launch} {e : Env} {s : State} {m : MethodId} {args : Array Value} {below : List Frame} {meth : Method} {c : Code} {Q : State → Prop} {D : va_G} {t : Nat → Nat} {A : Nat → Prop} {cI : ClassId} {o : Nat} {v : S1} {k : Nat} (C : gC p s m args meth c cX1_sum 4 RX1 D [(cI, .int)] t A) (hn : v.2.1 ≤ 8) (hk7 : k < 7) (kk : ∀ (a : Int32) (H : Heap) (locs : List Loc) (ls : Array Slot), va_P D vwCl (rb_w cI o v) H → va_D A (rb_w cI o v) → va_S A s.heap H locs → lv_has ls 4 [(0, .ref o), (1, .int (nI k)), (2, .int a), (3, .int (nI v.2.1))] → W p l e (rm_ 1 0 0 22) s m args below meth c H locs 0 0 Q (F0 m 27 ls [])) :
    ∀ (n i : Nat) (a : Int32), i + n = v.2.1 → ∀ (H : Heap) (locs : List Loc) (ls : Array Slot), va_P D vwCl (rb_w cI o v) H → va_D A (rb_w cI o v) → va_S A s.heap H locs → lv_has ls 4 [(0, .ref o), (1, .int (nI k)), (2, .int a), (3, .int (nI i))] → W p l e (rm_ 1 0 0 22) s m args below meth c H locs 0 0 Q (F0 m 4 ls []) := by
  have hx := C.1
  have hb := C.2.1
  have hown := C.2.2.2.1
  have hts := C.2.2.2.2.1
  intro n
  induction n with
  | zero =>
    intro i a hi H locs ls hP hD hS hl
    have hiN : i = v.2.1 := by omega
    refine lv_iload_n hx hb dX1_sum_4 rfl (lv_at hl 3 rfl) ?_
    refine lv_aload_n hx hb dX1_sum_5 rfl (lv_at hl 0 rfl) ?_
    refine x1_gf C hP 1 (by decide) (x := .int (nI v.2.1)) rfl rfl q60 dX1_sum_6 ?_
    refine lv_icmp_ge (tgt := 27) hx hb dX1_sum_9 (by decide) (fun c1 => ?_) (fun c1 => absurd ((nI_leI (a := v.2.1) (b := i) (by omega) (by omega)).mpr (by omega)) c1)
    subst hiN
    exact kk a _ _ _ hP hD hS (lv_sub hl [0, 1, 2, 3] rfl)
  | succ n ih =>
    intro i a hi H locs ls hP hD hS hl
    have hin : i < v.2.1 := by omega
    refine lv_iload_n hx hb dX1_sum_4 rfl (lv_at hl 3 rfl) ?_
    refine lv_aload_n hx hb dX1_sum_5 rfl (lv_at hl 0 rfl) ?_
    refine x1_gf C hP 1 (by decide) (x := .int (nI v.2.1)) rfl rfl q60 dX1_sum_6 ?_
    refine lv_icmp_ge (tgt := 27) hx hb dX1_sum_9 (by decide) (fun c1 => absurd c1 (fun h9 => absurd ((nI_leI (a := v.2.1) (b := i) (by omega) (by omega)).mp h9) (by omega))) (fun c1 => ?_)
    refine lv_iload_n hx hb dX1_sum_12 rfl (lv_at hl 2 rfl) ?_
    refine lv_aload_n hx hb dX1_sum_13 rfl (lv_at hl 0 rfl) ?_
    refine lv_iload_n hx hb dX1_sum_14 rfl (lv_at hl 3 rfl) ?_
    refine lv_iload_n hx hb dX1_sum_15 rfl (lv_at hl 1 rfl) ?_
    refine g_ci (wr := []) (cells' := 0) (slots' := 0) rfl rfl C rd_nil hD hS (g_runV (wr := []) (n := 2) C (mX1_re l D t cI o H.size v i k (by omega) (by omega)) (rw_V q128 q129 q130 q5 q131) kd_X1_re ⟨Nat.le_of_ble_eq_true rfl, Nat.le_of_ble_eq_true rfl⟩ (ci := 1) rfl rfl rfl C.2.2.2.2.2.1 hP hD hS hl.1 rfl rfl (Nat.le_of_ble_eq_true rfl) dX1_sum_16 ⟨Nat.le_of_ble_eq_true rfl, Nat.le_of_ble_eq_true rfl⟩) (fun r2 w' H locs hv _ _ hP hD hS => ?_)
    obtain ⟨rfl, rfl⟩ := hv
    have hD : va_D A (rb_w cI o v) := hD
    refine lv_iadd hx hb dX1_sum_19 ?_
    refine lv_topi (fun v3 ev3 => ?_)
    refine lv_istore_n (lv' := [(2, .int v3), (0, .ref o), (1, .int (nI k)), (3, .int (nI i))]) hx hb dX1_sum_20 rfl hl (by decide) rfl (fun ls hl => ?_)
    refine lv_iinc (v := nI (i + 1)) (lv' := [(3, .int (nI (i + 1))), (2, .int v3), (0, .ref o), (1, .int (nI k))]) hx hb dX1_sum_21 hl (k := 3) rfl (nI_1 _) (by decide) rfl (fun ls hl => ?_)
    refine lv_goto (tgt := 4) hx hb dX1_sum_24 (by decide) ?_
    exact ih (i + 1) _ (by omega) _ _ _ hP hD hS (lv_sub hl [2, 3, 1, 0] rfl)
set_option maxHeartbeats 4000000 in
set_option maxRecDepth 100000 in
theorem mX1_sum (l : Launch) (D : va_G) (t : Nat → Nat) (cI : ClassId) (o : Nat) (sz : Nat) (v : S1) (hn : v.2.1 ≤ 8) (k : Nat) (hk7 : k < 7) : gMi l yX1_sum (rw_ yX1_sum cX1_sum 4 (some .int)) (rm_ 1 0 0 22) [.ref o, .int (nI k)] D [(cI, .int)] t (rb_w cI o v) sz (fun _ w' => w' = rb_w cI o v) := by
  refine g_of (cc := cX1_sum) (nL := 4) (rt := (some .int)) (Q := fun A => va_Qi _ (fun w' U => gQ D A w' U) A) (by decide) (Nat.le_of_ble_eq_true rfl) (fun p e s m args below meth c A ls H C hrt hnm hS hP hD hl => ?_)
  have hx := C.1
  have hb := C.2.1
  have hown := C.2.2.2.1
  have hts := C.2.2.2.2.1
  have hl : lv_has ls 4 [(0, .ref o), (1, .int (nI k))] := hl
  refine lv_iconst (v := 0) hx hb dX1_sum_0 (by decide) ?_
  refine lv_istore_n (lv' := [(2, .int 0), (0, .ref o), (1, .int (nI k))]) hx hb dX1_sum_1 rfl hl (by decide) rfl (fun ls hl => ?_)
  refine lv_iconst (v := 0) hx hb dX1_sum_2 (by decide) ?_
  refine lv_istore_n (lv' := [(3, .int 0), (2, .int 0), (0, .ref o), (1, .int (nI k))]) hx hb dX1_sum_3 rfl hl (by decide) rfl (fun ls hl => ?_)
  refine lpX1_sum  C hn hk7 (fun a H locs ls hP hD hS hl => ?_) v.2.1 0 0 (by omega) _ _ _ hP hD hS (lv_sub hl [2, 3, 1, 0] rfl)
  refine lv_iload_n hx hb dX1_sum_27 rfl (lv_at hl 2 rfl) ?_
  exact g_iret C hrt hP hD hS dX1_sum_28 rfl
theorem kd_X1_counted : yX1_counted.cls = yX1_counted.cls ∧ yX1_counted.cls ≠ "java/lang/invoke/MethodHandle" ∧ yX1_counted.cls ≠ "java/lang/invoke/VarHandle" ∧ (parseMethodDescriptor yX1_counted.desc).map (fun d => d.parameters.length) = some 1 := by decide +kernel
set_option maxHeartbeats 4000000 in
set_option maxRecDepth 100000 in
theorem mX1_counted (l : Launch) (D : va_G) (t : Nat → Nat) (cI : ClassId) (o : Nat) (sz : Nat) (v : S1) (hn : v.2.1 ≤ 8) (k : Nat) (hk7 : k < 7) : gMi l yX1_counted (rw_ yX1_counted cX1_counted 2 (some .int)) (rm_ 5 0 0 108) [.ref o, .int (nI k)] D [(cI, .int)] t (rb_w cI o v) sz (fun _ w' => w' = rb_w cI o v) := by
  refine g_of (cc := cX1_counted) (nL := 2) (rt := (some .int)) (Q := fun A => va_Qi _ (fun w' U => gQ D A w' U) A) (by decide) (Nat.le_of_ble_eq_true rfl) (fun p e s m args below meth c A ls H C hrt hnm hS hP hD hl => ?_)
  have hx := C.1
  have hb := C.2.1
  have hown := C.2.2.2.1
  have hts := C.2.2.2.2.1
  have hl : lv_has ls 2 [(0, .ref o), (1, .int (nI k))] := hl
  have hk9 : k = 0 ∨ k = 1 ∨ k = 2 ∨ k = 3 ∨ k = 4 ∨ k = 5 ∨ k = 6 := by omega
  rcases hk9 with rfl | rfl | rfl | rfl | rfl | rfl | rfl
  · have hl : lv_has ls 2 [(0, .ref o), (1, .int (nI 0))] := hl
    refine lv_iload_n hx hb dX1_counted_0 rfl (lv_at hl 1 rfl) ?_
    refine lv_tableIn (off := 39) (tgt := 40) hx hb dX1_counted_1 (by decide) (by decide) rfl (by decide) ?_
    refine lv_aload_n hx hb dX1_counted_40 rfl (lv_at hl 0 rfl) ?_
    refine x1_gf C hP 2 (by decide) (x := .int v.2.2.1) rfl rfl q217 dX1_counted_41 ?_
    exact g_iret C hrt hP hD hS dX1_counted_44 rfl
  · have hl : lv_has ls 2 [(0, .ref o), (1, .int (nI 1))] := hl
    refine lv_iload_n hx hb dX1_counted_0 rfl (lv_at hl 1 rfl) ?_
    refine lv_tableIn (off := 44) (tgt := 45) hx hb dX1_counted_1 (by decide) (by decide) rfl (by decide) ?_
    refine lv_aload_n hx hb dX1_counted_45 rfl (lv_at hl 0 rfl) ?_
    refine x1_gf C hP 1 (by decide) (x := .int (nI v.2.1)) rfl rfl q60 dX1_counted_46 ?_
    exact g_iret C hrt hP hD hS dX1_counted_49 rfl
  · have hl : lv_has ls 2 [(0, .ref o), (1, .int (nI 2))] := hl
    refine lv_iload_n hx hb dX1_counted_0 rfl (lv_at hl 1 rfl) ?_
    refine lv_tableIn (off := 49) (tgt := 50) hx hb dX1_counted_1 (by decide) (by decide) rfl (by decide) ?_
    refine lv_aload_n hx hb dX1_counted_50 rfl (lv_at hl 0 rfl) ?_
    refine lv_iconst (v := 4) hx hb dX1_counted_51 (by decide) ?_
    refine g_ci (wr := []) (cells' := 0) (slots' := 0) rfl rfl C rd_nil hD hS (g_runV (wr := []) (n := 1) C (mX1_sum l D t cI o H.size v hn 4 (by omega)) (rw_V q336 q337 q338 q5 q339) kd_X1_sum ⟨Nat.le_of_ble_eq_true rfl, Nat.le_of_ble_eq_true rfl⟩ (ci := 1) rfl rfl rfl C.2.2.2.2.2.1 hP hD hS hl.1 rfl rfl (Nat.le_of_ble_eq_true rfl) dX1_counted_52 ⟨Nat.le_of_ble_eq_true rfl, Nat.le_of_ble_eq_true rfl⟩) (fun r1 w' H locs hv _ _ hP hD hS => ?_)
    subst hv
    have hD : va_D A (rb_w cI o v) := hD
    exact g_iret C hrt hP hD hS dX1_counted_55 rfl
  · have hl : lv_has ls 2 [(0, .ref o), (1, .int (nI 3))] := hl
    refine lv_iload_n hx hb dX1_counted_0 rfl (lv_at hl 1 rfl) ?_
    refine lv_tableIn (off := 55) (tgt := 56) hx hb dX1_counted_1 (by decide) (by decide) rfl (by decide) ?_
    refine lv_aload_n hx hb dX1_counted_56 rfl (lv_at hl 0 rfl) ?_
    refine lv_iconst (v := 5) hx hb dX1_counted_57 (by decide) ?_
    refine g_ci (wr := []) (cells' := 0) (slots' := 0) rfl rfl C rd_nil hD hS (g_runV (wr := []) (n := 1) C (mX1_sum l D t cI o H.size v hn 5 (by omega)) (rw_V q336 q337 q338 q5 q339) kd_X1_sum ⟨Nat.le_of_ble_eq_true rfl, Nat.le_of_ble_eq_true rfl⟩ (ci := 1) rfl rfl rfl C.2.2.2.2.2.1 hP hD hS hl.1 rfl rfl (Nat.le_of_ble_eq_true rfl) dX1_counted_58 ⟨Nat.le_of_ble_eq_true rfl, Nat.le_of_ble_eq_true rfl⟩) (fun r1 w' H locs hv _ _ hP hD hS => ?_)
    subst hv
    have hD : va_D A (rb_w cI o v) := hD
    exact g_iret C hrt hP hD hS dX1_counted_61 rfl
  · have hl : lv_has ls 2 [(0, .ref o), (1, .int (nI 4))] := hl
    refine lv_iload_n hx hb dX1_counted_0 rfl (lv_at hl 1 rfl) ?_
    refine lv_tableIn (off := 61) (tgt := 62) hx hb dX1_counted_1 (by decide) (by decide) rfl (by decide) ?_
    refine lv_bipush (v := 120) hx hb dX1_counted_62 (by decide) ?_
    refine lv_aload_n hx hb dX1_counted_64 rfl (lv_at hl 0 rfl) ?_
    refine x1_gf C hP 4 (by decide) (x := .ref (v.2.2.2.2 1)) rfl rfl q31 dX1_counted_65 ?_
    refine lv_iconst (v := 0) hx hb dX1_counted_68 (by decide) ?_
    refine x1_ld C hP (k := 1) (i := 0) (by decide) (by decide) rfl dX1_counted_69 ?_
    refine lv_imul hx hb dX1_counted_70 ?_
    refine lv_bipush (v := 48) hx hb dX1_counted_71 (by decide) ?_
    refine lv_aload_n hx hb dX1_counted_73 rfl (lv_at hl 0 rfl) ?_
    refine x1_gf C hP 4 (by decide) (x := .ref (v.2.2.2.2 1)) rfl rfl q31 dX1_counted_74 ?_
    refine lv_iconst (v := 1) hx hb dX1_counted_77 (by decide) ?_
    refine x1_ld C hP (k := 1) (i := 1) (by decide) (by decide) rfl dX1_counted_78 ?_
    refine lv_imul hx hb dX1_counted_79 ?_
    refine lv_iadd hx hb dX1_counted_80 ?_
    refine lv_iconst (v := 4) hx hb dX1_counted_81 (by decide) ?_
    refine lv_aload_n hx hb dX1_counted_82 rfl (lv_at hl 0 rfl) ?_
    refine x1_gf C hP 4 (by decide) (x := .ref (v.2.2.2.2 1)) rfl rfl q31 dX1_counted_83 ?_
    refine lv_iconst (v := 2) hx hb dX1_counted_86 (by decide) ?_
    refine x1_ld C hP (k := 1) (i := 2) (by decide) (by decide) rfl dX1_counted_87 ?_
    refine lv_imul hx hb dX1_counted_88 ?_
    refine lv_iadd hx hb dX1_counted_89 ?_
    exact g_iret C hrt hP hD hS dX1_counted_90 rfl
  · have hl : lv_has ls 2 [(0, .ref o), (1, .int (nI 5))] := hl
    refine lv_iload_n hx hb dX1_counted_0 rfl (lv_at hl 1 rfl) ?_
    refine lv_tableIn (off := 90) (tgt := 91) hx hb dX1_counted_1 (by decide) (by decide) rfl (by decide) ?_
    refine lv_aload_n hx hb dX1_counted_91 rfl (lv_at hl 0 rfl) ?_
    refine g_ci (wr := []) (cells' := 0) (slots' := 0) rfl rfl C rd_nil hD hS (g_runV (wr := []) (n := 0) C (mX1_all l D t cI o H.size v hn) (rw_V q340 q341 q342 q5 q343) kd_X1_all ⟨Nat.le_of_ble_eq_true rfl, Nat.le_of_ble_eq_true rfl⟩ (ci := 1) rfl rfl rfl C.2.2.2.2.2.1 hP hD hS hl.1 rfl rfl (Nat.le_of_ble_eq_true rfl) dX1_counted_92 ⟨Nat.le_of_ble_eq_true rfl, Nat.le_of_ble_eq_true rfl⟩) (fun r1 w' H locs hv _ _ hP hD hS => ?_)
    subst hv
    have hD : va_D A (rb_w cI o v) := hD
    exact g_iret C hrt hP hD hS dX1_counted_95 rfl
  · have hl : lv_has ls 2 [(0, .ref o), (1, .int (nI 6))] := hl
    refine lv_iload_n hx hb dX1_counted_0 rfl (lv_at hl 1 rfl) ?_
    refine lv_tableOut (tgt := 96) hx hb dX1_counted_1 (by decide) (by decide) ?_
    refine lv_aload_n hx hb dX1_counted_96 rfl (lv_at hl 0 rfl) ?_
    refine lv_bipush (v := 6) hx hb dX1_counted_97 (by decide) ?_
    refine g_ci (wr := []) (cells' := 0) (slots' := 0) rfl rfl C rd_nil hD hS (g_runV (wr := []) (n := 1) C (mX1_sum l D t cI o H.size v hn 6 (by omega)) (rw_V q336 q337 q338 q5 q339) kd_X1_sum ⟨Nat.le_of_ble_eq_true rfl, Nat.le_of_ble_eq_true rfl⟩ (ci := 1) rfl rfl rfl C.2.2.2.2.2.1 hP hD hS hl.1 rfl rfl (Nat.le_of_ble_eq_true rfl) dX1_counted_99 ⟨Nat.le_of_ble_eq_true rfl, Nat.le_of_ble_eq_true rfl⟩) (fun r1 w' H locs hv _ _ hP hD hS => ?_)
    subst hv
    have hD : va_D A (rb_w cI o v) := hD
    exact g_iret C hrt hP hD hS dX1_counted_102 rfl
theorem kd_X1_wageTold : yX1_wageTold.cls = yX1_wageTold.cls ∧ yX1_wageTold.cls ≠ "java/lang/invoke/MethodHandle" ∧ yX1_wageTold.cls ≠ "java/lang/invoke/VarHandle" ∧ (parseMethodDescriptor yX1_wageTold.desc).map (fun d => d.parameters.length) = some 2 := by decide +kernel
set_option maxHeartbeats 4000000 in
set_option maxRecDepth 100000 in
theorem mX1_wageTold (l : Launch) (D : va_G) (t : Nat → Nat) (cI : ClassId) (o : Nat) (sz : Nat) (v : S1) (hp : ¬ v.1 0 4 = 0) (r : Nat) (hr8 : r < 8) (k : Nat) (hk6 : k < 6) : gMi l yX1_wageTold (rw_ yX1_wageTold cX1_wageTold 3 (some .int)) (rm_ 6 0 0 128) [.ref o, .int (nI r), .int (nI k)] D [(cI, .int)] t (rb_w cI o v) sz (fun _ w' => w' = rb_w cI o v) := by
  refine g_of (cc := cX1_wageTold) (nL := 3) (rt := (some .int)) (Q := fun A => va_Qi _ (fun w' U => gQ D A w' U) A) (by decide) (Nat.le_of_ble_eq_true rfl) (fun p e s m args below meth c A ls H C hrt hnm hS hP hD hl => ?_)
  have hx := C.1
  have hb := C.2.1
  have hown := C.2.2.2.1
  have hts := C.2.2.2.2.1
  have hl : lv_has ls 3 [(0, .ref o), (1, .int (nI r)), (2, .int (nI k))] := hl
  have hk9 : k = 0 ∨ k = 1 ∨ k = 2 ∨ k = 3 ∨ k = 4 ∨ k = 5 := by omega
  rcases hk9 with rfl | rfl | rfl | rfl | rfl | rfl
  · have hl : lv_has ls 3 [(0, .ref o), (1, .int (nI r)), (2, .int (nI 0))] := hl
    refine lv_iload_n hx hb dX1_wageTold_0 rfl (lv_at hl 2 rfl) ?_
    refine lv_tableIn (off := 35) (tgt := 36) hx hb dX1_wageTold_1 (by decide) (by decide) rfl (by decide) ?_
    refine lv_aload_n hx hb dX1_wageTold_36 rfl (lv_at hl 0 rfl) ?_
    refine lv_iload_n hx hb dX1_wageTold_37 rfl (lv_at hl 1 rfl) ?_
    refine g_ci (wr := []) (cells' := 0) (slots' := 0) rfl rfl C rd_nil hD hS (g_runV (wr := []) (n := 1) C (mX1_pieces l D t cI o H.size v r (by omega)) (rw_V q231 q232 q233 q5 q234) kd_X1_pieces ⟨Nat.le_of_ble_eq_true rfl, Nat.le_of_ble_eq_true rfl⟩ (ci := 1) rfl rfl rfl C.2.2.2.2.2.1 hP hD hS hl.1 rfl rfl (Nat.le_of_ble_eq_true rfl) dX1_wageTold_38 ⟨Nat.le_of_ble_eq_true rfl, Nat.le_of_ble_eq_true rfl⟩) (fun r1 w' H locs hv _ _ hP hD hS => ?_)
    subst hv
    have hD : va_D A (rb_w cI o v) := hD
    exact g_iret C hrt hP hD hS dX1_wageTold_41 rfl
  · have hl : lv_has ls 3 [(0, .ref o), (1, .int (nI r)), (2, .int (nI 1))] := hl
    refine lv_iload_n hx hb dX1_wageTold_0 rfl (lv_at hl 2 rfl) ?_
    refine lv_tableIn (off := 41) (tgt := 42) hx hb dX1_wageTold_1 (by decide) (by decide) rfl (by decide) ?_
    refine lv_aload_n hx hb dX1_wageTold_42 rfl (lv_at hl 0 rfl) ?_
    refine lv_iload_n hx hb dX1_wageTold_43 rfl (lv_at hl 1 rfl) ?_
    refine g_ci (wr := []) (cells' := 0) (slots' := 0) rfl rfl C rd_nil hD hS (g_runV (wr := []) (n := 1) C (mX1_byHours l D t cI o H.size v r (by omega)) (rw_V q235 q236 q237 q5 q238) kd_X1_byHours ⟨Nat.le_of_ble_eq_true rfl, Nat.le_of_ble_eq_true rfl⟩ (ci := 1) rfl rfl rfl C.2.2.2.2.2.1 hP hD hS hl.1 rfl rfl (Nat.le_of_ble_eq_true rfl) dX1_wageTold_44 ⟨Nat.le_of_ble_eq_true rfl, Nat.le_of_ble_eq_true rfl⟩) (fun r1 w' H locs hv _ _ hP hD hS => ?_)
    subst hv
    have hD : va_D A (rb_w cI o v) := hD
    exact g_iret C hrt hP hD hS dX1_wageTold_47 rfl
  · have hl : lv_has ls 3 [(0, .ref o), (1, .int (nI r)), (2, .int (nI 2))] := hl
    refine lv_iload_n hx hb dX1_wageTold_0 rfl (lv_at hl 2 rfl) ?_
    refine lv_tableIn (off := 47) (tgt := 48) hx hb dX1_wageTold_1 (by decide) (by decide) rfl (by decide) ?_
    refine lv_aload_n hx hb dX1_wageTold_48 rfl (lv_at hl 0 rfl) ?_
    refine lv_iload_n hx hb dX1_wageTold_49 rfl (lv_at hl 1 rfl) ?_
    refine g_ci (wr := []) (cells' := 0) (slots' := 0) rfl rfl C rd_nil hD hS (g_runV (wr := []) (n := 1) C (mX1_wageOf l D t cI o H.size v r (by omega)) (rw_V q226 q227 q228 q5 q229) kd_X1_wageOf ⟨Nat.le_of_ble_eq_true rfl, Nat.le_of_ble_eq_true rfl⟩ (ci := 1) rfl rfl rfl C.2.2.2.2.2.1 hP hD hS hl.1 rfl rfl (Nat.le_of_ble_eq_true rfl) dX1_wageTold_50 ⟨Nat.le_of_ble_eq_true rfl, Nat.le_of_ble_eq_true rfl⟩) (fun r1 w' H locs hv _ _ hP hD hS => ?_)
    subst hv
    have hD : va_D A (rb_w cI o v) := hD
    exact g_iret C hrt hP hD hS dX1_wageTold_53 rfl
  · have hl : lv_has ls 3 [(0, .ref o), (1, .int (nI r)), (2, .int (nI 3))] := hl
    refine lv_iload_n hx hb dX1_wageTold_0 rfl (lv_at hl 2 rfl) ?_
    refine lv_tableIn (off := 53) (tgt := 54) hx hb dX1_wageTold_1 (by decide) (by decide) rfl (by decide) ?_
    refine lv_aload_n hx hb dX1_wageTold_54 rfl (lv_at hl 0 rfl) ?_
    refine lv_iload_n hx hb dX1_wageTold_55 rfl (lv_at hl 1 rfl) ?_
    refine g_ci (wr := []) (cells' := 0) (slots' := 0) rfl rfl C rd_nil hD hS (g_runV (wr := []) (n := 1) C (mX1_coming l D t cI o H.size v r (by omega)) (rw_V q222 q223 q224 q5 q225) kd_X1_coming ⟨Nat.le_of_ble_eq_true rfl, Nat.le_of_ble_eq_true rfl⟩ (ci := 1) rfl rfl rfl C.2.2.2.2.2.1 hP hD hS hl.1 rfl rfl (Nat.le_of_ble_eq_true rfl) dX1_wageTold_56 ⟨Nat.le_of_ble_eq_true rfl, Nat.le_of_ble_eq_true rfl⟩) (fun r1 w' H locs hv _ _ hP hD hS => ?_)
    subst hv
    have hD : va_D A (rb_w cI o v) := hD
    exact g_iret C hrt hP hD hS dX1_wageTold_59 rfl
  · have hl : lv_has ls 3 [(0, .ref o), (1, .int (nI r)), (2, .int (nI 4))] := hl
    refine lv_iload_n hx hb dX1_wageTold_0 rfl (lv_at hl 2 rfl) ?_
    refine lv_tableIn (off := 59) (tgt := 60) hx hb dX1_wageTold_1 (by decide) (by decide) rfl (by decide) ?_
    refine lv_aload_n hx hb dX1_wageTold_60 rfl (lv_at hl 0 rfl) ?_
    refine lv_iload_n hx hb dX1_wageTold_61 rfl (lv_at hl 1 rfl) ?_
    refine g_ci (wr := []) (cells' := 0) (slots' := 0) rfl rfl C rd_nil hD hS (g_runV (wr := []) (n := 1) C (mX1_back l D t cI o H.size v r (by omega) hp) (rw_V q218 q219 q220 q5 q221) kd_X1_back ⟨Nat.le_of_ble_eq_true rfl, Nat.le_of_ble_eq_true rfl⟩ (ci := 1) rfl rfl rfl C.2.2.2.2.2.1 hP hD hS hl.1 rfl rfl (Nat.le_of_ble_eq_true rfl) dX1_wageTold_62 ⟨Nat.le_of_ble_eq_true rfl, Nat.le_of_ble_eq_true rfl⟩) (fun r1 w' H locs hv _ _ hP hD hS => ?_)
    subst hv
    have hD : va_D A (rb_w cI o v) := hD
    exact g_iret C hrt hP hD hS dX1_wageTold_65 rfl
  · have hl : lv_has ls 3 [(0, .ref o), (1, .int (nI r)), (2, .int (nI 5))] := hl
    refine lv_iload_n hx hb dX1_wageTold_0 rfl (lv_at hl 2 rfl) ?_
    refine lv_tableOut (tgt := 66) hx hb dX1_wageTold_1 (by decide) (by decide) ?_
    refine lv_aload_n hx hb dX1_wageTold_66 rfl (lv_at hl 0 rfl) ?_
    refine lv_iload_n hx hb dX1_wageTold_67 rfl (lv_at hl 1 rfl) ?_
    refine g_ci (wr := []) (cells' := 0) (slots' := 0) rfl rfl C rd_nil hD hS (g_runV (wr := []) (n := 1) C (mX1_coming l D t cI o H.size v r (by omega)) (rw_V q222 q223 q224 q5 q225) kd_X1_coming ⟨Nat.le_of_ble_eq_true rfl, Nat.le_of_ble_eq_true rfl⟩ (ci := 1) rfl rfl rfl C.2.2.2.2.2.1 hP hD hS hl.1 rfl rfl (Nat.le_of_ble_eq_true rfl) dX1_wageTold_68 ⟨Nat.le_of_ble_eq_true rfl, Nat.le_of_ble_eq_true rfl⟩) (fun r1 w' H locs hv _ _ hP hD hS => ?_)
    subst hv
    have hD : va_D A (rb_w cI o v) := hD
    refine lv_aload_n hx hb dX1_wageTold_71 rfl (lv_at hl 0 rfl) ?_
    refine lv_iload_n hx hb dX1_wageTold_72 rfl (lv_at hl 1 rfl) ?_
    refine g_ci (wr := []) (cells' := 0) (slots' := 0) rfl rfl C rd_nil hD hS (g_runV (wr := []) (n := 1) C (mX1_back l D t cI o H.size v r (by omega) hp) (rw_V q218 q219 q220 q5 q221) kd_X1_back ⟨Nat.le_of_ble_eq_true rfl, Nat.le_of_ble_eq_true rfl⟩ (ci := 1) rfl rfl rfl C.2.2.2.2.2.1 hP hD hS hl.1 rfl rfl (Nat.le_of_ble_eq_true rfl) dX1_wageTold_73 ⟨Nat.le_of_ble_eq_true rfl, Nat.le_of_ble_eq_true rfl⟩) (fun r2 w' H locs hv _ _ hP hD hS => ?_)
    subst hv
    have hD : va_D A (rb_w cI o v) := hD
    refine lv_isub hx hb dX1_wageTold_76 ?_
    exact g_iret C hrt hP hD hS dX1_wageTold_77 rfl
theorem kd_X1_reaperTold : yX1_reaperTold.cls = yX1_reaperTold.cls ∧ yX1_reaperTold.cls ≠ "java/lang/invoke/MethodHandle" ∧ yX1_reaperTold.cls ≠ "java/lang/invoke/VarHandle" ∧ (parseMethodDescriptor yX1_reaperTold.desc).map (fun d => d.parameters.length) = some 2 := by decide +kernel
set_option maxHeartbeats 4000000 in
set_option maxRecDepth 100000 in
theorem mX1_reaperTold (l : Launch) (D : va_G) (t : Nat → Nat) (cI : ClassId) (o : Nat) (sz : Nat) (v : S1) (r : Nat) (hr8 : r < 8) (k : Nat) (hk8 : k < 8) : gMi l yX1_reaperTold (rw_ yX1_reaperTold cX1_reaperTold 3 (some .int)) (rm_ 2 0 0 44) [.ref o, .int (nI r), .int (nI k)] D [(cI, .int)] t (rb_w cI o v) sz (fun _ w' => w' = rb_w cI o v) := by
  refine g_of (cc := cX1_reaperTold) (nL := 3) (rt := (some .int)) (Q := fun A => va_Qi _ (fun w' U => gQ D A w' U) A) (by decide) (Nat.le_of_ble_eq_true rfl) (fun p e s m args below meth c A ls H C hrt hnm hS hP hD hl => ?_)
  have hx := C.1
  have hb := C.2.1
  have hown := C.2.2.2.1
  have hts := C.2.2.2.2.1
  have hl : lv_has ls 3 [(0, .ref o), (1, .int (nI r)), (2, .int (nI k))] := hl
  refine lv_iload_n hx hb dX1_reaperTold_0 rfl (lv_at hl 2 rfl) ?_
  refine lv_bipush (v := 7) hx hb dX1_reaperTold_1 (by decide) ?_
  refine lv_icmp_ge (tgt := 15) hx hb dX1_reaperTold_3 (by decide) (fun c1 => ?_) (fun c1 => ?_)
  · refine lv_aload_n hx hb dX1_reaperTold_15 rfl (lv_at hl 0 rfl) ?_
    refine lv_iload_n hx hb dX1_reaperTold_16 rfl (lv_at hl 1 rfl) ?_
    refine g_ci (wr := []) (cells' := 0) (slots' := 0) rfl rfl C rd_nil hD hS (g_runV (wr := []) (n := 1) C (mX1_counting l D t cI o H.size v r (by omega)) (rw_V q239 q240 q241 q5 q242) kd_X1_counting ⟨Nat.le_of_ble_eq_true rfl, Nat.le_of_ble_eq_true rfl⟩ (ci := 1) rfl rfl rfl C.2.2.2.2.2.1 hP hD hS hl.1 rfl rfl (Nat.le_of_ble_eq_true rfl) dX1_reaperTold_17 ⟨Nat.le_of_ble_eq_true rfl, Nat.le_of_ble_eq_true rfl⟩) (fun r2 w' H locs hv _ _ hP hD hS => ?_)
    subst hv
    have hD : va_D A (rb_w cI o v) := hD
    exact g_iret C hrt hP hD hS dX1_reaperTold_20 rfl
  · have hk7 : k < 7 := by rcases Nat.lt_or_ge k 7 with h9 | h9; exact h9; exact absurd ((nI_leI (a := 7) (b := k) (by omega) (by omega)).mpr h9) c1
    refine lv_aload_n hx hb dX1_reaperTold_6 rfl (lv_at hl 0 rfl) ?_
    refine lv_iload_n hx hb dX1_reaperTold_7 rfl (lv_at hl 1 rfl) ?_
    refine lv_iload_n hx hb dX1_reaperTold_8 rfl (lv_at hl 2 rfl) ?_
    refine g_ci (wr := []) (cells' := 0) (slots' := 0) rfl rfl C rd_nil hD hS (g_runV (wr := []) (n := 2) C (mX1_re l D t cI o H.size v r k (by omega) (by omega)) (rw_V q128 q129 q130 q5 q131) kd_X1_re ⟨Nat.le_of_ble_eq_true rfl, Nat.le_of_ble_eq_true rfl⟩ (ci := 1) rfl rfl rfl C.2.2.2.2.2.1 hP hD hS hl.1 rfl rfl (Nat.le_of_ble_eq_true rfl) dX1_reaperTold_9 ⟨Nat.le_of_ble_eq_true rfl, Nat.le_of_ble_eq_true rfl⟩) (fun r3 w' H locs hv _ _ hP hD hS => ?_)
    obtain ⟨rfl, rfl⟩ := hv
    have hD : va_D A (rb_w cI o v) := hD
    refine lv_goto (tgt := 20) hx hb dX1_reaperTold_12 (by decide) ?_
    exact g_iret C hrt hP hD hS dX1_reaperTold_20 rfl
theorem kd_X1_paid : yX1_paid.cls = yX1_paid.cls ∧ yX1_paid.cls ≠ "java/lang/invoke/MethodHandle" ∧ yX1_paid.cls ≠ "java/lang/invoke/VarHandle" ∧ (parseMethodDescriptor yX1_paid.desc).map (fun d => d.parameters.length) = some 0 := by decide +kernel
set_option maxHeartbeats 4000000 in
set_option maxRecDepth 100000 in
theorem lpX1_coin {p : Program} {l : Launch} {e : Env} {s : State} {m : MethodId} {args : Array Value} {below : List Frame} {meth : Method} {c : Code} {Q : State → Prop} {D : va_G} {t : Nat → Nat} {A : Nat → Prop} {cI : ClassId} {o : Nat} {v : S1} {r cc9 ss9 : Nat} {x1 x3 : Int32} (C : gC p s m args meth c cX1_paid 8 RX1 D [(cI, .int)] t A) (hr8 : r < 8) (h9 : cc9 ≤ 8 ∧ ss9 ≤ 56) (kk : ∀ (x4 x5 : Int32) (y2 : S1) (hC : rb_C v y2) (H : Heap) (locs : List Loc) (ls : Array Slot), va_P D vwCl (rb_w cI o y2) H → va_D A (rb_w cI o y2) → va_S A s.heap H locs → lv_has ls 8 [(0, .ref o), (1, .int x1), (2, .int (nI r)), (3, .int x3), (4, .int x4), (5, .int x5), (6, .int (nI 3))] → W p l e (rm_ 6 8 56 128) s m args below meth c H locs cc9 ss9 Q (F0 m 119 ls [])) :
    ∀ (n i : Nat) (x4 x5 : Int32) (y2 : S1) (hC : rb_C v y2), i + n = 3 → ∀ (H : Heap) (locs : List Loc) (ls : Array Slot), va_P D vwCl (rb_w cI o y2) H → va_D A (rb_w cI o y2) → va_S A s.heap H locs → lv_has ls 8 [(0, .ref o), (1, .int x1), (2, .int (nI r)), (3, .int x3), (4, .int x4), (5, .int x5), (6, .int (nI i))] → W p l e (rm_ 6 8 56 128) s m args below meth c H locs cc9 ss9 Q (F0 m 33 ls []) := by
  have hx := C.1
  have hb := C.2.1
  have hown := C.2.2.2.1
  have hts := C.2.2.2.2.1
  intro n
  induction n with
  | zero =>
    intro i x4 x5 y2 hC hi H locs ls hP hD hS hl
    have hiN : i = 3 := by omega
    refine lv_iload hx hb dX1_paid_33 (lv_at hl 6 rfl) ?_
    refine lv_iconst (v := 3) hx hb dX1_paid_35 (by decide) ?_
    refine lv_icmp_ge (tgt := 119) hx hb dX1_paid_36 (by decide) (fun c1 => ?_) (fun c1 => absurd ((nI_leI (a := 3) (b := i) (by omega) (by omega)).mpr (by omega)) c1)
    subst hiN
    exact kk x4 x5 y2 hC _ _ _ hP hD hS (lv_sub hl [0, 1, 2, 3, 4, 5, 6] rfl)
  | succ n ih =>
    intro i x4 x5 y2 hC hi H locs ls hP hD hS hl
    have hin : i < 3 := by omega
    refine lv_iload hx hb dX1_paid_33 (lv_at hl 6 rfl) ?_
    refine lv_iconst (v := 3) hx hb dX1_paid_35 (by decide) ?_
    refine lv_icmp_ge (tgt := 119) hx hb dX1_paid_36 (by decide) (fun c1 => absurd c1 (fun h9 => absurd ((nI_leI (a := 3) (b := i) (by omega) (by omega)).mp h9) (by omega))) (fun c1 => ?_)
    refine lv_iload hx hb dX1_paid_39 (lv_at hl 4 rfl) ?_
    refine g_gs C hS (C.2.2.2.2.2.2.2.1.2.2.2.2.2.2.2.2.2.2.1) q211 dX1_paid_41 ?_
    refine lv_iload hx hb dX1_paid_44 (lv_at hl 6 rfl) ?_
    refine g_ti C hS (N := 3) (i := i) (f := rt_RX1_WORTH) C.2.2.2.2.2.2.2.1.2.2.2.2.2.2.2.2.2.2.2.1 (by decide) (by omega) rfl dX1_paid_46 ?_
    refine lv_idiv hx hb dX1_paid_47 (rb_wnz hin) ?_
    refine lv_aload_n hx hb dX1_paid_48 rfl (lv_at hl 0 rfl) ?_
    refine x1_gf C hP 4 (by decide) (x := .ref (y2.2.2.2.2 1)) rfl rfl q31 dX1_paid_49 ?_
    refine lv_iload hx hb dX1_paid_52 (lv_at hl 6 rfl) ?_
    refine x1_ld C hP (k := 1) (i := i) (by decide) (show i < 3 by omega) rfl dX1_paid_54 ?_
    refine g_min C q212 q180 q173 q181 hl.1 (Nat.le_of_ble_eq_true rfl) (Nat.le_of_ble_eq_true rfl) ((show cc9 ≤ 8 from h9.1)) ((show ss9 ≤ 56 from h9.2)) dX1_paid_55 ?_
    refine lv_topi (fun v2 ev2 => ?_)
    refine lv_istore (lv' := [(7, .int v2), (0, .ref o), (1, .int x1), (2, .int (nI r)), (3, .int x3), (4, .int x4), (5, .int x5), (6, .int (nI i))]) hx hb dX1_paid_58 hl (by decide) rfl (fun ls hl => ?_)
    refine lv_aload_n hx hb dX1_paid_60 rfl (lv_at hl 1 rfl) ?_
    refine x1_gf C hP 4 (by decide) (x := .ref (y2.2.2.2.2 1)) rfl rfl q31 dX1_paid_61 ?_
    refine lv_iload hx hb dX1_paid_64 (lv_at hl 7 rfl) ?_
    refine lv_dup2_11 hx hb dX1_paid_66 rfl rfl ?_
    refine x1_ld C hP (k := 1) (i := i) (by decide) (show i < 3 by omega) rfl dX1_paid_67 ?_
    refine lv_iload hx hb dX1_paid_68 (lv_at hl 0 rfl) ?_
    refine lv_isub hx hb dX1_paid_70 ?_
    refine x1_st C hP hD hS (k := 1) (i := i) (by decide) (show i < 3 by omega) rfl dX1_paid_71 (fun H locs hP hD hS => ?_)
    have hP : va_P D vwCl (rb_w cI o (rb_s y2 1 i ((y2.1 1 i) - v2))) H := hP
    have hD : va_D A (rb_w cI o (rb_s y2 1 i ((y2.1 1 i) - v2))) := hD
    refine lv_aload_n hx hb dX1_paid_72 rfl (lv_at hl 1 rfl) ?_
    refine x1_gf C hP 6 (by decide) (x := .ref ((rb_s y2 1 i ((y2.1 1 i) - v2)).2.2.2.2 3)) rfl rfl q33 dX1_paid_73 ?_
    refine lv_iconst (v := 3) hx hb dX1_paid_76 (by decide) ?_
    refine lv_iload_n hx hb dX1_paid_77 rfl (lv_at hl 3 rfl) ?_
    refine lv_imul hx hb dX1_paid_78 ?_
    refine g_top (pk_mul 3 r) ?_
    refine lv_iload hx hb dX1_paid_79 (lv_at hl 7 rfl) ?_
    refine lv_iadd hx hb dX1_paid_81 ?_
    refine g_top (nI_add (3 * r) i) ?_
    refine lv_iload hx hb dX1_paid_82 (lv_at hl 0 rfl) ?_
    refine x1_st C hP hD hS (k := 3) (i := (3 * r) + i) (by decide) (show (3 * r) + i < 24 by omega) rfl dX1_paid_84 (fun H locs hP hD hS => ?_)
    have hP : va_P D vwCl (rb_w cI o (rb_s (rb_s y2 1 i ((y2.1 1 i) - v2)) 3 ((3 * r) + i) v2)) H := hP
    have hD : va_D A (rb_w cI o (rb_s (rb_s y2 1 i ((y2.1 1 i) - v2)) 3 ((3 * r) + i) v2)) := hD
    refine lv_iload hx hb dX1_paid_85 (lv_at hl 6 rfl) ?_
    refine lv_iload hx hb dX1_paid_87 (lv_at hl 0 rfl) ?_
    refine g_gs C hS (C.2.2.2.2.2.2.2.1.2.2.2.2.2.2.2.2.2.2.1) q211 dX1_paid_89 ?_
    refine lv_iload hx hb dX1_paid_92 (lv_at hl 7 rfl) ?_
    refine g_ti C hS (N := 3) (i := i) (f := rt_RX1_WORTH) C.2.2.2.2.2.2.2.1.2.2.2.2.2.2.2.2.2.2.2.1 (by decide) (by omega) rfl dX1_paid_94 ?_
    refine lv_imul hx hb dX1_paid_95 ?_
    refine lv_iadd hx hb dX1_paid_96 ?_
    refine lv_topi (fun v3 ev3 => ?_)
    refine lv_istore (lv' := [(5, .int v3), (7, .int v2), (0, .ref o), (1, .int x1), (2, .int (nI r)), (3, .int x3), (4, .int x4), (6, .int (nI i))]) hx hb dX1_paid_97 hl (by decide) rfl (fun ls hl => ?_)
    refine lv_iload hx hb dX1_paid_99 (lv_at hl 6 rfl) ?_
    refine lv_iload hx hb dX1_paid_101 (lv_at hl 1 rfl) ?_
    refine g_gs C hS (C.2.2.2.2.2.2.2.1.2.2.2.2.2.2.2.2.2.2.1) q211 dX1_paid_103 ?_
    refine lv_iload hx hb dX1_paid_106 (lv_at hl 7 rfl) ?_
    refine g_ti C hS (N := 3) (i := i) (f := rt_RX1_WORTH) C.2.2.2.2.2.2.2.1.2.2.2.2.2.2.2.2.2.2.2.1 (by decide) (by omega) rfl dX1_paid_108 ?_
    refine lv_imul hx hb dX1_paid_109 ?_
    refine lv_isub hx hb dX1_paid_110 ?_
    refine lv_topi (fun v4 ev4 => ?_)
    refine lv_istore (lv' := [(4, .int v4), (5, .int v3), (7, .int v2), (0, .ref o), (1, .int x1), (2, .int (nI r)), (3, .int x3), (6, .int (nI i))]) hx hb dX1_paid_111 hl (by decide) rfl (fun ls hl => ?_)
    refine lv_iinc (v := nI (i + 1)) (lv' := [(6, .int (nI (i + 1))), (4, .int v4), (5, .int v3), (7, .int v2), (0, .ref o), (1, .int x1), (2, .int (nI r)), (3, .int x3)]) hx hb dX1_paid_113 hl (k := 7) rfl (nI_1 _) (by decide) rfl (fun ls hl => ?_)
    refine lv_goto (tgt := 33) hx hb dX1_paid_116 (by decide) ?_
    exact ih (i + 1) _ _ _ hC.s (by omega) _ _ _ hP hD hS (lv_sub hl [4, 5, 6, 7, 1, 2, 0] rfl)
set_option maxHeartbeats 4000000 in
set_option maxRecDepth 100000 in
theorem lpX1_paid {p : Program} {l : Launch} {e : Env} {s : State} {m : MethodId} {args : Array Value} {below : List Frame} {meth : Method} {c : Code} {Q : State → Prop} {D : va_G} {t : Nat → Nat} {A : Nat → Prop} {cI : ClassId} {o : Nat} {v : S1} (C : gC p s m args meth c cX1_paid 8 RX1 D [(cI, .int)] t A) (hn : v.2.1 ≤ 8) (hp : ¬ v.1 0 4 = 0) (kk : ∀ (x1 : Int32) (y1 : S1) (hR : rb_R v y1 v.2.1) (H : Heap) (locs : List Loc) (ls : Array Slot), va_P D vwCl (rb_w cI o y1) H → va_D A (rb_w cI o y1) → va_S A s.heap H locs → lv_has ls 8 [(0, .ref o), (1, .int x1), (2, .int (nI v.2.1))] → W p l e (rm_ 6 8 56 128) s m args below meth c H locs v.2.1 (7 * v.2.1) Q (F0 m 203 ls [])) :
    ∀ (n i : Nat) (x1 : Int32) (y1 : S1) (hR : rb_R v y1 i), i + n = v.2.1 → ∀ (H : Heap) (locs : List Loc) (ls : Array Slot), va_P D vwCl (rb_w cI o y1) H → va_D A (rb_w cI o y1) → va_S A s.heap H locs → lv_has ls 8 [(0, .ref o), (1, .int x1), (2, .int (nI i))] → W p l e (rm_ 6 8 56 128) s m args below meth c H locs i (7 * i) Q (F0 m 4 ls []) := by
  have hx := C.1
  have hb := C.2.1
  have hown := C.2.2.2.1
  have hts := C.2.2.2.2.1
  intro n
  induction n with
  | zero =>
    intro i x1 y1 hR hi H locs ls hP hD hS hl
    have hiN : i = v.2.1 := by omega
    refine lv_iload_n hx hb dX1_paid_4 rfl (lv_at hl 2 rfl) ?_
    refine lv_aload_n hx hb dX1_paid_5 rfl (lv_at hl 0 rfl) ?_
    refine x1_gf C hP 1 (by decide) (x := .int (nI y1.2.1)) rfl rfl q60 dX1_paid_6 ?_
    refine g_top (congrArg nI (hR.1)) ?_
    refine lv_icmp_ge (tgt := 203) hx hb dX1_paid_9 (by decide) (fun c1 => ?_) (fun c1 => absurd ((nI_leI (a := v.2.1) (b := i) (by omega) (by omega)).mpr (by omega)) c1)
    subst hiN
    exact kk x1 y1 hR _ _ _ hP hD hS (lv_sub hl [0, 1, 2] rfl)
  | succ n ih =>
    intro i x1 y1 hR hi H locs ls hP hD hS hl
    have hin : i < v.2.1 := by omega
    refine lv_iload_n hx hb dX1_paid_4 rfl (lv_at hl 2 rfl) ?_
    refine lv_aload_n hx hb dX1_paid_5 rfl (lv_at hl 0 rfl) ?_
    refine x1_gf C hP 1 (by decide) (x := .int (nI y1.2.1)) rfl rfl q60 dX1_paid_6 ?_
    refine g_top (congrArg nI (hR.1)) ?_
    refine lv_icmp_ge (tgt := 203) hx hb dX1_paid_9 (by decide) (fun c1 => absurd c1 (fun h9 => absurd ((nI_leI (a := v.2.1) (b := i) (by omega) (by omega)).mp h9) (by omega))) (fun c1 => ?_)
    refine lv_aload_n hx hb dX1_paid_12 rfl (lv_at hl 0 rfl) ?_
    refine lv_iload_n hx hb dX1_paid_13 rfl (lv_at hl 2 rfl) ?_
    refine g_ci (wr := []) (cells' := i) (slots' := 7 * i) rfl rfl C rd_nil hD hS (g_runV (wr := []) (n := 1) C (mX1_back l D t cI o H.size y1 i (by omega) (by rw [hR.2.2.1]; exact hp)) (rw_V q218 q219 q220 q5 q221) kd_X1_back ⟨Nat.le_of_ble_eq_true rfl, Nat.le_of_ble_eq_true rfl⟩ (ci := 1) rfl rfl rfl C.2.2.2.2.2.1 hP hD hS hl.1 rfl rfl (Nat.le_of_ble_eq_true rfl) dX1_paid_14 ⟨(show i + 0 ≤ 8 by omega), (show 7 * i + 0 ≤ 56 by omega)⟩) (fun r2 w' H locs hv _ _ hP hD hS => ?_)
    subst hv
    have hD : va_D A (rb_w cI o y1) := hD
    refine lv_istore_n (lv' := [(3, .int r2), (0, .ref o), (1, .int x1), (2, .int (nI i))]) hx hb dX1_paid_17 rfl hl (by decide) rfl (fun ls hl => ?_)
    refine lv_aload_n hx hb dX1_paid_18 rfl (lv_at hl 1 rfl) ?_
    refine lv_iload_n hx hb dX1_paid_19 rfl (lv_at hl 3 rfl) ?_
    refine g_ci (wr := []) (cells' := i) (slots' := 7 * i) rfl rfl C rd_nil hD hS (g_runV (wr := []) (n := 1) C (mX1_coming l D t cI o H.size y1 i (by omega)) (rw_V q222 q223 q224 q5 q225) kd_X1_coming ⟨Nat.le_of_ble_eq_true rfl, Nat.le_of_ble_eq_true rfl⟩ (ci := 1) rfl rfl rfl C.2.2.2.2.2.1 hP hD hS hl.1 rfl rfl (Nat.le_of_ble_eq_true rfl) dX1_paid_20 ⟨(show i + 0 ≤ 8 by omega), (show 7 * i + 0 ≤ 56 by omega)⟩) (fun r3 w' H locs hv _ _ hP hD hS => ?_)
    subst hv
    have hD : va_D A (rb_w cI o y1) := hD
    refine lv_iload_n hx hb dX1_paid_23 rfl (lv_at hl 0 rfl) ?_
    refine lv_isub hx hb dX1_paid_24 ?_
    refine lv_topi (fun v4 ev4 => ?_)
    refine lv_istore (lv' := [(4, .int v4), (3, .int r2), (0, .ref o), (1, .int x1), (2, .int (nI i))]) hx hb dX1_paid_25 hl (by decide) rfl (fun ls hl => ?_)
    refine lv_iconst (v := 0) hx hb dX1_paid_27 (by decide) ?_
    refine lv_istore (lv' := [(5, .int 0), (4, .int v4), (3, .int r2), (0, .ref o), (1, .int x1), (2, .int (nI i))]) hx hb dX1_paid_28 hl (by decide) rfl (fun ls hl => ?_)
    refine lv_iconst (v := 0) hx hb dX1_paid_30 (by decide) ?_
    refine lv_istore (lv' := [(6, .int 0), (5, .int 0), (4, .int v4), (3, .int r2), (0, .ref o), (1, .int x1), (2, .int (nI i))]) hx hb dX1_paid_31 hl (by decide) rfl (fun ls hl => ?_)
    refine lpX1_coin (v := y1) (r := i) (cc9 := i) (ss9 := 7 * i) C (by omega) ⟨by omega, by omega⟩ (fun x4 x5 y2 hC H locs ls hP hD hS hl => ?_) 3 0 _ _ y1 rb_C0 (by omega) _ _ _ hP hD hS (lv_sub hl [4, 5, 6, 3, 2, 1, 0] rfl)
    refine lv_bipush (v := 7) hx hb dX1_paid_119 (by decide) ?_
    refine g_newa C hP hD hS (N := 7) rfl (by decide) q13 rfl rfl (show i + 1 ≤ 8 by omega) (show 7 * i + 7 ≤ 56 by omega) dX1_paid_121 (fun q H hP hD hS => ?_)
    refine lv_dup hx hb dX1_paid_123 rfl ?_
    refine lv_iconst (v := 0) hx hb dX1_paid_124 (by decide) ?_
    refine lv_aload_n hx hb dX1_paid_125 rfl (lv_at hl 0 rfl) ?_
    refine lv_iload_n hx hb dX1_paid_126 rfl (lv_at hl 2 rfl) ?_
    refine lv_iconst (v := 0) hx hb dX1_paid_127 (by decide) ?_
    have hP0 := hP.sub (ws' := rb_w cI o y2) [0, 1, 2, 3, 4] rfl
    have hP1 := hP.sub (ws' := [(q, .inl (cI, 7, .inl (fun _ => 0)))]) [5] rfl
    have hD1 : va_D A ([(q, .inl (cI, 7, .inl (fun _ => 0)))] ++ rb_w cI o y2) := rd_swap (w1 := rb_w cI o y2) (w2 := [(q, .inl (cI, 7, .inl (fun _ => 0)))]) hD
    refine g_ci (wr := [(q, .inl (cI, 7, .inl (fun _ => 0)))]) (cells' := i + 1) (slots' := 7 * i + 7) rfl rfl C hP1 hD1 hS (g_runV (wr := [(q, .inl (cI, 7, .inl (fun _ => 0)))]) (n := 2) C (mX1_re l D t cI o H.size y2 i 0 (by omega) (by omega)) (rw_V q128 q129 q130 q5 q131) kd_X1_re ⟨Nat.le_of_ble_eq_true rfl, Nat.le_of_ble_eq_true rfl⟩ (ci := 1) rfl rfl rfl C.2.2.2.2.2.1 hP0 hD1 hS hl.1 rfl rfl (Nat.le_of_ble_eq_true rfl) dX1_paid_128 ⟨(show i + 1 + 0 ≤ 8 by omega), (show 7 * i + 7 + 0 ≤ 56 by omega)⟩) (fun v9 w9 H locs hv _ hP1 hP0 hD1 hS => ?_)
    obtain ⟨rfl, rfl⟩ := hv
    have hP : va_P D vwCl (rb_w cI o y2 ++ [(q, .inl (cI, 7, .inl (fun _ => 0)))]) H := va_P.app hP0 hP1
    have hD : va_D A (rb_w cI o y2 ++ [(q, .inl (cI, 7, .inl (fun _ => 0)))]) := rd_swap (w1 := [(q, .inl (cI, 7, .inl (fun _ => 0)))]) (w2 := rb_w cI o y2) hD1
    refine g_st C hP hD hS 5 (n := 7) (i := 0) (f := (fun _ => 0)) rfl (by decide) (by decide) rfl dX1_paid_131 (fun H locs hP hD hS => ?_)
    obtain ⟨f5, ef5⟩ : ∃ z : Nat → Int32, z = upd (fun _ => 0) 0 (y2.1 2 (7 * i + 0)) := ⟨_, rfl⟩
    have hP : va_P D vwCl (rb_w cI o y2 ++ [(q, .inl (cI, 7, .inl f5))]) H := by rw [ef5]; exact hP
    have hD : va_D A (rb_w cI o y2 ++ [(q, .inl (cI, 7, .inl f5))]) := by rw [ef5]; exact hD
    refine lv_dup hx hb dX1_paid_132 rfl ?_
    refine lv_iconst (v := 1) hx hb dX1_paid_133 (by decide) ?_
    refine lv_iconst (v := 0) hx hb dX1_paid_134 (by decide) ?_
    refine g_st C hP hD hS 5 (n := 7) (i := 1) (f := f5) rfl (by decide) (by decide) rfl dX1_paid_135 (fun H locs hP hD hS => ?_)
    obtain ⟨f6, ef6⟩ : ∃ z : Nat → Int32, z = upd f5 1 0 := ⟨_, rfl⟩
    have hP : va_P D vwCl (rb_w cI o y2 ++ [(q, .inl (cI, 7, .inl f6))]) H := by rw [ef6]; exact hP
    have hD : va_D A (rb_w cI o y2 ++ [(q, .inl (cI, 7, .inl f6))]) := by rw [ef6]; exact hD
    refine lv_dup hx hb dX1_paid_136 rfl ?_
    refine lv_iconst (v := 2) hx hb dX1_paid_137 (by decide) ?_
    refine lv_iconst (v := 0) hx hb dX1_paid_138 (by decide) ?_
    refine g_st C hP hD hS 5 (n := 7) (i := 2) (f := f6) rfl (by decide) (by decide) rfl dX1_paid_139 (fun H locs hP hD hS => ?_)
    obtain ⟨f7, ef7⟩ : ∃ z : Nat → Int32, z = upd f6 2 0 := ⟨_, rfl⟩
    have hP : va_P D vwCl (rb_w cI o y2 ++ [(q, .inl (cI, 7, .inl f7))]) H := by rw [ef7]; exact hP
    have hD : va_D A (rb_w cI o y2 ++ [(q, .inl (cI, 7, .inl f7))]) := by rw [ef7]; exact hD
    refine lv_dup hx hb dX1_paid_140 rfl ?_
    refine lv_iconst (v := 3) hx hb dX1_paid_141 (by decide) ?_
    refine lv_iconst (v := 0) hx hb dX1_paid_142 (by decide) ?_
    refine g_st C hP hD hS 5 (n := 7) (i := 3) (f := f7) rfl (by decide) (by decide) rfl dX1_paid_143 (fun H locs hP hD hS => ?_)
    obtain ⟨f8, ef8⟩ : ∃ z : Nat → Int32, z = upd f7 3 0 := ⟨_, rfl⟩
    have hP : va_P D vwCl (rb_w cI o y2 ++ [(q, .inl (cI, 7, .inl f8))]) H := by rw [ef8]; exact hP
    have hD : va_D A (rb_w cI o y2 ++ [(q, .inl (cI, 7, .inl f8))]) := by rw [ef8]; exact hD
    refine lv_dup hx hb dX1_paid_144 rfl ?_
    refine lv_iconst (v := 4) hx hb dX1_paid_145 (by decide) ?_
    refine lv_aload_n hx hb dX1_paid_146 rfl (lv_at hl 0 rfl) ?_
    refine lv_iload_n hx hb dX1_paid_147 rfl (lv_at hl 2 rfl) ?_
    refine lv_iconst (v := 4) hx hb dX1_paid_148 (by decide) ?_
    have hP0 := hP.sub (ws' := rb_w cI o y2) [0, 1, 2, 3, 4] rfl
    have hP1 := hP.sub (ws' := [(q, .inl (cI, 7, .inl f8))]) [5] rfl
    have hD1 : va_D A ([(q, .inl (cI, 7, .inl f8))] ++ rb_w cI o y2) := rd_swap (w1 := rb_w cI o y2) (w2 := [(q, .inl (cI, 7, .inl f8))]) hD
    refine g_ci (wr := [(q, .inl (cI, 7, .inl f8))]) (cells' := i + 1) (slots' := 7 * i + 7) rfl rfl C hP1 hD1 hS (g_runV (wr := [(q, .inl (cI, 7, .inl f8))]) (n := 2) C (mX1_re l D t cI o H.size y2 i 4 (by omega) (by omega)) (rw_V q128 q129 q130 q5 q131) kd_X1_re ⟨Nat.le_of_ble_eq_true rfl, Nat.le_of_ble_eq_true rfl⟩ (ci := 1) rfl rfl rfl C.2.2.2.2.2.1 hP0 hD1 hS hl.1 rfl rfl (Nat.le_of_ble_eq_true rfl) dX1_paid_149 ⟨(show i + 1 + 0 ≤ 8 by omega), (show 7 * i + 7 + 0 ≤ 56 by omega)⟩) (fun v9 w9 H locs hv _ hP1 hP0 hD1 hS => ?_)
    obtain ⟨rfl, rfl⟩ := hv
    have hP : va_P D vwCl (rb_w cI o y2 ++ [(q, .inl (cI, 7, .inl f8))]) H := va_P.app hP0 hP1
    have hD : va_D A (rb_w cI o y2 ++ [(q, .inl (cI, 7, .inl f8))]) := rd_swap (w1 := [(q, .inl (cI, 7, .inl f8))]) (w2 := rb_w cI o y2) hD1
    refine lv_iload_n hx hb dX1_paid_152 rfl (lv_at hl 3 rfl) ?_
    refine lv_isub hx hb dX1_paid_153 ?_
    refine g_st C hP hD hS 5 (n := 7) (i := 4) (f := f8) rfl (by decide) (by decide) rfl dX1_paid_154 (fun H locs hP hD hS => ?_)
    obtain ⟨f9, ef9⟩ : ∃ z : Nat → Int32, z = upd f8 4 ((y2.1 2 (7 * i + 4)) - r2) := ⟨_, rfl⟩
    have hP : va_P D vwCl (rb_w cI o y2 ++ [(q, .inl (cI, 7, .inl f9))]) H := by rw [ef9]; exact hP
    have hD : va_D A (rb_w cI o y2 ++ [(q, .inl (cI, 7, .inl f9))]) := by rw [ef9]; exact hD
    refine lv_dup hx hb dX1_paid_155 rfl ?_
    refine lv_iconst (v := 5) hx hb dX1_paid_156 (by decide) ?_
    refine lv_iload hx hb dX1_paid_157 (lv_at hl 4 rfl) ?_
    refine g_st C hP hD hS 5 (n := 7) (i := 5) (f := f9) rfl (by decide) (by decide) rfl dX1_paid_159 (fun H locs hP hD hS => ?_)
    obtain ⟨f10, ef10⟩ : ∃ z : Nat → Int32, z = upd f9 5 x4 := ⟨_, rfl⟩
    have hP : va_P D vwCl (rb_w cI o y2 ++ [(q, .inl (cI, 7, .inl f10))]) H := by rw [ef10]; exact hP
    have hD : va_D A (rb_w cI o y2 ++ [(q, .inl (cI, 7, .inl f10))]) := by rw [ef10]; exact hD
    refine lv_dup hx hb dX1_paid_160 rfl ?_
    refine lv_bipush (v := 6) hx hb dX1_paid_161 (by decide) ?_
    refine lv_aload_n hx hb dX1_paid_163 rfl (lv_at hl 0 rfl) ?_
    refine lv_iload_n hx hb dX1_paid_164 rfl (lv_at hl 2 rfl) ?_
    refine lv_bipush (v := 6) hx hb dX1_paid_165 (by decide) ?_
    have hP0 := hP.sub (ws' := rb_w cI o y2) [0, 1, 2, 3, 4] rfl
    have hP1 := hP.sub (ws' := [(q, .inl (cI, 7, .inl f10))]) [5] rfl
    have hD1 : va_D A ([(q, .inl (cI, 7, .inl f10))] ++ rb_w cI o y2) := rd_swap (w1 := rb_w cI o y2) (w2 := [(q, .inl (cI, 7, .inl f10))]) hD
    refine g_ci (wr := [(q, .inl (cI, 7, .inl f10))]) (cells' := i + 1) (slots' := 7 * i + 7) rfl rfl C hP1 hD1 hS (g_runV (wr := [(q, .inl (cI, 7, .inl f10))]) (n := 2) C (mX1_re l D t cI o H.size y2 i 6 (by omega) (by omega)) (rw_V q128 q129 q130 q5 q131) kd_X1_re ⟨Nat.le_of_ble_eq_true rfl, Nat.le_of_ble_eq_true rfl⟩ (ci := 1) rfl rfl rfl C.2.2.2.2.2.1 hP0 hD1 hS hl.1 rfl rfl (Nat.le_of_ble_eq_true rfl) dX1_paid_167 ⟨(show i + 1 + 0 ≤ 8 by omega), (show 7 * i + 7 + 0 ≤ 56 by omega)⟩) (fun v9 w9 H locs hv _ hP1 hP0 hD1 hS => ?_)
    obtain ⟨rfl, rfl⟩ := hv
    have hP : va_P D vwCl (rb_w cI o y2 ++ [(q, .inl (cI, 7, .inl f10))]) H := va_P.app hP0 hP1
    have hD : va_D A (rb_w cI o y2 ++ [(q, .inl (cI, 7, .inl f10))]) := rd_swap (w1 := [(q, .inl (cI, 7, .inl f10))]) (w2 := rb_w cI o y2) hD1
    refine lv_iload hx hb dX1_paid_170 (lv_at hl 5 rfl) ?_
    refine lv_iadd hx hb dX1_paid_172 ?_
    refine g_st C hP hD hS 5 (n := 7) (i := 6) (f := f10) rfl (by decide) (by decide) rfl dX1_paid_173 (fun H locs hP hD hS => ?_)
    obtain ⟨f11, ef11⟩ : ∃ z : Nat → Int32, z = upd f10 6 ((y2.1 2 (7 * i + 6)) + x5) := ⟨_, rfl⟩
    have hP : va_P D vwCl (rb_w cI o y2 ++ [(q, .inl (cI, 7, .inl f11))]) H := by rw [ef11]; exact hP
    have hD : va_D A (rb_w cI o y2 ++ [(q, .inl (cI, 7, .inl f11))]) := by rw [ef11]; exact hD
    refine lv_astore (lv' := [(6, .ref q), (0, .ref o), (1, .int x1), (2, .int (nI i)), (3, .int r2), (4, .int x4), (5, .int x5)]) hx hb dX1_paid_174 hl (by decide) rfl (fun ls hl => ?_)
    refine lv_aload hx hb dX1_paid_176 (lv_at hl 0 rfl) ?_
    refine lv_iconst (v := 0) hx hb dX1_paid_178 (by decide) ?_
    refine lv_aload_n hx hb dX1_paid_179 rfl (lv_at hl 1 rfl) ?_
    refine x1_gf C (hP.sub (ws' := rb_w cI o y2) [0, 1, 2, 3, 4] rfl) 5 (by decide) (x := .ref (y2.2.2.2.2 2)) rfl rfl q32 dX1_paid_180 ?_
    refine lv_bipush (v := 7) hx hb dX1_paid_183 (by decide) ?_
    refine lv_iload_n hx hb dX1_paid_185 rfl (lv_at hl 3 rfl) ?_
    refine lv_imul hx hb dX1_paid_186 ?_
    refine g_top (pk_mul 7 i) ?_
    refine lv_bipush (v := 7) hx hb dX1_paid_187 (by decide) ?_
    refine g_copy C hP hD hS 5 3 (n := 7) (d := 7 * i) (f := f11) (g := y2.1 2) rfl rfl rfl rfl rfl (by decide) (by omega) (by decide) q213 q214 q215 q216 hl.1 (Nat.le_of_ble_eq_true rfl) (Nat.le_of_ble_eq_true rfl) dX1_paid_189 (fun H locs hP hD hS => ?_)
    have hP : va_P D vwCl (rb_w cI o (rb_u y2 2 (va_cpy f11 (y2.1 2) 0 (7 * i) 7))) H := hP.sub [0, 1, 2, 3, 4] rfl
    have hD : va_D A (rb_w cI o (rb_u y2 2 (va_cpy f11 (y2.1 2) 0 (7 * i) 7))) := hD.sub [0, 1, 2, 3, 4] (by decide) rfl
    refine lv_iload_n hx hb dX1_paid_192 rfl (lv_at hl 2 rfl) ?_
    refine lv_iload hx hb dX1_paid_193 (lv_at hl 6 rfl) ?_
    refine lv_iadd hx hb dX1_paid_195 ?_
    refine lv_topi (fun v12 ev12 => ?_)
    refine lv_istore_n (lv' := [(1, .int v12), (6, .ref q), (0, .ref o), (2, .int (nI i)), (3, .int r2), (4, .int x4), (5, .int x5)]) hx hb dX1_paid_196 rfl hl (by decide) rfl (fun ls hl => ?_)
    refine lv_iinc (v := nI (i + 1)) (lv' := [(2, .int (nI (i + 1))), (1, .int v12), (6, .ref q), (0, .ref o), (3, .int r2), (4, .int x4), (5, .int x5)]) hx hb dX1_paid_197 hl (k := 3) rfl (nI_1 _) (by decide) rfl (fun ls hl => ?_)
    refine lv_goto (tgt := 4) hx hb dX1_paid_200 (by decide) ?_
    refine W.widen (k := i + 1) (n := 7 * (i + 1)) (by omega) (by omega) ?_
    exact ih (i + 1) _ _ (rb_R_step hR hC (by subst ef11; subst ef10; subst ef9; subst ef8; subst ef7; subst ef6; subst ef5; rfl) (by subst ef11; subst ef10; subst ef9; subst ef8; subst ef7; subst ef6; subst ef5; rfl)) (by omega) _ _ _ hP hD hS (lv_sub hl [3, 1, 0] rfl)
set_option maxHeartbeats 4000000 in
set_option maxRecDepth 100000 in
theorem mX1_paid (l : Launch) (D : va_G) (t : Nat → Nat) (cI : ClassId) (o : Nat) (sz : Nat) (v : S1) (hn : v.2.1 ≤ 8) (hp : ¬ v.1 0 4 = 0) : gMi l yX1_paid (rw_ yX1_paid cX1_paid 8 (some .int)) (rm_ 6 8 56 128) [.ref o] D [(cI, .int)] t (rb_w cI o v) sz (fun _ w' => ∃ v', rb_R v v' v.2.1 ∧ w' = rb_w cI o v') := by
  refine g_of (cc := cX1_paid) (nL := 8) (rt := (some .int)) (Q := fun A => va_Qi _ (fun w' U => gQ D A w' U) A) (by decide) (Nat.le_of_ble_eq_true rfl) (fun p e s m args below meth c A ls H C hrt hnm hS hP hD hl => ?_)
  have hx := C.1
  have hb := C.2.1
  have hown := C.2.2.2.1
  have hts := C.2.2.2.2.1
  have hl : lv_has ls 8 [(0, .ref o)] := hl
  refine lv_iconst (v := 0) hx hb dX1_paid_0 (by decide) ?_
  refine lv_istore_n (lv' := [(1, .int 0), (0, .ref o)]) hx hb dX1_paid_1 rfl hl (by decide) rfl (fun ls hl => ?_)
  refine lv_iconst (v := 0) hx hb dX1_paid_2 (by decide) ?_
  refine lv_istore_n (lv' := [(2, .int 0), (1, .int 0), (0, .ref o)]) hx hb dX1_paid_3 rfl hl (by decide) rfl (fun ls hl => ?_)
  refine lpX1_paid (v := v) C hn hp (fun x1 y1 hR H locs ls hP hD hS hl => ?_) v.2.1 0 _ v rb_R0 (by omega) _ _ _ hP hD hS (lv_sub hl [2, 1, 0] rfl)
  refine lv_aload_n hx hb dX1_paid_203 rfl (lv_at hl 0 rfl) ?_
  refine lv_dup hx hb dX1_paid_204 rfl ?_
  refine x1_gf C hP 2 (by decide) (x := .int y1.2.2.1) rfl rfl q217 dX1_paid_205 ?_
  refine lv_iconst (v := 1) hx hb dX1_paid_208 (by decide) ?_
  refine lv_iadd hx hb dX1_paid_209 ?_
  refine x1_pw C hP hD hS q217 dX1_paid_210 (fun H locs hP hD hS => ?_)
  obtain ⟨s1, es1⟩ : ∃ z : S1, z = (y1.1, y1.2.1, y1.2.2.1 + 1, y1.2.2.2) := ⟨_, rfl⟩
  have hP : va_P D vwCl (rb_w cI o s1) H := by rw [es1]; exact hP
  have hD : va_D A (rb_w cI o s1) := by rw [es1]; exact hD
  refine lv_iload_n hx hb dX1_paid_213 rfl (lv_at hl 1 rfl) ?_
  refine W.widen (k := 8) (n := 56) (by omega) (by omega) ?_
  exact g_iret C hrt hP hD hS dX1_paid_214 ⟨_, (show rb_R v (y1.1, y1.2.1, y1.2.2.1 + 1, y1.2.2.2) v.2.1 from hR), by subst es1; rfl⟩
