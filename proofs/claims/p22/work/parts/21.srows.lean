/-! rows for what lies beside the sim -/
theorem rp_left {D : va_G} {cl : List vw_C} {a b : va_W} {H : Heap} (h : va_P D cl (a ++ b) H) : va_P D cl a H := fun k q hk => h k q (by rw [List.getElem?_append_left (List.getElem?_eq_some_iff.mp hk).1]; exact hk)
theorem rp_right {D : va_G} {cl : List vw_C} {a b : va_W} {H : Heap} (h : va_P D cl (a ++ b) H) : va_P D cl b H := fun k q hk => h (a.length + k) q (by rw [List.getElem?_append_right (Nat.le_add_right _ _), Nat.add_sub_cancel_left]; exact hk)
theorem rs_xp {cI cR : ClassId} {o : Nat} {z : SA} {u : S0} {X : va_W} {j : Nat} {q : Nat × va_E} (h : X[j]? = some q) : (rs_w cI cR o z u ++ X)[(rs_w cI cR o z u).length + j]? = some q := by
  rw [List.getElem?_append_right (Nat.le_add_right _ _), Nat.add_sub_cancel_left]
  exact h
theorem rs_xs {cI cR : ClassId} {o : Nat} {z : SA} {u : S0} {X : va_W} {j : Nat} {q : Nat × va_E} : (rs_w cI cR o z u ++ X).set ((rs_w cI cR o z u).length + j) q = rs_w cI cR o z u ++ X.set j q := by
  rw [List.set_append_right _ _ (Nat.le_add_right _ _), Nat.add_sub_cancel_left]
theorem sS.drop {D : va_G} {A : Nat → Prop} {s : State} {cI cR : ClassId} {o : Nat} {z : SA} {u : S0} {X Y : va_W} {H : Heap} {locs : List Loc} (h : sS D A s cI cR o z u (X ++ Y) H locs) : sS D A s cI cR o z u X H locs := by
  unfold sS at h
  rw [← List.append_assoc] at h
  exact ⟨rp_left h.1, rd_left h.2.1, h.2.2⟩
/-- an array's cell by another name of its contents -/
theorem rp_arr {cA : ClassId} {n : Nat} {f g : Nat → Value} (h : ∀ j, j < n → f j = g j) : arrV cA n f = arrV cA n g := by
  unfold arrV
  refine congrArg (fun x => ({ cls := cA, slots := x, vm := .none } : Cell)) ?_
  exact congrArg Array.ofFn (funext fun j => h j.val j.isLt)
/-- what was handed: an outer row of n rows of three -/
def hw_e (cI : ClassId) (r : Nat → Nat) (g : Nat → Nat → Int32) (k : Nat) : Nat × va_E := (r k, .inl (cI, 3, .inl (g k)))
def hw_w (cI cB : ClassId) (h n : Nat) (r : Nat → Nat) (g : Nat → Nat → Int32) : va_W := (h, .inl (cB, n, .inr (.inr (.inr (.inr (fun k => some (r k))))))) :: fam n (hw_e cI r g)
theorem hw_p {cI cB : ClassId} {h n : Nat} {r : Nat → Nat} {g : Nat → Nat → Int32} {k : Nat} {Y : va_W} (hk : k < n) : (hw_w cI cB h n r g ++ Y)[1 + k]? = some (hw_e cI r g k) := by
  show (((h, _) :: fam n (hw_e cI r g)) ++ Y)[1 + k]? = _
  rw [List.cons_append, show 1 + k = k + 1 by omega, List.getElem?_cons_succ, List.getElem?_append_left (by rw [fam_len]; exact hk)]
  exact fam_get hk
theorem hw_s {cI cB : ClassId} {h n : Nat} {r : Nat → Nat} {g : Nat → Nat → Int32} {k i : Nat} {x : Int32} {Y : va_W} (hk : k < n) : (hw_w cI cB h n r g ++ Y).set (1 + k) (r k, .inl (cI, 3, .inl (upd (g k) i x))) = hw_w cI cB h n r (va_up g k (upd (g k) i x)) ++ Y := by
  show (((h, _) :: fam n (hw_e cI r g)) ++ Y).set (1 + k) _ = _
  rw [List.cons_append, show 1 + k = k + 1 by omega, List.set_cons_succ, List.set_append_left _ _ (by rw [fam_len]; exact hk), fam_set]
  show _ = ((h, _) :: fam n (hw_e cI r (va_up g k (upd (g k) i x)))) ++ Y
  rw [List.cons_append]
  refine congrArg (fun w => _ :: (w ++ Y)) (fam_congr fun j _ => ?_)
  by_cases e : j = k
  · subst e
    simp [hw_e, va_up]
  · simp [hw_e, va_up, e]
section XROWS
variable {p : Program} {l : Launch} {e : Env} {R : Room} {s : State} {m : MethodId} {args : Array Value} {below : List Frame} {meth : Method} {c : Code} {H : Heap} {locs : List Loc} {cells slots : Nat} {Q : State → Prop}
variable {cc : ByteArray} {nL pc : Nat} {ls : Array Slot} {rest : List Value} {D : va_G} {cI cR cB : ClassId} {t : Nat → Nat} {A : Nat → Prop} {o : Nat} {z : SA} {u : S0} {X : va_W} {own : String}
theorem x_ld (C : gC p s m args meth c cc nL own D (ty3 cI cR cB) t A) (S : sS D A s cI cR o z u X H locs) (j : Nat) {a n i : Nat} {f : Nat → Int32} {i0 : Int32} (hj : X[j]? = some (a, .inl (cI, n, .inl f))) (hn : n < 1000) (hi : i < n) (h0 : i0 = nI i) (hdg : decode cc pc = .ok (.iaload, 1))
    (kk : W p l e R s m args below meth c H locs cells slots Q (F0 m (pc + 1) ls (.int (f i) :: rest))) : W p l e R s m args below meth c H locs cells slots Q (F0 m pc ls (.int i0 :: .ref a :: rest)) := by
  subst h0
  exact va_iald (D := D) (n := n) (f := f) C.1 C.2.1 C.2.2.2.2.2.1 S.1 _ 0 (rs_xp hj) rfl (vp_in_nI hi (by omega)) hdg (by rw [nI_clamp (by omega)]; exact kk)
theorem x_st (C : gC p s m args meth c cc nL own D (ty3 cI cR cB) t A) (S : sS D A s cI cR o z u X H locs) (j : Nat) {a n i : Nat} {f : Nat → Int32} {i0 x : Int32} (hj : X[j]? = some (a, .inl (cI, n, .inl f))) (hn : n < 1000) (hi : i < n) (h0 : i0 = nI i) (hdg : decode cc pc = .ok (.iastore, 1))
    (kk : ∀ (H1 : Heap) (locs1 : List Loc), sS D A s cI cR o z u (X.set j (a, .inl (cI, n, .inl (upd f i x)))) H1 locs1 → W p l e R s m args below meth c H1 locs1 cells slots Q (F0 m (pc + 1) ls rest)) : W p l e R s m args below meth c H locs cells slots Q (F0 m pc ls (.int x :: .int i0 :: .ref a :: rest)) := by
  subst h0
  refine va_iast (D := D) (n := n) (f := f) C.1 C.2.1 C.2.2.2.2.2.1 S.1 S.2.1 S.2.2 _ 0 (rs_xp hj) rfl (vp_in_nI hi (by omega)) hdg (fun H1 locs1 hP1 hD1 hS1 => ?_)
  rw [nI_clamp (by omega), rs_xs] at hP1 hD1
  exact kk H1 locs1 ⟨hP1, hD1, hS1⟩
theorem x_al (C : gC p s m args meth c cc nL own D (ty3 cI cR cB) t A) (S : sS D A s cI cR o z u X H locs) (j : Nat) {a n i : Nat} {f : Nat → Option Nat} {i0 : Int32} (hj : X[j]? = some (a, .inl (cB, n, .inr (.inr (.inr (.inr f)))))) (hn : n < 1000) (hi : i < n) (h0 : i0 = nI i) (hdg : decode cc pc = .ok (.aaload, 1))
    (kk : W p l e R s m args below meth c H locs cells slots Q (F0 m (pc + 1) ls (va_rf (f i) :: rest))) : W p l e R s m args below meth c H locs cells slots Q (F0 m pc ls (.int i0 :: .ref a :: rest)) := by
  subst h0
  have hin : vp_in (nI i) n := vp_in_nI hi (by omega)
  exact W.aald (v := va_rf (f i)) (ty := .array .int) C.1 C.2.1 (S.1 _ _ (rs_xp hj)) ((C.2.2.2.2.2.1.2 2 (cB, .array .int) rfl).1 n (fun j => va_rf (f j))) rfl (fun q => by cases q) (by show ¬ (nI i < 0 ∨ (arrV _ _ _).slots.size ≤ _); rw [arrV_size]; exact hin) (by show (arrV _ _ _).slots[_]? = _; rw [nI_clamp (by omega), arrV_read _ _ hi]) rfl rfl hdg kk
theorem x_new (C : gC p s m args meth c cc nL own D (ty3 cI cR cB) t A) (S : sS D A s cI cR o z u X H locs) {n0 : Int32} {N : Nat} (h0 : n0 = nI N) (hN : N < 1000) (hq : Cond.arrayClass .int ∈ wsL_law) {cells' slots' : Nat} (hc : cells + 1 = cells') (hs : slots + N = slots') (hRc : cells' ≤ R.cells) (hRs : slots' ≤ R.slots) (hdg : decode cc pc = .ok (.newarray .int, 2))
    (kk : ∀ (q : Nat) (H1 : Heap), sS D A s cI cR o z u (X ++ [(q, .inl (cI, N, .inl (fun _ => 0)))]) H1 locs → W p l e R s m args below meth c H1 locs cells' slots' Q (F0 m (pc + 2) ls (.ref q :: rest))) : W p l e R s m args below meth c H locs cells slots Q (F0 m pc ls (.int n0 :: rest)) := by
  subst h0
  subst hc
  subst hs
  refine va_newa (D := D) (atype := .int) (ty := .int) (a0 := (N, .inl (fun _ => 0))) C.1 C.2.1 (C.2.2.2.2.1 _ hq) rfl C.2.2.2.2.2.1 S.1 S.2.1 S.2.2 C.2.2.2.2.2.2.1 (fun _ => rfl) (nI_pos (by omega)) (nI_clamp (by omega)) (by show N * 4 ≤ _; omega) hRc hRs hdg (fun q cA H1 hK1 hP1 hD1 hS1 => ?_)
  have e1 := (hK1.2 0 (cI, .int) rfl).2
  have e2 := (hK1.2 3 (cA, .int) rfl).2
  have e3 : cI = cA := Option.some.inj (e1.symm.trans e2)
  subst e3
  rw [List.append_assoc] at hP1 hD1
  exact kk q H1 ⟨hP1, hD1, hS1⟩
theorem x_mna (C : gC p s m args meth c cc nL own D (ty3 cI cR cB) t A) (S : sS D A s cI cR o z u X H locs) {idx N : Nat} {n0 : Int32} (h0 : n0 = nI N) (hN : N < 1000) (hq : Cond.classLink own idx "[[I" ∈ wsL_law) (hAA : gAA s) {cells' slots' : Nat} (hc : cells + (1 + N) = cells') (hs : slots + (N + N * 3) = slots') (hRc : cells' ≤ R.cells) (hRs : slots' ≤ R.slots) (hdg : decode cc pc = .ok (.multianewarray idx 2, 4))
    (kk : ∀ (h : Nat) (r : Nat → Nat) (H1 : Heap) (locs1 : List Loc), sS D A s cI cR o z u (X ++ hw_w cI cB h N r (fun _ _ => 0)) H1 locs1 → W p l e R s m args below meth c H1 locs1 cells' slots' Q (F0 m (pc + 4) ls (.ref h :: rest))) : W p l e R s m args below meth c H locs cells slots Q (F0 m pc ls (.int 3 :: .int n0 :: rest)) := by
  subst h0
  subst hc
  subst hs
  obtain ⟨cA, comp, kA, a1, a2, a3, a4⟩ := hAA
  have n0 := (C.2.2.2.2.2.1.2 0 (cI, .int) rfl).2
  have eI : cI = comp := Option.some.inj (n0.symm.trans a4)
  subst eI
  have nB := (C.2.2.2.2.2.1.2 2 (cB, .array .int) rfl).2
  have eB : cB = cA := Option.some.inj (nB.symm.trans a1)
  subst eB
  obtain ⟨-, kc, hkc, c0, hkindc⟩ := (C.2.2.2.2.2.1.2 0 (cI, .int) rfl).1 0 (fun _ => .null)
  obtain ⟨hP, hD, hS⟩ := S
  refine W_mna (N := N) (M := 3) C.1 C.2.1 C.2.2.2.1 (C.2.2.2.2.1 _ hq) a1 a2 a3 hkc hkindc (nI_pos (by omega)) (by decide) (nI_clamp (by omega)) (by decide) (by omega) (by decide) (by omega) (by omega) hdg (fun H1 L hL z1 e1 r1 k1 => ?_)
  have eS : slots + N + N * 3 = slots + (N + N * 3) := by omega
  have eC : cells + 1 + N = cells + (1 + N) := by omega
  rw [eS, eC]
  have hA : ∀ q, H.size ≤ q → A q := fun q h => C.2.2.2.2.2.2.1 q (Nat.le_trans hS.1 h)
  have hlt : ∀ (k : Nat) (x : Nat × va_E), (rs_w cI cR o z u ++ X)[k]? = some x → x.1 < H.size := fun k x hx => (hP k x hx).lt
  have hk : ∀ (k : Nat) (x : Nat × va_E), (rs_w cI cR o z u ++ X)[k]? = some x → H1[x.1]? = H[x.1]? := fun k x hx => k1 x.1 (hlt k x hx)
  have hnew : ∀ (k : Nat) (x : Nat × va_E), (hw_w cI cB H.size N (fun j => H.size + 1 + j) (fun _ _ => 0))[k]? = some x → x.1 = H.size + k ∧ va_at D vwCl x H1 := by
    intro k x hx
    cases k with
    | zero =>
      have hx : some (H.size, _) = some x := hx
      cases hx
      refine ⟨rfl, ?_⟩
      show H1[H.size]? = some (vp_cell _ _)
      rw [vp_cell_q, e1]
      exact congrArg some (rp_arr fun j hj => by rw [if_pos hj]; rfl)
    | succ k =>
      have hx : (fam N (hw_e cI (fun j => H.size + 1 + j) (fun _ _ => 0)))[k]? = some x := hx
      have hkN : k < N := by
        rcases Nat.lt_or_ge k N with h | h
        · exact h
        · rw [fam_none h] at hx
          cases hx
      rw [fam_get hkN] at hx
      cases hx
      exact ⟨by show H.size + 1 + k = _; omega, r1 k hkN⟩
  refine kk H.size (fun j => H.size + 1 + j) H1 L ⟨?_, ?_, ?_⟩
  · rw [← List.append_assoc]
    exact va_P.app (hP.kept hk) (fun k x hx => (hnew k x hx).2)
  · rw [← List.append_assoc]
    refine va_D.app hD ⟨fun i j x y hx hy hxy => ?_, fun k x hx => ?_⟩ (fun i j x y hx hy hxy => ?_)
    · have h1 := (hnew i x hx).1
      have h2 := (hnew j y hy).1
      omega
    · rw [(hnew k x hx).1]
      exact hA _ (by omega)
    · have h1 := hlt i x hx
      have h2 := (hnew j y hy).1
      omega
  · refine ⟨by rw [z1]; have := hS.1; omega, fun q h1 h2 => (k1 q (Nat.lt_of_lt_of_le h1 hS.1)).trans (hS.2.1 q h1 h2), fun x hx => ?_⟩
    rcases hL x hx with h | h
    · exact hS.2.2 x h
    · rw [h]
      exact hA _ (Nat.le_refl _)
end XROWS
/-! the script: its cells, its length -/
section SCROWS
variable {p : Program} {l : Launch} {e : Env} {R : Room} {s : State} {m : MethodId} {args : Array Value} {below : List Frame} {meth : Method} {c : Code} {H : Heap} {locs : List Loc} {cells slots : Nat} {Q : State → Prop}
variable {cc : ByteArray} {nL pc : Nat} {ls : Array Slot} {own : String} {D : va_G} {ty : List (ClassId × FieldType)} {t : Nat → Nat} {A : Nat → Prop} {rest : List Value}
theorem g_sx (C : gC p s m args meth c cc nL own D ty t A) (hS : va_S A s.heap H locs) (hT : va_T .int (t 9) (t 10) (fun j => .int (gxs t j)) A s s.heap) (hL : t 10 ≤ 260) {i : Nat} {i0 : Int32} (hi : i < t 10) (h0 : i0 = nI i) (hdg : decode cc pc = .ok (.iaload, 1))
    (kk : W p l e R s m args below meth c H locs cells slots Q (F0 m (pc + 1) ls (.int (gxs t i) :: rest))) : W p l e R s m args below meth c H locs cells slots Q (F0 m pc ls (.int i0 :: .ref (t 9) :: rest)) := by
  subst h0
  exact va_ti C.1 C.2.1 hT hS (vp_in_nI hi (by omega)) (v := .int (gxs t i)) (by rw [nI_clamp (by omega)]) hdg kk
theorem g_sl (C : gC p s m args meth c cc nL own D ty t A) (hS : va_S A s.heap H locs) (hT : va_T .int (t 9) (t 10) (fun j => .int (gxs t j)) A s s.heap) (hdg : decode cc pc = .ok (.arraylength, 1))
    (kk : W p l e R s m args below meth c H locs cells slots Q (F0 m (pc + 1) ls (.int (nI (t 10)) :: rest))) : W p l e R s m args below meth c H locs cells slots Q (F0 m pc ls (.ref (t 9) :: rest)) :=
  va_tlen C.1 C.2.1 hT hS rfl hdg kk
end SCROWS
/-! calls: the callee's world b stands between a and c -/
theorem rd_rot {A : Nat → Prop} {a b c : va_W} (h : va_D A (a ++ (b ++ c))) : va_D A (b ++ (c ++ a)) := by
  have h := rd_swap h
  rwa [List.append_assoc] at h
theorem md_in {A : Nat → Prop} {a b c : va_W} (h : va_D A (a ++ (b ++ c))) : va_D A ((c ++ a) ++ b) := rd_swap (rd_rot h)
theorem md_out {A : Nat → Prop} {a b c : va_W} (h : va_D A ((c ++ a) ++ b)) : va_D A (a ++ (b ++ c)) := by
  have h := rd_swap h
  exact rd_rot (rd_rot h)
theorem md_P {D : va_G} {cl : List vw_C} {a b c : va_W} {H : Heap} (hr : va_P D cl (c ++ a) H) (hb : va_P D cl b H) : va_P D cl (a ++ (b ++ c)) H := va_P.app (rp_right hr) (va_P.app hb (rp_left hr))
section MCALL
variable {p : Program} {l : Launch} {e : Env} {R : Room} {s : State} {m : MethodId} {args : Array Value} {below : List Frame} {meth : Method} {c : Code} {H : Heap} {locs : List Loc} {cells slots : Nat} {Q : State → Prop}
variable {cc : ByteArray} {nL pc : Nat} {ls : Array Slot} {own : String} {D : va_G} {ty ty2 : List (ClassId × FieldType)} {t : Nat → Nat} {A : Nat → Prop} {wr wc : va_W}
variable {y : MethodName} {bytes : ByteArray} {maxL n idx : Nat} {ret : Option FieldType} {rm : Room} {b : Nat} {As rest st0 : List Value} {Qa : Array Value → State → Outcome → State → Prop}
theorem g_runVj (C : gC p s m args meth c cc nL own D ty t A) (hM : Met l y (rw_ y bytes maxL ret) rm (va_Pc (.ref b :: As) (gP D ty2 t wc H.size)) Qa rm.cells rm.slots (va_A wc H.size)) (hG : GoodIn wsL_law (wsV own idx y.cls y (rw_ y bytes maxL ret)))
    (hd : y.cls = y.cls ∧ y.cls ≠ "java/lang/invoke/MethodHandle" ∧ y.cls ≠ "java/lang/invoke/VarHandle" ∧ (parseMethodDescriptor y.desc).map (fun d => d.parameters.length) = some n) (hR : rm.frames + 1 ≤ R.frames ∧ 8 + (maxL + 11) + rm.locals ≤ R.locals) {ci : Nat} {q : vw_C} {fs : List Value} (hci : vwCl[ci]? = some q) (hq : q.1 = y.cls) (j0 : Nat) (hrc : wc[j0]? = some (b, .inr (ci, fs)))
    (hK2 : va_K D vwCl ty2 s) (hPc : va_P D vwCl wc H) (hD : va_D A (wr ++ wc)) (hS : va_S A s.heap H locs) (hl : ls.size = nL) (hn : As.length = n) (hst : st0 = As.reverse ++ .ref b :: rest) (hrest : (rest.map fun v => v.category).sum ≤ 8) (hdg : decode cc pc = .ok (.invokevirtual idx, 3)) (hf : cells + rm.cells ≤ R.cells ∧ slots + rm.slots ≤ R.slots) :
    va_Run p l e R s m args below meth c H locs cells slots rm.cells rm.slots (F0 m pc ls st0) rest (Qa (Value.ref b :: As).toArray) (va_A wc H.size) :=
  va_runV ⟨C.1, C.2.1, C.2.2.1, C.2.2.2.1, C.2.2.2.2.1⟩ hM (cwV n C.2.2.2.2.1 hG rfl rfl rfl hd hR) ⟨gP_blind, by rw [← hq]; exact va_recv hK2 hPc hci hrc, g_pre C hK2 hPc hD hS⟩ rfl hn hl hst (lv_room hrest) hdg hf
theorem g_runI (C : gC p s m args meth c cc nL own D ty t A) (hM : Met l y (rw_ y bytes maxL none) rm (va_Pc (.ref b :: As) (gP D ty2 t wc H.size)) Qa rm.cells rm.slots (va_A wc H.size)) (h5 : Cond.code y bytes maxL none ∈ wsL_law) (h4 : Cond.initialized y.cls ∈ wsL_law) (h1 : Cond.methodLink own idx y ∈ wsL_law) (h2 : Cond.instanceMethod y ∈ wsL_law) (hy : y.name = "<init>")
    (hd : y.cls = y.cls ∧ y.cls ≠ "java/lang/invoke/MethodHandle" ∧ y.cls ≠ "java/lang/invoke/VarHandle" ∧ (parseMethodDescriptor y.desc).map (fun d => d.parameters.length) = some n) (hR : rm.frames + 1 ≤ R.frames ∧ 8 + (maxL + 11) + rm.locals ≤ R.locals)
    (hK2 : va_K D vwCl ty2 s) (hPc : va_P D vwCl wc H) (hD : va_D A (wr ++ wc)) (hS : va_S A s.heap H locs) (hl : ls.size = nL) (hn : As.length = n) (hst : st0 = As.reverse ++ .ref b :: rest) (hrest : (rest.map fun v => v.category).sum ≤ 8) (hdg : decode cc pc = .ok (.invokespecial idx, 3)) (hf : cells + rm.cells ≤ R.cells ∧ slots + rm.slots ≤ R.slots) :
    va_Run p l e R s m args below meth c H locs cells slots rm.cells rm.slots (F0 m pc ls st0) rest (Qa (Value.ref b :: As).toArray) (va_A wc H.size) :=
  va_runI ⟨C.1, C.2.1, C.2.2.1, C.2.2.2.1, C.2.2.2.2.1⟩ hM (cwI n C.2.2.2.2.1 (rw_in (rw_c h5)) rfl rfl rfl (C.2.2.2.2.1 _ h4) (C.2.2.2.2.1 _ h1) (C.2.2.2.2.1 _ h2) hy hd.2 hR) ⟨gP_blind, g_pre C hK2 hPc hD hS⟩ rfl hn hl hst (lv_room hrest) hdg hf
/-- a constructor of a nest mate -/
theorem g_runIN {host : String} (C : gC p s m args meth c cc nL own D ty t A) (hM : Met l y (rw_ y bytes maxL none) rm (va_Pc (.ref b :: As) (gP D ty2 t wc H.size)) Qa rm.cells rm.slots (va_A wc H.size)) (h5 : Cond.code y bytes maxL none ∈ wsL_law) (h4 : Cond.initialized y.cls ∈ wsL_law) (h1 : va_Nw (.methodLinkNest own idx y host) s) (h2 : Cond.instanceMethod y ∈ wsL_law) (hy : y.name = "<init>")
    (hd : y.cls = y.cls ∧ y.cls ≠ "java/lang/invoke/MethodHandle" ∧ y.cls ≠ "java/lang/invoke/VarHandle" ∧ (parseMethodDescriptor y.desc).map (fun d => d.parameters.length) = some n) (hR : rm.frames + 1 ≤ R.frames ∧ 8 + (maxL + 11) + rm.locals ≤ R.locals)
    (hK2 : va_K D vwCl ty2 s) (hPc : va_P D vwCl wc H) (hD : va_D A (wr ++ wc)) (hS : va_S A s.heap H locs) (hl : ls.size = nL) (hn : As.length = n) (hst : st0 = As.reverse ++ .ref b :: rest) (hrest : (rest.map fun v => v.category).sum ≤ 8) (hdg : decode cc pc = .ok (.invokespecial idx, 3)) (hf : cells + rm.cells ≤ R.cells ∧ slots + rm.slots ≤ R.slots) :
    va_Run p l e R s m args below meth c H locs cells slots rm.cells rm.slots (F0 m pc ls st0) rest (Qa (Value.ref b :: As).toArray) (va_A wc H.size) :=
  va_runIN ⟨C.1, C.2.1, C.2.2.1, C.2.2.2.1, C.2.2.2.2.1⟩ hM ⟨va_cnB n C.2.2.2.2.1 (rw_in (rw_c h5)) rfl rfl rfl h1 (C.2.2.2.2.1 _ h4) hd.2 hR, hy, C.2.2.2.2.1 _ h2⟩ ⟨gP_blind, g_pre C hK2 hPc hD hS⟩ rfl hn hl hst (lv_room hrest) hdg hf
variable {mc ms : Nat} {av : Array Value} {wa wb wd : va_W}
theorem m_ci {post : Int32 → va_W → Prop} {cells' slots' : Nat} (hc : cells + mc = cells') (hs : slots + ms = slots') (C : gC p s m args meth c cc nL own D ty t A) (hP : va_P D vwCl (wa ++ (wb ++ wd)) H) (hD : va_D A (wa ++ (wb ++ wd))) (hS : va_S A s.heap H locs)
    (hr : va_P D vwCl wb H → va_D A ((wd ++ wa) ++ wb) → va_Run p l e R s m args below meth c H locs cells slots mc ms (F0 m pc ls st0) rest (va_Qi post (fun w' U => gQ D (va_A wb H.size) w' U) (va_A wb H.size) av) (va_A wb H.size))
    (kk : ∀ (r : Int32) (w' : va_W) (H1 : Heap) (locs1 : List Loc), post r w' → H.size ≤ H1.size → va_P D vwCl (wa ++ (w' ++ wd)) H1 → va_D A (wa ++ (w' ++ wd)) → va_S A s.heap H1 locs1 → W p l e R s m args below meth c H1 locs1 cells' slots' Q (F0 m (pc + 3) ls (.int r :: rest))) : W p l e R s m args below meth c H locs cells slots Q (F0 m pc ls st0) :=
  g_ci (wr := wd ++ wa) hc hs C (va_P.app (rp_right (rp_right hP)) (rp_left hP)) (md_in hD) hS (hr (rp_left (rp_right hP)) (md_in hD)) (fun r w' H1 locs1 hv hz h1 h2 h3 h4 => kk r w' H1 locs1 hv hz (md_P h1 h2) (md_out h3) h4)
theorem m_cv {post : va_W → Prop} {cells' slots' : Nat} (hc : cells + mc = cells') (hs : slots + ms = slots') (C : gC p s m args meth c cc nL own D ty t A) (hP : va_P D vwCl (wa ++ (wb ++ wd)) H) (hD : va_D A (wa ++ (wb ++ wd))) (hS : va_S A s.heap H locs)
    (hr : va_P D vwCl wb H → va_D A ((wd ++ wa) ++ wb) → va_Run p l e R s m args below meth c H locs cells slots mc ms (F0 m pc ls st0) rest (va_Qv post (fun w' U => gQ D (va_A wb H.size) w' U) (va_A wb H.size) av) (va_A wb H.size))
    (kk : ∀ (w' : va_W) (H1 : Heap) (locs1 : List Loc), post w' → H.size ≤ H1.size → va_P D vwCl (wa ++ (w' ++ wd)) H1 → va_D A (wa ++ (w' ++ wd)) → va_S A s.heap H1 locs1 → W p l e R s m args below meth c H1 locs1 cells' slots' Q (F0 m (pc + 3) ls rest)) : W p l e R s m args below meth c H locs cells slots Q (F0 m pc ls st0) :=
  g_cv (wr := wd ++ wa) hc hs C (va_P.app (rp_right (rp_right hP)) (rp_left hP)) (md_in hD) hS (hr (rp_left (rp_right hP)) (md_in hD)) (fun w' H1 locs1 hv hz h1 h2 h3 h4 => kk w' H1 locs1 hv hz (md_P h1 h2) (md_out h3) h4)
theorem m_cr {post : Nat × va_W → Prop} {cells' slots' : Nat} (hc : cells + mc = cells') (hs : slots + ms = slots') (C : gC p s m args meth c cc nL own D ty t A) (hP : va_P D vwCl (wa ++ (wb ++ wd)) H) (hD : va_D A (wa ++ (wb ++ wd))) (hS : va_S A s.heap H locs)
    (hr : va_P D vwCl wb H → va_D A ((wd ++ wa) ++ wb) → va_Run p l e R s m args below meth c H locs cells slots mc ms (F0 m pc ls st0) rest (va_Qr (S := Nat × va_W) post (fun u a U => u.1 = a ∧ gQ D (va_A wb H.size) u.2 U) (va_A wb H.size) av) (va_A wb H.size))
    (kk : ∀ (r : Nat) (w' : va_W) (H1 : Heap) (locs1 : List Loc), post (r, w') → H.size ≤ H1.size → va_P D vwCl (wa ++ (w' ++ wd)) H1 → va_D A (wa ++ (w' ++ wd)) → va_S A s.heap H1 locs1 → W p l e R s m args below meth c H1 locs1 cells' slots' Q (F0 m (pc + 3) ls (.ref r :: rest))) : W p l e R s m args below meth c H locs cells slots Q (F0 m pc ls st0) :=
  g_cr (wr := wd ++ wa) hc hs C (va_P.app (rp_right (rp_right hP)) (rp_left hP)) (md_in hD) hS (hr (rp_left (rp_right hP)) (md_in hD)) (fun r w' H1 locs1 hv hz h1 h2 h3 h4 => kk r w' H1 locs1 hv hz (md_P h1 h2) (md_out h3) h4)
end MCALL
