/-! rows for objects and rows of references beside the sim -/
theorem sS.swap {D : va_G} {A : Nat → Prop} {s : State} {cI cR : ClassId} {o : Nat} {z : SA} {u : S0} {B X : va_W} {H : Heap} {locs : List Loc} (h : sS D A s cI cR o z u (B ++ X) H locs) : sS D A s cI cR o z u (X ++ B) H locs := by
  obtain ⟨hP, hD, hS⟩ := h
  refine ⟨va_P.app (rp_left hP) (va_P.app (rp_right (rp_right hP)) (rp_left (rp_right hP))), ?_, hS⟩
  refine va_D.app (rd_left hD) (rd_swap (rd_right hD)) (fun i j p q hp hq e => ?_)
  have hm : ∃ k : Nat, (B ++ X)[k]? = some q := by
    rcases List.mem_append.mp (List.mem_of_getElem? hq) with hh | hh
    · exact List.getElem?_of_mem (List.mem_append_right _ hh)
    · exact List.getElem?_of_mem (List.mem_append_left _ hh)
  obtain ⟨k, hk⟩ := hm
  exact rd_sep hD i k p q hp hk e
section OROWS
variable {p : Program} {l : Launch} {e : Env} {R : Room} {s : State} {m : MethodId} {args : Array Value} {below : List Frame} {meth : Method} {c : Code} {H : Heap} {locs : List Loc} {cells slots : Nat} {Q : State → Prop}
variable {cc : ByteArray} {nL pc : Nat} {ls : Array Slot} {rest : List Value} {D : va_G} {cI cR cB : ClassId} {t : Nat → Nat} {A : Nat → Prop} {o : Nat} {z : SA} {u : S0} {X : va_W} {own : String}
theorem x_p2 (C : gC p s m args meth c cc nL own D (ty3 cI cR cB) t A) (S : sS D A s cI cR o z u X H locs) (j k : Nat) (hk : k < 5) {a idx : Nat} {fs : List Value} (hj : X[j]? = some (a, .inr (2, fs))) {v : Value} {ty : FieldType} (hs : (TX2 k).1 = RX2) (hf : (TX2 k).2.2.2 = false) (hty : parseFieldDescriptor (TX2 k).2.2.1 = some ty) (hn : narrow ty v = v) (hft : fits ty v = true) (hl : k < fs.length) (hq : Cond.fieldLink own idx RX2 (TX2 k).2.1 (TX2 k).2.2.1 ∈ wsL_law) (hdg : decode cc pc = .ok (.putfield idx, 3))
    (kk : ∀ (H1 : Heap) (locs1 : List Loc), sS D A s cI cR o z u (X.set j (a, .inr (2, fs.set k v))) H1 locs1 → W p l e R s m args below meth c H1 locs1 cells slots Q (F0 m (pc + 3) ls rest)) : W p l e R s m args below meth c H locs cells slots Q (F0 m pc ls (v :: .ref a :: rest)) := by
  refine va_put (D := D) (ci := 2) (v := v) (ty := ty) (C := RX2) (T := TX2) (N := 5) C.1 C.2.1 C.2.2.2.2.1 inlX2 tyX2 tyX2_ok nmX2 C.2.2.2.1 C.2.2.2.2.2.1 S.1 S.2.1 S.2.2 _ (rs_xp hj) rfl k hk (C.2.2.2.2.1 _ hq) (fun x h => by rw [hs] at h; exact h) hf hty hn hft hl hdg (fun H1 locs1 hP1 hD1 hS1 => ?_)
  rw [rs_xs] at hP1 hD1
  exact kk H1 locs1 ⟨hP1, hD1, hS1⟩
theorem x_p1 (C : gC p s m args meth c cc nL own D (ty3 cI cR cB) t A) (S : sS D A s cI cR o z u X H locs) (j k : Nat) (hk : k < 7) {a idx : Nat} {fs : List Value} (hj : X[j]? = some (a, .inr (1, fs))) {v : Int32} (hs : (TX1 k).1 = RX1) (hf : (TX1 k).2.2.2 = false) (hty : parseFieldDescriptor (TX1 k).2.2.1 = some .int) (hl : k < fs.length) (hq : Cond.fieldLink own idx RX1 (TX1 k).2.1 (TX1 k).2.2.1 ∈ wsL_law) (hdg : decode cc pc = .ok (.putfield idx, 3))
    (kk : ∀ (H1 : Heap) (locs1 : List Loc), sS D A s cI cR o z u (X.set j (a, .inr (1, fs.set k (.int v)))) H1 locs1 → W p l e R s m args below meth c H1 locs1 cells slots Q (F0 m (pc + 3) ls rest)) : W p l e R s m args below meth c H locs cells slots Q (F0 m pc ls (.int v :: .ref a :: rest)) := by
  refine va_put (D := D) (ci := 1) (v := .int v) (ty := .int) (C := RX1) (T := TX1) (N := 7) C.1 C.2.1 C.2.2.2.2.1 inlX1 tyX1 tyX1_ok nmX1 C.2.2.2.1 C.2.2.2.2.2.1 S.1 S.2.1 S.2.2 _ (rs_xp hj) rfl k hk (C.2.2.2.2.1 _ hq) (fun x h => by rw [hs] at h; exact h) hf hty rfl rfl hl hdg (fun H1 locs1 hP1 hD1 hS1 => ?_)
  rw [rs_xs] at hP1 hD1
  exact kk H1 locs1 ⟨hP1, hD1, hS1⟩
theorem x_g2 (C : gC p s m args meth c cc nL own D (ty3 cI cR cB) t A) (S : sS D A s cI cR o z u X H locs) (j k : Nat) (hk : k < 5) {a idx : Nat} {fs : List Value} (hj : X[j]? = some (a, .inr (2, fs))) {v : Value} (hv : fs[k]? = some v) (hs : (TX2 k).1 = RX2) (hq : Cond.fieldLink own idx RX2 (TX2 k).2.1 (TX2 k).2.2.1 ∈ wsL_law) (hdg : decode cc pc = .ok (.getfield idx, 3))
    (kk : W p l e R s m args below meth c H locs cells slots Q (F0 m (pc + 3) ls (v :: rest))) : W p l e R s m args below meth c H locs cells slots Q (F0 m pc ls (.ref a :: rest)) :=
  va_get (D := D) (ci := 2) (C := RX2) (T := TX2) (N := 5) C.1 C.2.1 C.2.2.2.2.1 inlX2 C.2.2.2.1 C.2.2.2.2.2.1 S.1 _ (rs_xp hj) rfl k hk (C.2.2.2.2.1 _ hq) (fun x h => by rw [hs] at h; exact h) hv hdg kk
theorem x_g1 (C : gC p s m args meth c cc nL own D (ty3 cI cR cB) t A) (S : sS D A s cI cR o z u X H locs) (j k : Nat) (hk : k < 7) {a idx : Nat} {fs : List Value} (hj : X[j]? = some (a, .inr (1, fs))) {v : Value} (hv : fs[k]? = some v) (hs : (TX1 k).1 = RX1) (hq : Cond.fieldLink own idx RX1 (TX1 k).2.1 (TX1 k).2.2.1 ∈ wsL_law) (hdg : decode cc pc = .ok (.getfield idx, 3))
    (kk : W p l e R s m args below meth c H locs cells slots Q (F0 m (pc + 3) ls (v :: rest))) : W p l e R s m args below meth c H locs cells slots Q (F0 m pc ls (.ref a :: rest)) :=
  va_get (D := D) (ci := 1) (C := RX1) (T := TX1) (N := 7) C.1 C.2.1 C.2.2.2.2.1 inlX1 C.2.2.2.1 C.2.2.2.2.2.1 S.1 _ (rs_xp hj) rfl k hk (C.2.2.2.2.1 _ hq) (fun x h => by rw [hs] at h; exact h) hv hdg kk
theorem x_new1 (C : gC p s m args meth c cc nL own D (ty3 cI cR cB) t A) (S : sS D A s cI cR o z u X H locs) {idx : Nat} (h1 : Cond.classLink own idx RX1 ∈ wsL_law) (h2 : Cond.instantiable RX1 7 ∈ wsL_law) (h3 : Cond.initialized RX1 ∈ wsL_law) {cells' slots' : Nat} (hc : cells + 1 = cells') (hs : slots + 7 = slots') (hRc : cells' ≤ R.cells) (hRs : slots' ≤ R.slots) (hdg : decode cc pc = .ok (.new idx, 3))
    (kk : ∀ (q : Nat) (H1 : Heap), sS D A s cI cR o z u (X ++ [(q, .inr (1, [.int 0, .int 0, .int 0, .int 0, .int 0, .int 0, .int 0]))]) H1 locs → W p l e R s m args below meth c H1 locs cells' slots' Q (F0 m (pc + 3) ls (.ref q :: rest))) : W p l e R s m args below meth c H locs cells slots Q (F0 m pc ls rest) := by
  subst hc
  subst hs
  refine va_new (ci := 1) (fs := [.int 0, .int 0, .int 0, .int 0, .int 0, .int 0, .int 0]) (C := RX1) (T := TX1) (N := 7) C.1 C.2.1 C.2.2.2.2.1 inlX1 tyX1 tyX1_ok C.2.2.2.1 (C.2.2.2.2.1 _ h1) (C.2.2.2.2.1 _ h2) (C.2.2.2.2.1 _ h3) C.2.2.2.2.2.1 S.1 S.2.1 S.2.2 C.2.2.2.2.2.2.1 rfl (fun j hj => by rcases (show j = 0 ∨ j = 1 ∨ j = 2 ∨ j = 3 ∨ j = 4 ∨ j = 5 ∨ j = 6 by omega) with rfl | rfl | rfl | rfl | rfl | rfl | rfl <;> rfl) hRc hRs hdg (fun q H1 hP1 hD1 hS1 => ?_)
  rw [List.append_assoc] at hP1 hD1
  exact kk q H1 ⟨hP1, hD1, hS1⟩
theorem x_new2 (C : gC p s m args meth c cc nL own D (ty3 cI cR cB) t A) (S : sS D A s cI cR o z u X H locs) {idx : Nat} (h1 : Cond.classLink own idx RX2 ∈ wsL_law) (h2 : Cond.instantiable RX2 5 ∈ wsL_law) (h3 : Cond.initialized RX2 ∈ wsL_law) {cells' slots' : Nat} (hc : cells + 1 = cells') (hs : slots + 5 = slots') (hRc : cells' ≤ R.cells) (hRs : slots' ≤ R.slots) (hdg : decode cc pc = .ok (.new idx, 3))
    (kk : ∀ (q : Nat) (H1 : Heap), sS D A s cI cR o z u (X ++ [(q, .inr (2, [.int 0, .null, .null, .null, .null]))]) H1 locs → W p l e R s m args below meth c H1 locs cells' slots' Q (F0 m (pc + 3) ls (.ref q :: rest))) : W p l e R s m args below meth c H locs cells slots Q (F0 m pc ls rest) := by
  subst hc
  subst hs
  refine va_new (ci := 2) (fs := [.int 0, .null, .null, .null, .null]) (C := RX2) (T := TX2) (N := 5) C.1 C.2.1 C.2.2.2.2.1 inlX2 tyX2 tyX2_ok C.2.2.2.1 (C.2.2.2.2.1 _ h1) (C.2.2.2.2.1 _ h2) (C.2.2.2.2.1 _ h3) C.2.2.2.2.2.1 S.1 S.2.1 S.2.2 C.2.2.2.2.2.2.1 rfl (fun j hj => by rcases (show j = 0 ∨ j = 1 ∨ j = 2 ∨ j = 3 ∨ j = 4 by omega) with rfl | rfl | rfl | rfl | rfl <;> rfl) hRc hRs hdg (fun q H1 hP1 hD1 hS1 => ?_)
  rw [List.append_assoc] at hP1 hD1
  exact kk q H1 ⟨hP1, hD1, hS1⟩
/-- a clone of the row at place j of all -/
theorem x_cln (C : gC p s m args meth c cc nL own D (ty3 cI cR cB) t A) (S : sS D A s cI cR o z u X H locs) (j : Nat) {a n : Nat} {f : Nat → Int32} (hj : (rs_w cI cR o z u ++ X)[j]? = some (a, .inl (cI, n, .inl f))) {idx : Nat} (hl : ls.size = nL) (h1 : Cond.methodLink own idx ⟨"[I", "clone", "()Ljava/lang/Object;"⟩ ∈ wsL_law) (h2 : Cond.sameMethod "[I" "java/lang/Object" "clone" "()Ljava/lang/Object;" ∈ wsL_law) (h3 : Cond.native ⟨"java/lang/Object", "clone", "()Ljava/lang/Object;"⟩ ∈ wsL_law) (h4 : Cond.instanceMethod ⟨"java/lang/Object", "clone", "()Ljava/lang/Object;"⟩ ∈ wsL_law) (h5 : Cond.selects "[I" ⟨"[I", "clone", "()Ljava/lang/Object;"⟩ ⟨"java/lang/Object", "clone", "()Ljava/lang/Object;"⟩ ∈ wsL_law) (h6 : va_Nw (.castable "[I" "java/lang/Cloneable") s)
    (hfr : 1 ≤ R.frames) (hlo : (rest.map fun v => v.category).sum + 14 ≤ R.locals) {cells' slots' : Nat} (hc : cells + 1 = cells') (hs : slots + n = slots') (hRc : cells' ≤ R.cells) (hRs : slots' ≤ R.slots) (hdg : decode cc pc = .ok (.invokevirtual idx, 3))
    (kk : ∀ (q : Nat) (H1 : Heap), sS D A s cI cR o z u (X ++ [(q, .inl (cI, n, .inl f))]) H1 locs → W p l e R s m args below meth c H1 locs cells' slots' Q (F0 m (pc + 3) ls (.ref q :: rest))) : W p l e R s m args below meth c H locs cells slots Q (F0 m pc ls (.ref a :: rest)) := by
  subst hc
  subst hs
  refine va_clone (D := D) C.1 C.2.1 (C.2.2.1.trans hl.symm) C.2.2.2.1 (C.2.2.2.2.1 _ h1) (C.2.2.2.2.1 _ h2) (C.2.2.2.2.1 _ h3) (C.2.2.2.2.1 _ h4) (C.2.2.2.2.1 _ h5) h6 C.2.2.2.2.2.1 S.1 S.2.1 S.2.2 C.2.2.2.2.2.2.1 j 0 hj rfl (C.2.2.2.2.2.1.2 0 (cI, .int) rfl).2 (va_fit (fun _ _ => rfl)) hfr hlo hRc hRs hdg (fun q H1 hK1 hP1 hD1 hS1 => ?_)
  rw [List.append_assoc] at hP1 hD1
  exact kk q H1 ⟨hP1, hD1, hS1⟩
theorem x_cst (C : gC p s m args meth c cc nL own D (ty3 cI cR cB) t A) (S : sS D A s cI cR o z u X H locs) (j : Nat) {a idx : Nat} {x : vp_A} (hj : X[j]? = some (a, .inl (cI, x))) (hq : Cond.classLink own idx "[I" ∈ wsL_law) (hdg : decode cc pc = .ok (.checkcast idx, 3))
    (kk : W p l e R s m args below meth c H locs cells slots Q (F0 m (pc + 3) ls (.ref a :: rest))) : W p l e R s m args below meth c H locs cells slots Q (F0 m pc ls (.ref a :: rest)) :=
  va_castA (D := D) C.1 C.2.1 C.2.2.2.1 (C.2.2.2.2.1 _ hq) S.1 _ (rs_xp hj) (C.2.2.2.2.2.1.2 0 (cI, .int) rfl).2 hdg kk
theorem x_anw (C : gC p s m args meth c cc nL own D (ty3 cI cR cB) t A) (S : sS D A s cI cR o z u X H locs) {idx N : Nat} {n0 : Int32} (h0 : n0 = nI N) (hN : N < 1000) (hq : Cond.classLink own idx RX1 ∈ wsL_law) (hAO : va_AO RX1 s) {cells' slots' : Nat} (hc : cells + 1 = cells') (hs : slots + N = slots') (hRc : cells' ≤ R.cells) (hRs : slots' ≤ R.slots) (hdg : decode cc pc = .ok (.anewarray idx, 3))
    (kk : ∀ (q : Nat) (H1 : Heap), sS D A s cI cR o z u (X ++ [(q, .inl (cR, N, .inr (.inr (.inr (.inr (fun _ => none))))))]) H1 locs → W p l e R s m args below meth c H1 locs cells' slots' Q (F0 m (pc + 3) ls (.ref q :: rest))) : W p l e R s m args below meth c H locs cells slots Q (F0 m pc ls (.int n0 :: rest)) := by
  subst h0
  subst hc
  subst hs
  refine va_newq (D := D) C.1 C.2.1 C.2.2.2.1 (C.2.2.2.2.1 _ hq) hAO C.2.2.2.2.2.1 S.1 S.2.1 S.2.2 C.2.2.2.2.2.2.1 (nI_pos (by omega)) (nI_clamp (by omega)) (by omega) hRc hRs hdg (fun q cA H1 hK1 hP1 hD1 hS1 => ?_)
  obtain ⟨kA, comp, k1, k2, k3, k4⟩ := (C.2.2.2.2.2.1.2 1 (cR, .object RX1) rfl).2
  obtain ⟨kB, comp', k1', k2', k3', k4'⟩ := (hK1.2 3 (cA, .object RX1) rfl).2
  have e3 : cR = cA := Option.some.inj (k4.symm.trans k4')
  subst e3
  rw [List.append_assoc] at hP1 hD1
  exact kk q H1 ⟨hP1, hD1, hS1⟩
theorem x_ast (C : gC p s m args meth c cc nL own D (ty3 cI cR cB) t A) (S : sS D A s cI cR o z u X H locs) (j qk : Nat) {a n i v : Nat} {f : Nat → Option Nat} {vs : List Value} {i0 : Int32} (hj : X[j]? = some (a, .inl (cR, n, .inr (.inr (.inr (.inr f)))))) (hv : (rs_w cI cR o z u ++ X)[qk]? = some (v, .inr (1, vs))) (hn : n < 1000) (hi : i < n) (h0 : i0 = nI i) (hdg : decode cc pc = .ok (.aastore, 1))
    (kk : ∀ (H1 : Heap) (locs1 : List Loc), sS D A s cI cR o z u (X.set j (a, .inl (cR, n, .inr (.inr (.inr (.inr (va_up f i (some v)))))))) H1 locs1 → W p l e R s m args below meth c H1 locs1 cells slots Q (F0 m (pc + 1) ls rest)) : W p l e R s m args below meth c H locs cells slots Q (F0 m pc ls (.ref v :: .int i0 :: .ref a :: rest)) := by
  subst h0
  refine va_astq (D := D) (r := (RX1, TX1, 7)) C.1 C.2.1 C.2.2.2.2.2.1 S.1 S.2.1 S.2.2 _ 1 qk 1 (rs_xp hj) rfl hv rfl (vp_in_nI hi (by omega)) hdg (fun H1 locs1 hP1 hD1 hS1 => ?_)
  rw [nI_clamp (by omega), rs_xs] at hP1 hD1
  exact kk H1 locs1 ⟨hP1, hD1, hS1⟩
theorem x_ald (C : gC p s m args meth c cc nL own D (ty3 cI cR cB) t A) (S : sS D A s cI cR o z u X H locs) (j : Nat) {a n i : Nat} {f : Nat → Option Nat} {i0 : Int32} (hj : X[j]? = some (a, .inl (cR, n, .inr (.inr (.inr (.inr f)))))) (hn : n < 1000) (hi : i < n) (h0 : i0 = nI i) (hdg : decode cc pc = .ok (.aaload, 1))
    (kk : W p l e R s m args below meth c H locs cells slots Q (F0 m (pc + 1) ls (va_rf (f i) :: rest))) : W p l e R s m args below meth c H locs cells slots Q (F0 m pc ls (.int i0 :: .ref a :: rest)) := by
  subst h0
  exact va_aldq (D := D) (n := n) (f := f) C.1 C.2.1 C.2.2.2.2.2.1 S.1 _ 1 (rs_xp hj) rfl (vp_in_nI hi (by omega)) hdg (by rw [nI_clamp (by omega)]; exact kk)
end OROWS
/-- a row of references by another name of its contents -/
theorem va_P.ren {D : va_G} {cl : List vw_C} {a b : va_W} {q n : Nat} {cA : ClassId} {f g : Nat → Option Nat} {H : Heap} (h : va_P D cl (a ++ ((q, .inl (cA, n, .inr (.inr (.inr (.inr f))))) :: b)) H) (e : ∀ k : Nat, k < n → f k = g k) : va_P D cl (a ++ ((q, .inl (cA, n, .inr (.inr (.inr (.inr g))))) :: b)) H := by
  refine va_P.app (rp_left h) (fun k x hk => ?_)
  have h2 := rp_right h
  cases k with
  | zero =>
    have h0 := h2 0 _ rfl
    have hk : some _ = some x := hk
    cases hk
    show H[q]? = some (vp_cell _ _)
    rw [vp_cell_q, ← rp_arr (f := fun j => va_rf (f j)) (fun j hj => congrArg va_rf (e j hj)), ← vp_cell_q]
    exact h0
  | succ k => exact h2 (k + 1) x hk
