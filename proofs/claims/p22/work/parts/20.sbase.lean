/-! THE SIM'S WORLD: its object, rates, chest, the row of its reapers, the reapers. Its numbers are those of a state of the class (rows 0 to 6 of the reapers, 7 rates, 8 chest). -/
def fam (n : Nat) (f : Nat → Nat × va_E) : va_W := (List.range n).map f
theorem fam_len {n : Nat} {f : Nat → Nat × va_E} : (fam n f).length = n := by simp [fam]
theorem fam_get {n k : Nat} {f : Nat → Nat × va_E} (h : k < n) : (fam n f)[k]? = some (f k) := by simp [fam, h]
theorem fam_none {n k : Nat} {f : Nat → Nat × va_E} (h : n ≤ k) : (fam n f)[k]? = none := by simp [fam, h]
theorem fam_congr {n : Nat} {f g : Nat → Nat × va_E} (h : ∀ k, k < n → f k = g k) : fam n f = fam n g := List.map_congr_left fun k hk => h k (List.mem_range.mp hk)
theorem fam_set {n k : Nat} {f : Nat → Nat × va_E} {x : Nat × va_E} : (fam n f).set k x = fam n (fun j => if j = k then x else f j) := by
  apply List.ext_getElem?
  intro j
  by_cases hj : j < n
  · rw [fam_get hj, List.getElem?_set]
    by_cases e : k = j
    · subst e
      rw [if_pos rfl, fam_len, if_pos hj, if_pos rfl]
    · rw [if_neg e, fam_get hj, if_neg (Ne.symm e)]
  · rw [fam_none (by omega), List.getElem?_eq_none]
    rw [List.length_set, fam_len]
    omega
theorem fam_succ {n : Nat} {f : Nat → Nat × va_E} : fam (n + 1) f = fam n f ++ [f n] := by simp [fam, List.range_succ]
/-- addresses: rates, chest, the row of reapers; the reapers; what was handed -/
abbrev SA : Type := (Nat → Nat) × (Nat → Nat) × Option Nat
abbrev ty3 (cI cR cB : ClassId) : List (ClassId × FieldType) := [(cI, .int), (cR, .object RX1), (cB, .array .int)]
def rq_f (u : S0) (k : Nat) : List Value := [.int (u.1 0 k), .int (u.1 1 k), .int (u.1 2 k), .int (u.1 3 k), .int (u.1 4 k), .int (u.1 5 k), .int (u.1 6 k)]
def rq_e (z : SA) (u : S0) (k : Nat) : Nat × va_E := (z.2.1 k, .inr (1, rq_f u k))
def rs_f (z : SA) (u : S0) : List Value := [.int u.2.2, .ref (z.1 0), .ref (z.1 1), .ref (z.1 2), va_rf z.2.2]
abbrev rs_al (cR : ClassId) (n : Nat) (z : SA) : va_E := .inl (cR, n, .inr (.inr (.inr (.inr (fun k => some (z.2.1 k))))))
def rs_h (cI cR : ClassId) (o : Nat) (z : SA) (u : S0) : va_W := [(o, .inr (2, rs_f z u)), (z.1 0, .inl (cI, 5, .inl (u.1 7))), (z.1 1, .inl (cI, 3, .inl (u.1 8))), (z.1 2, rs_al cR u.2.1 z)]
def rs_w (cI cR : ClassId) (o : Nat) (z : SA) (u : S0) : va_W := rs_h cI cR o z u ++ fam u.2.1 (rq_e z u)
theorem rs_len {cI cR : ClassId} {o : Nat} {z : SA} {u : S0} : (rs_w cI cR o z u).length = 4 + u.2.1 := by
  show (rs_h cI cR o z u ++ _).length = _
  rw [List.length_append, fam_len]
  rfl
theorem rs_rp {cI cR : ClassId} {o : Nat} {z : SA} {u : S0} {k : Nat} (h : k < u.2.1) : (rs_w cI cR o z u)[4 + k]? = some (rq_e z u k) := by
  show (rs_h cI cR o z u ++ _)[4 + k]? = _
  rw [List.getElem?_append_right (by show 4 ≤ 4 + k; omega)]
  show (fam _ _)[4 + k - 4]? = _
  rw [show 4 + k - 4 = k by omega]
  exact fam_get h
theorem rs_rpX {cI cR : ClassId} {o : Nat} {z : SA} {u : S0} {k : Nat} {X : va_W} (h : k < u.2.1) : (rs_w cI cR o z u ++ X)[4 + k]? = some (rq_e z u k) := by
  rw [List.getElem?_append_left (by rw [rs_len]; omega)]
  exact rs_rp h
/-- the rows that the sim's world speaks of -/
def rs_E (u v : S0) : Prop := u.2 = v.2 ∧ (∀ k : Nat, k < 5 → u.1 7 k = v.1 7 k) ∧ (∀ k : Nat, k < 3 → u.1 8 k = v.1 8 k) ∧ ∀ j k : Nat, j < 7 → k < u.2.1 → u.1 j k = v.1 j k
theorem rq_fs {u : S0} {k j : Nat} {x : Int32} (hj : j < 7) : rq_f (ra_s u j k x) k = (rq_f u k).set j (.int x) := by
  rcases (show j = 0 ∨ j = 1 ∨ j = 2 ∨ j = 3 ∨ j = 4 ∨ j = 5 ∨ j = 6 by omega) with rfl | rfl | rfl | rfl | rfl | rfl | rfl <;> simp [rq_f, ra_s, ra_u, va_up, upd]
theorem ra_sO {u : S0} {j k i : Nat} {x : Int32} {r : Nat} (h : i ≠ k) : (ra_s u j k x).1 r i = u.1 r i := by
  by_cases e : r = j
  · subst e
    show (ra_u u r _).1 r i = _
    rw [ra_uS]
    simp [upd, h]
  · rw [ra_sN e]
theorem rq_fo {u : S0} {k j i : Nat} {x : Int32} (h : i ≠ k) : rq_f (ra_s u j k x) i = rq_f u i := by
  unfold rq_f
  rw [ra_sO h, ra_sO h, ra_sO h, ra_sO h, ra_sO h, ra_sO h, ra_sO h]
theorem rq_fr {u : S0} {k j i : Nat} {x : Int32} (h : 7 ≤ j) : rq_f (ra_s u j k x) i = rq_f u i := by
  unfold rq_f
  rw [ra_sN (by omega), ra_sN (by omega), ra_sN (by omega), ra_sN (by omega), ra_sN (by omega), ra_sN (by omega), ra_sN (by omega)]
theorem rs_setR {cI cR : ClassId} {o : Nat} {z : SA} {u : S0} {k j : Nat} {x : Int32} {X : va_W} (hj : j < 7) (hk : k < u.2.1) : (rs_w cI cR o z u ++ X).set (4 + k) (z.2.1 k, .inr (1, (rq_f u k).set j (.int x))) = rs_w cI cR o z (ra_s u j k x) ++ X := by
  rw [List.set_append_left _ _ (by rw [rs_len]; omega)]
  refine congrArg (· ++ X) ?_
  show (rs_h cI cR o z u ++ _).set _ _ = rs_h cI cR o z _ ++ _
  rw [List.set_append_right _ _ (by show 4 ≤ 4 + k; omega)]
  have e1 : rs_h cI cR o z (ra_s u j k x) = rs_h cI cR o z u := by
    unfold rs_h rs_f
    rw [ra_sN (show (7 : Nat) ≠ j by omega), ra_sN (show (8 : Nat) ≠ j by omega)]
    rfl
  rw [e1]
  refine congrArg (rs_h cI cR o z u ++ ·) ?_
  show (fam _ _).set (4 + k - 4) _ = _
  rw [show 4 + k - 4 = k by omega, fam_set]
  refine fam_congr fun i hi => ?_
  by_cases e : i = k
  · subst e
    rw [if_pos rfl]
    unfold rq_e
    rw [rq_fs hj]
  · rw [if_neg e]
    unfold rq_e
    rw [rq_fo e]
theorem rs_set7 {cI cR : ClassId} {o : Nat} {z : SA} {u : S0} {k : Nat} {x : Int32} {X : va_W} : (rs_w cI cR o z u ++ X).set 1 (z.1 0, .inl (cI, 5, .inl (upd (u.1 7) k x))) = rs_w cI cR o z (ra_s u 7 k x) ++ X := by
  show rs_h cI cR o z (ra_s u 7 k x) ++ fam u.2.1 (rq_e z u) ++ X = _
  refine congrArg (rs_h cI cR o z (ra_s u 7 k x) ++ · ++ X) ?_
  exact fam_congr fun i hi => by unfold rq_e; rw [rq_fr (by omega)]
theorem rs_set8 {cI cR : ClassId} {o : Nat} {z : SA} {u : S0} {k : Nat} {x : Int32} {X : va_W} : (rs_w cI cR o z u ++ X).set 2 (z.1 1, .inl (cI, 3, .inl (upd (u.1 8) k x))) = rs_w cI cR o z (ra_s u 8 k x) ++ X := by
  show rs_h cI cR o z (ra_s u 8 k x) ++ fam u.2.1 (rq_e z u) ++ X = _
  refine congrArg (rs_h cI cR o z (ra_s u 8 k x) ++ · ++ X) ?_
  exact fam_congr fun i hi => by unfold rq_e; rw [rq_fr (by omega)]
/-- where the walk stands: the sim's world, beside it whatever else the method reaches -/
def sS (D : va_G) (A : Nat → Prop) (s : State) (cI cR : ClassId) (o : Nat) (z : SA) (u : S0) (X : va_W) (H : Heap) (locs : List Loc) : Prop := va_P D vwCl (rs_w cI cR o z u ++ X) H ∧ va_D A (rs_w cI cR o z u ++ X) ∧ va_S A s.heap H locs
theorem sS.E {D : va_G} {A : Nat → Prop} {s : State} {cI cR : ClassId} {o : Nat} {z : SA} {u v : S0} {X : va_W} {H : Heap} {locs : List Loc} (h : sS D A s cI cR o z u X H locs) (e : rs_w cI cR o z u = rs_w cI cR o z v) : sS D A s cI cR o z v X H locs := by
  unfold sS
  rw [← e]
  exact h
section SROWS
variable {p : Program} {l : Launch} {e : Env} {R : Room} {s : State} {m : MethodId} {args : Array Value} {below : List Frame} {meth : Method} {c : Code} {H : Heap} {locs : List Loc} {cells slots : Nat} {Q : State → Prop}
variable {cc : ByteArray} {nL pc : Nat} {ls : Array Slot} {rest : List Value} {D : va_G} {cI cR cB : ClassId} {t : Nat → Nat} {A : Nat → Prop} {o : Nat} {z : SA} {u : S0} {X : va_W} {own : String}
theorem s_gf (C : gC p s m args meth c cc nL own D (ty3 cI cR cB) t A) (S : sS D A s cI cR o z u X H locs) (k : Nat) (hk : k < 5) {v : Value} {idx : Nat} (hv : (rs_f z u)[k]? = some v) (hs : (TX2 k).1 = RX2) (hq : Cond.fieldLink own idx RX2 (TX2 k).2.1 (TX2 k).2.2.1 ∈ wsL_law) (hdg : decode cc pc = .ok (.getfield idx, 3))
    (kk : W p l e R s m args below meth c H locs cells slots Q (F0 m (pc + 3) ls (v :: rest))) : W p l e R s m args below meth c H locs cells slots Q (F0 m pc ls (.ref o :: rest)) :=
  va_get (D := D) (ci := 2) (C := RX2) (T := TX2) (N := 5) C.1 C.2.1 C.2.2.2.2.1 inlX2 C.2.2.2.1 C.2.2.2.2.2.1 S.1 0 rfl rfl k hk (C.2.2.2.2.1 _ hq) (fun x h => by rw [hs] at h; exact h) hv hdg kk
theorem r_gf (C : gC p s m args meth c cc nL own D (ty3 cI cR cB) t A) (S : sS D A s cI cR o z u X H locs) (k i : Nat) (hk : k < 7) (hi : i < u.2.1) {v : Value} {idx : Nat} (hv : (rq_f u i)[k]? = some v) (hs : (TX1 k).1 = RX1) (hq : Cond.fieldLink own idx RX1 (TX1 k).2.1 (TX1 k).2.2.1 ∈ wsL_law) (hdg : decode cc pc = .ok (.getfield idx, 3))
    (kk : W p l e R s m args below meth c H locs cells slots Q (F0 m (pc + 3) ls (v :: rest))) : W p l e R s m args below meth c H locs cells slots Q (F0 m pc ls (.ref (z.2.1 i) :: rest)) :=
  va_get (D := D) (ci := 1) (C := RX1) (T := TX1) (N := 7) C.1 C.2.1 C.2.2.2.2.1 inlX1 C.2.2.2.1 C.2.2.2.2.2.1 S.1 (4 + i) (rs_rpX hi) rfl k hk (C.2.2.2.2.1 _ hq) (fun x h => by rw [hs] at h; exact h) hv hdg kk
theorem s_l7 (C : gC p s m args meth c cc nL own D (ty3 cI cR cB) t A) (S : sS D A s cI cR o z u X H locs) {i : Nat} {i0 : Int32} (hi : i < 5) (h0 : i0 = nI i) (hdg : decode cc pc = .ok (.iaload, 1))
    (kk : W p l e R s m args below meth c H locs cells slots Q (F0 m (pc + 1) ls (.int (u.1 7 i) :: rest))) : W p l e R s m args below meth c H locs cells slots Q (F0 m pc ls (.int i0 :: .ref (z.1 0) :: rest)) := by
  subst h0
  exact va_iald (D := D) (n := 5) (f := u.1 7) C.1 C.2.1 C.2.2.2.2.2.1 S.1 1 0 rfl rfl (vp_in_nI hi (by omega)) hdg (by rw [nI_clamp (by omega)]; exact kk)
theorem s_l8 (C : gC p s m args meth c cc nL own D (ty3 cI cR cB) t A) (S : sS D A s cI cR o z u X H locs) {i : Nat} {i0 : Int32} (hi : i < 3) (h0 : i0 = nI i) (hdg : decode cc pc = .ok (.iaload, 1))
    (kk : W p l e R s m args below meth c H locs cells slots Q (F0 m (pc + 1) ls (.int (u.1 8 i) :: rest))) : W p l e R s m args below meth c H locs cells slots Q (F0 m pc ls (.int i0 :: .ref (z.1 1) :: rest)) := by
  subst h0
  exact va_iald (D := D) (n := 3) (f := u.1 8) C.1 C.2.1 C.2.2.2.2.2.1 S.1 2 0 rfl rfl (vp_in_nI hi (by omega)) hdg (by rw [nI_clamp (by omega)]; exact kk)
theorem s_t7 (C : gC p s m args meth c cc nL own D (ty3 cI cR cB) t A) (S : sS D A s cI cR o z u X H locs) {i : Nat} {i0 x : Int32} (hi : i < 5) (h0 : i0 = nI i) (hdg : decode cc pc = .ok (.iastore, 1))
    (kk : ∀ (H1 : Heap) (locs1 : List Loc), sS D A s cI cR o z (ra_s u 7 i x) X H1 locs1 → W p l e R s m args below meth c H1 locs1 cells slots Q (F0 m (pc + 1) ls rest)) : W p l e R s m args below meth c H locs cells slots Q (F0 m pc ls (.int x :: .int i0 :: .ref (z.1 0) :: rest)) := by
  subst h0
  refine va_iast (D := D) (n := 5) (f := u.1 7) C.1 C.2.1 C.2.2.2.2.2.1 S.1 S.2.1 S.2.2 1 0 rfl rfl (vp_in_nI hi (by omega)) hdg (fun H1 locs1 hP1 hD1 hS1 => ?_)
  rw [nI_clamp (by omega), rs_set7] at hP1 hD1
  exact kk H1 locs1 ⟨hP1, hD1, hS1⟩
theorem s_t8 (C : gC p s m args meth c cc nL own D (ty3 cI cR cB) t A) (S : sS D A s cI cR o z u X H locs) {i : Nat} {i0 x : Int32} (hi : i < 3) (h0 : i0 = nI i) (hdg : decode cc pc = .ok (.iastore, 1))
    (kk : ∀ (H1 : Heap) (locs1 : List Loc), sS D A s cI cR o z (ra_s u 8 i x) X H1 locs1 → W p l e R s m args below meth c H1 locs1 cells slots Q (F0 m (pc + 1) ls rest)) : W p l e R s m args below meth c H locs cells slots Q (F0 m pc ls (.int x :: .int i0 :: .ref (z.1 1) :: rest)) := by
  subst h0
  refine va_iast (D := D) (n := 3) (f := u.1 8) C.1 C.2.1 C.2.2.2.2.2.1 S.1 S.2.1 S.2.2 2 0 rfl rfl (vp_in_nI hi (by omega)) hdg (fun H1 locs1 hP1 hD1 hS1 => ?_)
  rw [nI_clamp (by omega), rs_set8] at hP1 hD1
  exact kk H1 locs1 ⟨hP1, hD1, hS1⟩
theorem s_al (C : gC p s m args meth c cc nL own D (ty3 cI cR cB) t A) (S : sS D A s cI cR o z u X H locs) {i : Nat} {i0 : Int32} (hu : u.2.1 ≤ 8) (hi : i < u.2.1) (h0 : i0 = nI i) (hdg : decode cc pc = .ok (.aaload, 1))
    (kk : W p l e R s m args below meth c H locs cells slots Q (F0 m (pc + 1) ls (.ref (z.2.1 i) :: rest))) : W p l e R s m args below meth c H locs cells slots Q (F0 m pc ls (.int i0 :: .ref (z.1 2) :: rest)) := by
  subst h0
  exact va_aldq (D := D) (n := u.2.1) (f := fun k => some (z.2.1 k)) C.1 C.2.1 C.2.2.2.2.2.1 S.1 3 1 rfl rfl (vp_in_nI hi (by omega)) hdg (by rw [nI_clamp (by omega)]; exact kk)
theorem s_an (C : gC p s m args meth c cc nL own D (ty3 cI cR cB) t A) (S : sS D A s cI cR o z u X H locs) (hdg : decode cc pc = .ok (.arraylength, 1))
    (kk : W p l e R s m args below meth c H locs cells slots Q (F0 m (pc + 1) ls (.int (nI u.2.1) :: rest))) : W p l e R s m args below meth c H locs cells slots Q (F0 m pc ls (.ref (z.1 2) :: rest)) :=
  va_alen (D := D) C.1 C.2.1 C.2.2.2.2.2.1 S.1 3 1 (cA := cR) (x := (u.2.1, .inr (.inr (.inr (.inr (fun k => some (z.2.1 k))))))) rfl rfl rfl hdg kk
theorem r_pf (C : gC p s m args meth c cc nL own D (ty3 cI cR cB) t A) (S : sS D A s cI cR o z u X H locs) (k i : Nat) (hk : k < 7) (hi : i < u.2.1) {x : Int32} {idx : Nat} (hs : (TX1 k).1 = RX1) (hf : (TX1 k).2.2.2 = false) (hty : parseFieldDescriptor (TX1 k).2.2.1 = some .int) (hq : Cond.fieldLink own idx RX1 (TX1 k).2.1 (TX1 k).2.2.1 ∈ wsL_law) (hdg : decode cc pc = .ok (.putfield idx, 3))
    (kk : ∀ (H1 : Heap) (locs1 : List Loc), sS D A s cI cR o z (ra_s u k i x) X H1 locs1 → W p l e R s m args below meth c H1 locs1 cells slots Q (F0 m (pc + 3) ls rest)) : W p l e R s m args below meth c H locs cells slots Q (F0 m pc ls (.int x :: .ref (z.2.1 i) :: rest)) := by
  refine va_put (D := D) (ci := 1) (v := .int x) (ty := .int) (C := RX1) (T := TX1) (N := 7) C.1 C.2.1 C.2.2.2.2.1 inlX1 tyX1 tyX1_ok nmX1 C.2.2.2.1 C.2.2.2.2.2.1 S.1 S.2.1 S.2.2 (4 + i) (rs_rpX hi) rfl k hk (C.2.2.2.2.1 _ hq) (fun x h => by rw [hs] at h; exact h) hf hty rfl rfl hk hdg (fun H1 locs1 hP1 hD1 hS1 => ?_)
  rw [rs_setR hk hi] at hP1 hD1
  exact kk H1 locs1 ⟨hP1, hD1, hS1⟩
theorem s_pw (C : gC p s m args meth c cc nL own D (ty3 cI cR cB) t A) (S : sS D A s cI cR o z u X H locs) {x : Int32} {idx : Nat} (hq : Cond.fieldLink own idx RX2 "week" "I" ∈ wsL_law) (hdg : decode cc pc = .ok (.putfield idx, 3))
    (kk : ∀ (H1 : Heap) (locs1 : List Loc), sS D A s cI cR o z (u.1, u.2.1, x) X H1 locs1 → W p l e R s m args below meth c H1 locs1 cells slots Q (F0 m (pc + 3) ls rest)) : W p l e R s m args below meth c H locs cells slots Q (F0 m pc ls (.int x :: .ref o :: rest)) :=
  va_put (D := D) (ci := 2) (v := .int x) (ty := .int) (C := RX2) (T := TX2) (N := 5) C.1 C.2.1 C.2.2.2.2.1 inlX2 tyX2 tyX2_ok nmX2 C.2.2.2.1 C.2.2.2.2.2.1 S.1 S.2.1 S.2.2 0 rfl rfl 0 (by decide) (C.2.2.2.2.1 _ hq) (fun x h => h) rfl (by decide +kernel) rfl rfl (Nat.le_of_ble_eq_true rfl) hdg (fun H1 locs1 hP1 hD1 hS1 => kk H1 locs1 ⟨hP1, hD1, hS1⟩)
theorem s_pz (C : gC p s m args meth c cc nL own D (ty3 cI cR cB) t A) (S : sS D A s cI cR o z u X H locs) {a idx : Nat} (hq : Cond.fieldLink own idx RX2 "handed" "[[I" ∈ wsL_law) (hdg : decode cc pc = .ok (.putfield idx, 3))
    (kk : ∀ (H1 : Heap) (locs1 : List Loc), sS D A s cI cR o (z.1, z.2.1, some a) u X H1 locs1 → W p l e R s m args below meth c H1 locs1 cells slots Q (F0 m (pc + 3) ls rest)) : W p l e R s m args below meth c H locs cells slots Q (F0 m pc ls (.ref a :: .ref o :: rest)) :=
  va_put (D := D) (ci := 2) (v := .ref a) (ty := .array (.array .int)) (C := RX2) (T := TX2) (N := 5) C.1 C.2.1 C.2.2.2.2.1 inlX2 tyX2 tyX2_ok nmX2 C.2.2.2.1 C.2.2.2.2.2.1 S.1 S.2.1 S.2.2 0 rfl rfl 4 (by decide) (C.2.2.2.2.1 _ hq) (fun x h => h) rfl (by decide +kernel) rfl rfl (Nat.le_of_ble_eq_true rfl) hdg (fun H1 locs1 hP1 hD1 hS1 => kk H1 locs1 ⟨hP1, hD1, hS1⟩)
end SROWS
