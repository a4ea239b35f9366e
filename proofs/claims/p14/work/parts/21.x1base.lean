/-! THE REFERENCE'S WORLD: (rows of numbers: 0 rates, 1 chest, 2 rows, 3 handed; reapers; week; thrown; where the rows lie) -/
abbrev S1 : Type := (Nat → Nat → Int32) × Nat × Int32 × Int32 × (Nat → Nat)
def rb_f (v : S1) : List Value := [.int v.2.2.2.1, .int (nI v.2.1), .int v.2.2.1, .ref (v.2.2.2.2 0), .ref (v.2.2.2.2 1), .ref (v.2.2.2.2 2), .ref (v.2.2.2.2 3)]
def rb_w (cI : ClassId) (o : Nat) (v : S1) : va_W := [(o, .inr (1, rb_f v)), (v.2.2.2.2 0, .inl (cI, 5, .inl (v.1 0))), (v.2.2.2.2 1, .inl (cI, 3, .inl (v.1 1))), (v.2.2.2.2 2, .inl (cI, 56, .inl (v.1 2))), (v.2.2.2.2 3, .inl (cI, 24, .inl (v.1 3)))]
def rb_len (k : Nat) : Nat := if k = 0 then 5 else if k = 1 then 3 else if k = 2 then 56 else 24
def rb_u (v : S1) (k : Nat) (g : Nat → Int32) : S1 := (va_up v.1 k g, v.2)
def rb_s (v : S1) (k i : Nat) (x : Int32) : S1 := rb_u v k (upd (v.1 k) i x)
/-- what was thrown -/
def rb_t (v : S1) (x : Int32) : S1 := (v.1, v.2.1, v.2.2.1, x, v.2.2.2.2)
theorem rb_cases {k : Nat} (h : k < 4) : k = 0 ∨ k = 1 ∨ k = 2 ∨ k = 3 := by omega
theorem rb_row {cI : ClassId} {o : Nat} {v : S1} {k : Nat} (h : k < 4) : (rb_w cI o v)[k + 1]? = some (v.2.2.2.2 k, .inl (cI, rb_len k, .inl (v.1 k))) := by
  rcases rb_cases h with rfl | rfl | rfl | rfl <;> rfl
theorem rb_set {cI : ClassId} {o : Nat} {v : S1} {k : Nat} (h : k < 4) (g : Nat → Int32) : (rb_w cI o v).set (k + 1) (v.2.2.2.2 k, .inl (cI, rb_len k, .inl g)) = rb_w cI o (rb_u v k g) := by
  rcases rb_cases h with rfl | rfl | rfl | rfl <;> rfl
theorem rb_D {A : Nat → Prop} {cI : ClassId} {o : Nat} {v v' : S1} (e : v.2.2.2.2 = v'.2.2.2.2) (h : va_D A (rb_w cI o v)) : va_D A (rb_w cI o v') := rd_map h (by show [o, _, _, _, _] = [o, _, _, _, _]; rw [e])
theorem rb_uN {v : S1} {k j : Nat} {g : Nat → Int32} (h : j ≠ k) : (rb_u v k g).1 j = v.1 j := if_neg h
theorem rb_uS {v : S1} {k : Nat} {g : Nat → Int32} : (rb_u v k g).1 k = g := if_pos rfl
theorem rb_sS {v : S1} {k i : Nat} {x : Int32} : (rb_s v k i x).1 k i = x := by
  unfold rb_s
  rw [rb_uS]
  simp [upd]
theorem rb_sO {v : S1} {k i j : Nat} {x : Int32} (h : j ≠ i) : (rb_s v k i x).1 k j = v.1 k j := by
  unfold rb_s
  rw [rb_uS]
  simp [upd, h]
theorem rb_sN {v : S1} {k i j : Nat} {x : Int32} (h : j ≠ k) : (rb_s v k i x).1 j = v.1 j := rb_uN h
theorem rb_len56 {k : Nat} (h : k < 4) : rb_len k ≤ 56 := by
  rcases rb_cases h with rfl | rfl | rfl | rfl <;> decide
section X1ROWS
variable {p : Program} {l : Launch} {e : Env} {R : Room} {s : State} {m : MethodId} {args : Array Value} {below : List Frame} {meth : Method} {c : Code} {H : Heap} {locs : List Loc} {cells slots : Nat} {Q : State → Prop}
variable {cc : ByteArray} {nL pc : Nat} {ls : Array Slot} {rest : List Value} {D : va_G} {cI : ClassId} {t : Nat → Nat} {A : Nat → Prop} {o : Nat} {v : S1} {own : String} {ty : List (ClassId × FieldType)}
theorem x1_gf (C : gC p s m args meth c cc nL RX1 D [(cI, .int)] t A) (hP : va_P D vwCl (rb_w cI o v) H) (k : Nat) (hk : k < 7) {x : Value} {idx : Nat} (hv : (rb_f v)[k]? = some x) (hs : (TX1 k).1 = RX1) (hq : Cond.fieldLink RX1 idx RX1 (TX1 k).2.1 (TX1 k).2.2.1 ∈ wsL_law) (hdg : decode cc pc = .ok (.getfield idx, 3))
    (kk : W p l e R s m args below meth c H locs cells slots Q (F0 m (pc + 3) ls (x :: rest))) : W p l e R s m args below meth c H locs cells slots Q (F0 m pc ls (.ref o :: rest)) :=
  va_get (D := D) (ci := 1) (C := RX1) (T := TX1) (N := 7) C.1 C.2.1 C.2.2.2.2.1 inlX1 C.2.2.2.1 C.2.2.2.2.2.1 hP 0 rfl rfl k hk (C.2.2.2.2.1 _ hq) (fun x h => by rw [hs] at h; exact h) hv hdg kk
theorem x1_pt (C : gC p s m args meth c cc nL RX1 D [(cI, .int)] t A) (hP : va_P D vwCl (rb_w cI o v) H) (hD : va_D A (rb_w cI o v)) (hS : va_S A s.heap H locs) {x : Int32} {idx : Nat} (hq : Cond.fieldLink RX1 idx RX1 "thrown" "I" ∈ wsL_law) (hdg : decode cc pc = .ok (.putfield idx, 3))
    (kk : ∀ (H1 : Heap) (locs1 : List Loc), va_P D vwCl (rb_w cI o (rb_t v x)) H1 → va_D A (rb_w cI o (rb_t v x)) → va_S A s.heap H1 locs1 → W p l e R s m args below meth c H1 locs1 cells slots Q (F0 m (pc + 3) ls rest)) : W p l e R s m args below meth c H locs cells slots Q (F0 m pc ls (.int x :: .ref o :: rest)) :=
  va_put (D := D) (ci := 1) (v := .int x) (ty := .int) (C := RX1) (T := TX1) (N := 7) C.1 C.2.1 C.2.2.2.2.1 inlX1 tyX1 tyX1_ok nmX1 C.2.2.2.1 C.2.2.2.2.2.1 hP hD hS 0 rfl rfl 0 (by decide) (C.2.2.2.2.1 _ hq) (fun x h => h) rfl (by decide +kernel) rfl rfl (Nat.le_of_ble_eq_true rfl) hdg (fun H1 locs1 hP1 hD1 hS1 => kk H1 locs1 hP1 hD1 hS1)
theorem x1_pn (C : gC p s m args meth c cc nL RX1 D [(cI, .int)] t A) (hP : va_P D vwCl (rb_w cI o v) H) (hD : va_D A (rb_w cI o v)) (hS : va_S A s.heap H locs) (n' : Nat) {idx : Nat} (hq : Cond.fieldLink RX1 idx RX1 "reapers" "I" ∈ wsL_law) (hdg : decode cc pc = .ok (.putfield idx, 3))
    (kk : ∀ (H1 : Heap) (locs1 : List Loc), va_P D vwCl (rb_w cI o (v.1, n', v.2.2)) H1 → va_D A (rb_w cI o (v.1, n', v.2.2)) → va_S A s.heap H1 locs1 → W p l e R s m args below meth c H1 locs1 cells slots Q (F0 m (pc + 3) ls rest)) : W p l e R s m args below meth c H locs cells slots Q (F0 m pc ls (.int (nI n') :: .ref o :: rest)) :=
  va_put (D := D) (ci := 1) (v := .int (nI n')) (ty := .int) (C := RX1) (T := TX1) (N := 7) C.1 C.2.1 C.2.2.2.2.1 inlX1 tyX1 tyX1_ok nmX1 C.2.2.2.1 C.2.2.2.2.2.1 hP hD hS 0 rfl rfl 1 (by decide) (C.2.2.2.2.1 _ hq) (fun x h => h) rfl (by decide +kernel) rfl rfl (Nat.le_of_ble_eq_true rfl) hdg (fun H1 locs1 hP1 hD1 hS1 => kk H1 locs1 hP1 hD1 hS1)
theorem x1_pw (C : gC p s m args meth c cc nL RX1 D [(cI, .int)] t A) (hP : va_P D vwCl (rb_w cI o v) H) (hD : va_D A (rb_w cI o v)) (hS : va_S A s.heap H locs) {x : Int32} {idx : Nat} (hq : Cond.fieldLink RX1 idx RX1 "week" "I" ∈ wsL_law) (hdg : decode cc pc = .ok (.putfield idx, 3))
    (kk : ∀ (H1 : Heap) (locs1 : List Loc), va_P D vwCl (rb_w cI o (v.1, v.2.1, x, v.2.2.2)) H1 → va_D A (rb_w cI o (v.1, v.2.1, x, v.2.2.2)) → va_S A s.heap H1 locs1 → W p l e R s m args below meth c H1 locs1 cells slots Q (F0 m (pc + 3) ls rest)) : W p l e R s m args below meth c H locs cells slots Q (F0 m pc ls (.int x :: .ref o :: rest)) :=
  va_put (D := D) (ci := 1) (v := .int x) (ty := .int) (C := RX1) (T := TX1) (N := 7) C.1 C.2.1 C.2.2.2.2.1 inlX1 tyX1 tyX1_ok nmX1 C.2.2.2.1 C.2.2.2.2.2.1 hP hD hS 0 rfl rfl 2 (by decide) (C.2.2.2.2.1 _ hq) (fun x h => h) rfl (by decide +kernel) rfl rfl (Nat.le_of_ble_eq_true rfl) hdg (fun H1 locs1 hP1 hD1 hS1 => kk H1 locs1 hP1 hD1 hS1)
theorem x1_ld (C : gC p s m args meth c cc nL own D [(cI, .int)] t A) (hP : va_P D vwCl (rb_w cI o v) H) {k i : Nat} {i0 : Int32} (hk : k < 4) (hi : i < rb_len k) (h0 : i0 = nI i) (hdg : decode cc pc = .ok (.iaload, 1))
    (kk : W p l e R s m args below meth c H locs cells slots Q (F0 m (pc + 1) ls (.int (v.1 k i) :: rest))) : W p l e R s m args below meth c H locs cells slots Q (F0 m pc ls (.int i0 :: .ref (v.2.2.2.2 k) :: rest)) := by
  subst h0
  have h9 := rb_len56 hk
  exact va_iald (D := D) (n := rb_len k) (f := v.1 k) C.1 C.2.1 C.2.2.2.2.2.1 hP (k + 1) 0 (rb_row hk) rfl (vp_in_nI hi (by omega)) hdg (by rw [nI_clamp (by omega)]; exact kk)
theorem x1_st (C : gC p s m args meth c cc nL own D [(cI, .int)] t A) (hP : va_P D vwCl (rb_w cI o v) H) (hD : va_D A (rb_w cI o v)) (hS : va_S A s.heap H locs) {k i : Nat} {i0 x : Int32} (hk : k < 4) (hi : i < rb_len k) (h0 : i0 = nI i) (hdg : decode cc pc = .ok (.iastore, 1))
    (kk : ∀ (H1 : Heap) (locs1 : List Loc), va_P D vwCl (rb_w cI o (rb_s v k i x)) H1 → va_D A (rb_w cI o (rb_s v k i x)) → va_S A s.heap H1 locs1 → W p l e R s m args below meth c H1 locs1 cells slots Q (F0 m (pc + 1) ls rest)) : W p l e R s m args below meth c H locs cells slots Q (F0 m pc ls (.int x :: .int i0 :: .ref (v.2.2.2.2 k) :: rest)) := by
  subst h0
  have h9 := rb_len56 hk
  refine va_iast (D := D) (n := rb_len k) (f := v.1 k) C.1 C.2.1 C.2.2.2.2.2.1 hP hD hS (k + 1) 0 (rb_row hk) rfl (vp_in_nI hi (by omega)) hdg (fun H1 locs1 hP1 hD1 hS1 => ?_)
  rw [nI_clamp (by omega), rb_set hk] at hP1 hD1
  exact kk H1 locs1 hP1 hD1 hS1
def rb_in (x a b : Int32) : Int32 := if x < a then 0 else if b < x then 0 else 1
end X1ROWS
