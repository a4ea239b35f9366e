/-! THE CLASS'S WORLD: the object at o, its rows of numbers at ad k (k: the field's place); a state is (rows, how many are hired, the week) -/
abbrev S0 : Type := (Nat → Nat → Int32) × Nat × Int32
abbrev rm_ (f k n lo : Nat) : Room := { frames := f, cells := k, slots := n, locals := lo }
def ra_f (ad : Nat → Nat) (u : S0) : List Value := [.ref (ad 0), .ref (ad 1), .ref (ad 2), .ref (ad 3), .ref (ad 4), .ref (ad 5), .ref (ad 6), .ref (ad 7), .ref (ad 8), .int (nI u.2.1), .int u.2.2, .ref (ad 11), .ref (ad 12), .ref (ad 13)]
def ra_w (cI : ClassId) (o : Nat) (ad : Nat → Nat) (u : S0) : va_W := [(o, .inr (0, ra_f ad u)), (ad 0, .inl (cI, 8, .inl (u.1 0))), (ad 1, .inl (cI, 8, .inl (u.1 1))), (ad 2, .inl (cI, 8, .inl (u.1 2))), (ad 3, .inl (cI, 8, .inl (u.1 3))), (ad 4, .inl (cI, 8, .inl (u.1 4))), (ad 5, .inl (cI, 8, .inl (u.1 5))), (ad 6, .inl (cI, 8, .inl (u.1 6))), (ad 7, .inl (cI, 5, .inl (u.1 7))), (ad 8, .inl (cI, 3, .inl (u.1 8))), (ad 11, .inl (cI, 5, .inl (u.1 11))), (ad 12, .inl (cI, 3, .inl (u.1 12))), (ad 13, .inl (cI, 3, .inl (u.1 13)))]
def ra_len (k : Nat) : Nat := if k < 7 then 8 else if k = 7 ∨ k = 11 then 5 else 3
def ra_pl (k : Nat) : Nat := if k < 9 then k + 1 else k - 1
def ra_ok (k : Nat) : Prop := k < 9 ∨ (10 < k ∧ k < 14)
def ra_u (u : S0) (k : Nat) (g : Nat → Int32) : S0 := (va_up u.1 k g, u.2)
def ra_s (u : S0) (k i : Nat) (x : Int32) : S0 := ra_u u k (upd (u.1 k) i x)
theorem ra_cases {k : Nat} (h : ra_ok k) : k = 0 ∨ k = 1 ∨ k = 2 ∨ k = 3 ∨ k = 4 ∨ k = 5 ∨ k = 6 ∨ k = 7 ∨ k = 8 ∨ k = 11 ∨ k = 12 ∨ k = 13 := by
  unfold ra_ok at h
  omega
theorem ra_row {cI : ClassId} {o : Nat} {ad : Nat → Nat} {u : S0} {k : Nat} (h : ra_ok k) : (ra_w cI o ad u)[ra_pl k]? = some (ad k, .inl (cI, ra_len k, .inl (u.1 k))) := by
  rcases ra_cases h with rfl | rfl | rfl | rfl | rfl | rfl | rfl | rfl | rfl | rfl | rfl | rfl <;> rfl
theorem ra_set {cI : ClassId} {o : Nat} {ad : Nat → Nat} {u : S0} {k : Nat} (h : ra_ok k) (g : Nat → Int32) : (ra_w cI o ad u).set (ra_pl k) (ad k, .inl (cI, ra_len k, .inl g)) = ra_w cI o ad (ra_u u k g) := by
  rcases ra_cases h with rfl | rfl | rfl | rfl | rfl | rfl | rfl | rfl | rfl | rfl | rfl | rfl <;> rfl
theorem ra_D {A : Nat → Prop} {cI : ClassId} {o : Nat} {ad : Nat → Nat} {u u' : S0} (h : va_D A (ra_w cI o ad u)) : va_D A (ra_w cI o ad u') := rd_map h rfl
theorem ra_uN {u : S0} {k j : Nat} {g : Nat → Int32} (h : j ≠ k) : (ra_u u k g).1 j = u.1 j := if_neg h
theorem ra_uS {u : S0} {k : Nat} {g : Nat → Int32} : (ra_u u k g).1 k = g := if_pos rfl
theorem ra_len8 {k : Nat} (h : ra_ok k) : ra_len k ≤ 8 := by
  unfold ra_len
  split
  · omega
  · split <;> omega
section X0ROWS
variable {p : Program} {l : Launch} {e : Env} {R : Room} {s : State} {m : MethodId} {args : Array Value} {below : List Frame} {meth : Method} {c : Code} {H : Heap} {locs : List Loc} {cells slots : Nat} {Q : State → Prop}
variable {cc : ByteArray} {nL pc : Nat} {ls : Array Slot} {rest : List Value} {D : va_G} {cI : ClassId} {t : Nat → Nat} {A : Nat → Prop} {o : Nat} {ad : Nat → Nat} {u : S0} {own : String} {ty : List (ClassId × FieldType)}
theorem x0_gf (C : gC p s m args meth c cc nL RX0 D [(cI, .int)] t A) (hP : va_P D vwCl (ra_w cI o ad u) H) (k : Nat) (hk : k < 14) {v : Value} {idx : Nat} (hv : (ra_f ad u)[k]? = some v) (hs : (TX0 k).1 = RX0) (hq : Cond.fieldLink RX0 idx RX0 (TX0 k).2.1 (TX0 k).2.2.1 ∈ wsL_law) (hdg : decode cc pc = .ok (.getfield idx, 3))
    (kk : W p l e R s m args below meth c H locs cells slots Q (F0 m (pc + 3) ls (v :: rest))) : W p l e R s m args below meth c H locs cells slots Q (F0 m pc ls (.ref o :: rest)) :=
  va_get (D := D) (ci := 0) (C := RX0) (T := TX0) (N := 14) C.1 C.2.1 C.2.2.2.2.1 inlX0 C.2.2.2.1 C.2.2.2.2.2.1 hP 0 rfl rfl k hk (C.2.2.2.2.1 _ hq) (fun x h => by rw [hs] at h; exact h) hv hdg kk
theorem x0_ph (C : gC p s m args meth c cc nL RX0 D [(cI, .int)] t A) (hP : va_P D vwCl (ra_w cI o ad u) H) (hD : va_D A (ra_w cI o ad u)) (hS : va_S A s.heap H locs) (h' : Nat) {idx : Nat} (hq : Cond.fieldLink RX0 idx RX0 "hired" "I" ∈ wsL_law) (hdg : decode cc pc = .ok (.putfield idx, 3))
    (kk : ∀ (H1 : Heap) (locs1 : List Loc), va_P D vwCl (ra_w cI o ad (u.1, h', u.2.2)) H1 → va_D A (ra_w cI o ad (u.1, h', u.2.2)) → va_S A s.heap H1 locs1 → W p l e R s m args below meth c H1 locs1 cells slots Q (F0 m (pc + 3) ls rest)) : W p l e R s m args below meth c H locs cells slots Q (F0 m pc ls (.int (nI h') :: .ref o :: rest)) :=
  va_put (D := D) (ci := 0) (v := .int (nI h')) (ty := .int) (C := RX0) (T := TX0) (N := 14) C.1 C.2.1 C.2.2.2.2.1 inlX0 tyX0 tyX0_ok nmX0 C.2.2.2.1 C.2.2.2.2.2.1 hP hD hS 0 rfl rfl 9 (by decide) (C.2.2.2.2.1 _ hq) (fun x h => h) rfl (by decide +kernel) rfl rfl (Nat.le_of_ble_eq_true rfl) hdg (fun H1 locs1 hP1 hD1 hS1 => kk H1 locs1 hP1 hD1 hS1)
theorem x0_pw (C : gC p s m args meth c cc nL RX0 D [(cI, .int)] t A) (hP : va_P D vwCl (ra_w cI o ad u) H) (hD : va_D A (ra_w cI o ad u)) (hS : va_S A s.heap H locs) {x : Int32} {idx : Nat} (hq : Cond.fieldLink RX0 idx RX0 "week" "I" ∈ wsL_law) (hdg : decode cc pc = .ok (.putfield idx, 3))
    (kk : ∀ (H1 : Heap) (locs1 : List Loc), va_P D vwCl (ra_w cI o ad (u.1, u.2.1, x)) H1 → va_D A (ra_w cI o ad (u.1, u.2.1, x)) → va_S A s.heap H1 locs1 → W p l e R s m args below meth c H1 locs1 cells slots Q (F0 m (pc + 3) ls rest)) : W p l e R s m args below meth c H locs cells slots Q (F0 m pc ls (.int x :: .ref o :: rest)) :=
  va_put (D := D) (ci := 0) (v := .int x) (ty := .int) (C := RX0) (T := TX0) (N := 14) C.1 C.2.1 C.2.2.2.2.1 inlX0 tyX0 tyX0_ok nmX0 C.2.2.2.1 C.2.2.2.2.2.1 hP hD hS 0 rfl rfl 10 (by decide) (C.2.2.2.2.1 _ hq) (fun x h => h) rfl (by decide +kernel) rfl rfl (Nat.le_of_ble_eq_true rfl) hdg (fun H1 locs1 hP1 hD1 hS1 => kk H1 locs1 hP1 hD1 hS1)
theorem x0_ld (C : gC p s m args meth c cc nL own D [(cI, .int)] t A) (hP : va_P D vwCl (ra_w cI o ad u) H) {k i : Nat} {i0 : Int32} (hk : ra_ok k) (hi : i < ra_len k) (h0 : i0 = nI i) (hdg : decode cc pc = .ok (.iaload, 1))
    (kk : W p l e R s m args below meth c H locs cells slots Q (F0 m (pc + 1) ls (.int (u.1 k i) :: rest))) : W p l e R s m args below meth c H locs cells slots Q (F0 m pc ls (.int i0 :: .ref (ad k) :: rest)) := by
  subst h0
  have h9 := ra_len8 hk
  exact va_iald (D := D) (n := ra_len k) (f := u.1 k) C.1 C.2.1 C.2.2.2.2.2.1 hP (ra_pl k) 0 (ra_row hk) rfl (vp_in_nI hi (by omega)) hdg (by rw [nI_clamp (by omega)]; exact kk)
theorem x0_st (C : gC p s m args meth c cc nL own D [(cI, .int)] t A) (hP : va_P D vwCl (ra_w cI o ad u) H) (hD : va_D A (ra_w cI o ad u)) (hS : va_S A s.heap H locs) {k i : Nat} {i0 x : Int32} (hk : ra_ok k) (hi : i < ra_len k) (h0 : i0 = nI i) (hdg : decode cc pc = .ok (.iastore, 1))
    (kk : ∀ (H1 : Heap) (locs1 : List Loc), va_P D vwCl (ra_w cI o ad (ra_s u k i x)) H1 → va_D A (ra_w cI o ad (ra_s u k i x)) → va_S A s.heap H1 locs1 → W p l e R s m args below meth c H1 locs1 cells slots Q (F0 m (pc + 1) ls rest)) : W p l e R s m args below meth c H locs cells slots Q (F0 m pc ls (.int x :: .int i0 :: .ref (ad k) :: rest)) := by
  subst h0
  have h9 := ra_len8 hk
  refine va_iast (D := D) (n := ra_len k) (f := u.1 k) C.1 C.2.1 C.2.2.2.2.2.1 hP hD hS (ra_pl k) 0 (ra_row hk) rfl (vp_in_nI hi (by omega)) hdg (fun H1 locs1 hP1 hD1 hS1 => ?_)
  rw [nI_clamp (by omega), ra_set hk] at hP1 hD1
  exact kk H1 locs1 hP1 hD1 hS1
/-- a static array: its field, its elements -/
theorem g_gs (C : gC p s m args meth c cc nL own D ty t A) (hS : va_S A s.heap H locs) {nm : String} {v : Value} {idx : Nat} (hZ : va_Z own nm "[I" v A s s.heap) (hq : Cond.fieldLink own idx own nm "[I" ∈ wsL_law) (hdg : decode cc pc = .ok (.getstatic idx, 3))
    (kk : W p l e R s m args below meth c H locs cells slots Q (F0 m (pc + 3) ls (v :: rest))) : W p l e R s m args below meth c H locs cells slots Q (F0 m pc ls rest) :=
  va_gets C.1 C.2.1 hZ hS C.2.2.2.1 (C.2.2.2.2.1 _ hq) (fun x h => h) hdg kk
theorem g_ti (C : gC p s m args meth c cc nL own D ty t A) (hS : va_S A s.heap H locs) {a N i : Nat} {f : Nat → Int32} {i0 : Int32} (hT : va_T .int a N (fun j => .int (f j)) A s s.heap) (hN : N < 100) (hi : i < N) (h0 : i0 = nI i) (hdg : decode cc pc = .ok (.iaload, 1))
    (kk : W p l e R s m args below meth c H locs cells slots Q (F0 m (pc + 1) ls (.int (f i) :: rest))) : W p l e R s m args below meth c H locs cells slots Q (F0 m pc ls (.int i0 :: .ref a :: rest)) := by
  subst h0
  exact va_ti C.1 C.2.1 hT hS (vp_in_nI hi (by omega)) (v := .int (f i)) (by rw [nI_clamp (by omega)]) hdg kk
def rf_min (x y : Int32) : Int32 := if y < x then y else x
def rf_max (x y : Int32) : Int32 := if x < y then y else x
def rf_absL (x : Int64) : Int64 := if 0 < x then x else -x
def rf_abs (x : Int32) : Int32 := if 0 ≤ x then x else 0 - x
theorem g_min (C : gC p s m args meth c cc nL own D ty t A) {idx : Nat} (h1 : Cond.methodLink own idx Lib.Math.min.name ∈ wsL_law) (h2 : Cond.static Lib.Math.min.name ∈ wsL_law) (h3 : Cond.initialized "java/lang/Math" ∈ wsL_law) (h4 : Cond.code Lib.Math.min.name Lib.Math.min.code 2 (some .int) ∈ wsL_law) (hl : ls.size = nL) (hf : 1 ≤ R.frames) (hlo : (rest.map fun v => v.category).sum + 13 ≤ R.locals) (hc : cells ≤ R.cells) (hs : slots ≤ R.slots) {x y : Int32} (hdg : decode cc pc = .ok (.invokestatic idx, 3))
    (kk : W p l e R s m args below meth c H locs cells slots Q (F0 m (pc + 3) ls (.int (rf_min x y) :: rest))) : W p l e R s m args below meth c H locs cells slots Q (F0 m pc ls (.int y :: .int x :: rest)) :=
  va_mmin C.1 C.2.1 (C.2.2.1.trans hl.symm) C.2.2.2.1 (C.2.2.2.2.1 _ h1) (C.2.2.2.2.1 _ h2) (C.2.2.2.2.1 _ h3) (C.2.2.2.2.1 _ h4) hf hlo hc hs hdg kk
theorem g_max (C : gC p s m args meth c cc nL own D ty t A) {idx : Nat} (h1 : Cond.methodLink own idx Lib.Math.max.name ∈ wsL_law) (h2 : Cond.static Lib.Math.max.name ∈ wsL_law) (h3 : Cond.initialized "java/lang/Math" ∈ wsL_law) (h4 : Cond.code Lib.Math.max.name Lib.Math.max.code 2 (some .int) ∈ wsL_law) (hl : ls.size = nL) (hf : 1 ≤ R.frames) (hlo : (rest.map fun v => v.category).sum + 13 ≤ R.locals) (hc : cells ≤ R.cells) (hs : slots ≤ R.slots) {x y : Int32} (hdg : decode cc pc = .ok (.invokestatic idx, 3))
    (kk : W p l e R s m args below meth c H locs cells slots Q (F0 m (pc + 3) ls (.int (rf_max x y) :: rest))) : W p l e R s m args below meth c H locs cells slots Q (F0 m pc ls (.int y :: .int x :: rest)) :=
  va_mmax C.1 C.2.1 (C.2.2.1.trans hl.symm) C.2.2.2.1 (C.2.2.2.2.1 _ h1) (C.2.2.2.2.1 _ h2) (C.2.2.2.2.1 _ h3) (C.2.2.2.2.1 _ h4) hf hlo hc hs hdg kk
theorem g_abs (C : gC p s m args meth c cc nL own D ty t A) {idx : Nat} (h1 : Cond.methodLink own idx Lib.Math.abs.name ∈ wsL_law) (h2 : Cond.static Lib.Math.abs.name ∈ wsL_law) (h3 : Cond.initialized "java/lang/Math" ∈ wsL_law) (h4 : Cond.code Lib.Math.abs.name Lib.Math.abs.code 1 (some .int) ∈ wsL_law) (hl : ls.size = nL) (hf : 1 ≤ R.frames) (hlo : (rest.map fun v => v.category).sum + 13 ≤ R.locals) (hc : cells ≤ R.cells) (hs : slots ≤ R.slots) {x : Int32} (hdg : decode cc pc = .ok (.invokestatic idx, 3))
    (kk : W p l e R s m args below meth c H locs cells slots Q (F0 m (pc + 3) ls (.int (rf_abs x) :: rest))) : W p l e R s m args below meth c H locs cells slots Q (F0 m pc ls (.int x :: rest)) :=
  va_mabs C.1 C.2.1 (C.2.2.1.trans hl.symm) C.2.2.2.1 (C.2.2.2.2.1 _ h1) (C.2.2.2.2.1 _ h2) (C.2.2.2.2.1 _ h3) (C.2.2.2.2.1 _ h4) hf hlo hc hs hdg kk
theorem g_absL (C : gC p s m args meth c cc nL own D ty t A) {idx : Nat} (h1 : Cond.methodLink own idx Lib.MathLoose.abs_long.x ∈ wsL_law) (h2 : Cond.static Lib.MathLoose.abs_long.x ∈ wsL_law) (h3 : Cond.initialized "java/lang/Math" ∈ wsL_law) (h4 : Cond.code Lib.MathLoose.abs_long.x Lib.MathLoose.abs_long.code 2 (some .long) ∈ wsL_law) (hl : ls.size = nL) (hf : 1 ≤ R.frames) (hlo : (rest.map fun v => v.category).sum + 13 ≤ R.locals) (hc : cells ≤ R.cells) (hs : slots ≤ R.slots) {x : Int64} (hdg : decode cc pc = .ok (.invokestatic idx, 3))
    (kk : W p l e R s m args below meth c H locs cells slots Q (F0 m (pc + 3) ls (.long (rf_absL x) :: rest))) : W p l e R s m args below meth c H locs cells slots Q (F0 m pc ls (.long x :: rest)) :=
  va_mabs_long C.1 C.2.1 (C.2.2.1.trans hl.symm) C.2.2.2.1 (C.2.2.2.2.1 _ h1) (C.2.2.2.2.1 _ h2) (C.2.2.2.2.1 _ h3) (C.2.2.2.2.1 _ h4) hf hlo hc hs hdg kk
end X0ROWS
theorem ra_sS {u : S0} {k i : Nat} {x : Int32} : (ra_s u k i x).1 k i = x := by
  unfold ra_s
  rw [ra_uS]
  simp [upd]
theorem ra_sN {u : S0} {k i j : Nat} {x : Int32} (h : j ≠ k) : (ra_s u k i x).1 j = u.1 j := ra_uN h
