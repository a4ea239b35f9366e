section X1NEW
variable {p : Program} {l : Launch} {e : Env} {R : Room} {s : State} {m : MethodId} {args : Array Value} {below : List Frame} {meth : Method} {c : Code} {H : Heap} {locs : List Loc} {cells slots : Nat} {Q : State → Prop}
variable {cc : ByteArray} {nL pc : Nat} {ls : Array Slot} {rest : List Value} {D : va_G} {cI : ClassId} {t : Nat → Nat} {A : Nat → Prop} {own : String} {ws : va_W}
/-- a new row of numbers -/
theorem g_newa (C : gC p s m args meth c cc nL own D [(cI, .int)] t A) (hP : va_P D vwCl ws H) (hD : va_D A ws) (hS : va_S A s.heap H locs) {n : Int32} {N : Nat} (hn : n = nI N) (hN : N ≤ 1000) (hq : Cond.arrayClass .int ∈ wsL_law) {cells' slots' : Nat} (hc : cells + 1 = cells') (hs : slots + N = slots') (hRc : cells' ≤ R.cells) (hRs : slots' ≤ R.slots) (hdg : decode cc pc = .ok (.newarray .int, 2))
    (kk : ∀ (q : Nat) (H1 : Heap), va_P D vwCl (ws ++ [(q, .inl (cI, N, .inl (fun _ => 0)))]) H1 → va_D A (ws ++ [(q, .inl (cI, N, .inl (fun _ => 0)))]) → va_S A s.heap H1 locs → W p l e R s m args below meth c H1 locs cells' slots' Q (F0 m (pc + 2) ls (.ref q :: rest))) : W p l e R s m args below meth c H locs cells slots Q (F0 m pc ls (.int n :: rest)) := by
  subst hn
  subst hc
  subst hs
  refine va_newa (D := D) (atype := .int) (ty := .int) (a0 := (N, .inl (fun _ => 0))) C.1 C.2.1 (C.2.2.2.2.1 _ hq) rfl C.2.2.2.2.2.1 hP hD hS C.2.2.2.2.2.2.1 (fun _ => rfl) (nI_pos (by omega)) (nI_clamp (by omega)) (by show N * 4 ≤ 536870912; omega) hRc hRs hdg (fun q cA H1 hK1 hP1 hD1 hS1 => ?_)
  have e1 := (hK1.2 0 (cI, .int) rfl).2
  have e2 := (hK1.2 1 (cA, .int) rfl).2
  have e3 : cI = cA := Option.some.inj (e1.symm.trans e2)
  subst e3
  exact kk q H1 hP1 hD1 hS1
/-- a store into the row at place k -/
theorem g_st (C : gC p s m args meth c cc nL own D [(cI, .int)] t A) (hP : va_P D vwCl ws H) (hD : va_D A ws) (hS : va_S A s.heap H locs) (k : Nat) {a n i : Nat} {f : Nat → Int32} {i0 x : Int32} (ha : ws[k]? = some (a, .inl (cI, n, .inl f))) (hi : i < n) (hn : n ≤ 1000) (h0 : i0 = nI i) (hdg : decode cc pc = .ok (.iastore, 1))
    (kk : ∀ (H1 : Heap) (locs1 : List Loc), va_P D vwCl (ws.set k (a, .inl (cI, n, .inl (upd f i x)))) H1 → va_D A (ws.set k (a, .inl (cI, n, .inl (upd f i x)))) → va_S A s.heap H1 locs1 → W p l e R s m args below meth c H1 locs1 cells slots Q (F0 m (pc + 1) ls rest)) : W p l e R s m args below meth c H locs cells slots Q (F0 m pc ls (.int x :: .int i0 :: .ref a :: rest)) := by
  subst h0
  refine va_iast (D := D) C.1 C.2.1 C.2.2.2.2.2.1 hP hD hS k 0 ha rfl (vp_in_nI hi (by omega)) hdg (fun H1 locs1 hP1 hD1 hS1 => ?_)
  rw [nI_clamp (by omega)] at hP1 hD1
  exact kk H1 locs1 hP1 hD1 hS1
end X1NEW
section NNEW
variable {p : Program} {l : Launch} {e : Env} {R : Room} {s : State} {m : MethodId} {args : Array Value} {below : List Frame} {meth : Method} {c : Code} {H : Heap} {locs : List Loc} {cells slots : Nat} {Q : State → Prop}
variable {cc : ByteArray} {nL pc : Nat} {ls : Array Slot} {rest : List Value} {D : va_G} {cI : ClassId} {t : Nat → Nat} {A : Nat → Prop} {own : String} {ws : va_W} {ty : List (ClassId × FieldType)}
/-- a new row of numbers -/
theorem n_new (h0 : ty[0]? = some (cI, .int)) (C : gC p s m args meth c cc nL own D ty t A) (hP : va_P D vwCl ws H) (hD : va_D A ws) (hS : va_S A s.heap H locs) {n : Int32} {N : Nat} (hn : n = nI N) (hN : N ≤ 1000) (hq : Cond.arrayClass .int ∈ wsL_law) {cells' slots' : Nat} (hc : cells + 1 = cells') (hs : slots + N = slots') (hRc : cells' ≤ R.cells) (hRs : slots' ≤ R.slots) (hdg : decode cc pc = .ok (.newarray .int, 2))
    (kk : ∀ (q : Nat) (H1 : Heap), va_P D vwCl (ws ++ [(q, .inl (cI, N, .inl (fun _ => 0)))]) H1 → va_D A (ws ++ [(q, .inl (cI, N, .inl (fun _ => 0)))]) → va_S A s.heap H1 locs → W p l e R s m args below meth c H1 locs cells' slots' Q (F0 m (pc + 2) ls (.ref q :: rest))) : W p l e R s m args below meth c H locs cells slots Q (F0 m pc ls (.int n :: rest)) := by
  subst hn
  subst hc
  subst hs
  refine va_newa (D := D) (atype := .int) (ty := .int) (a0 := (N, .inl (fun _ => 0))) C.1 C.2.1 (C.2.2.2.2.1 _ hq) rfl C.2.2.2.2.2.1 hP hD hS C.2.2.2.2.2.2.1 (fun _ => rfl) (nI_pos (by omega)) (nI_clamp (by omega)) (by show N * 4 ≤ 536870912; omega) hRc hRs hdg (fun q cA H1 hK1 hP1 hD1 hS1 => ?_)
  have e1 := (C.2.2.2.2.2.1.2 0 (cI, .int) h0).2
  have e2 := (hK1.2 ty.length (cA, .int) (by rw [List.getElem?_append_right (Nat.le_refl _), Nat.sub_self]; rfl)).2
  have e3 : cI = cA := Option.some.inj (e1.symm.trans e2)
  subst e3
  exact kk q H1 hP1 hD1 hS1
/-- a store into the row at place k -/
theorem n_st (hty : ty[0]? = some (cI, .int)) (C : gC p s m args meth c cc nL own D ty t A) (hP : va_P D vwCl ws H) (hD : va_D A ws) (hS : va_S A s.heap H locs) (k : Nat) {a n i : Nat} {f : Nat → Int32} {i0 x : Int32} (ha : ws[k]? = some (a, .inl (cI, n, .inl f))) (hi : i < n) (hn : n ≤ 1000) (h0 : i0 = nI i) (hdg : decode cc pc = .ok (.iastore, 1))
    (kk : ∀ (H1 : Heap) (locs1 : List Loc), va_P D vwCl (ws.set k (a, .inl (cI, n, .inl (upd f i x)))) H1 → va_D A (ws.set k (a, .inl (cI, n, .inl (upd f i x)))) → va_S A s.heap H1 locs1 → W p l e R s m args below meth c H1 locs1 cells slots Q (F0 m (pc + 1) ls rest)) : W p l e R s m args below meth c H locs cells slots Q (F0 m pc ls (.int x :: .int i0 :: .ref a :: rest)) := by
  subst h0
  refine va_iast (D := D) C.1 C.2.1 C.2.2.2.2.2.1 hP hD hS k 0 ha hty (vp_in_nI hi (by omega)) hdg (fun H1 locs1 hP1 hD1 hS1 => ?_)
  rw [nI_clamp (by omega)] at hP1 hD1
  exact kk H1 locs1 hP1 hD1 hS1
theorem n_ld (hty : ty[0]? = some (cI, .int)) (C : gC p s m args meth c cc nL own D ty t A) (hP : va_P D vwCl ws H) (k : Nat) {a n i : Nat} {f : Nat → Int32} {i0 : Int32} (ha : ws[k]? = some (a, .inl (cI, n, .inl f))) (hi : i < n) (hn : n ≤ 1000) (h0 : i0 = nI i) (hdg : decode cc pc = .ok (.iaload, 1))
    (kk : W p l e R s m args below meth c H locs cells slots Q (F0 m (pc + 1) ls (.int (f i) :: rest))) : W p l e R s m args below meth c H locs cells slots Q (F0 m pc ls (.int i0 :: .ref a :: rest)) := by
  subst h0
  exact va_iald (D := D) C.1 C.2.1 C.2.2.2.2.2.1 hP k 0 ha hty (vp_in_nI hi (by omega)) hdg (by rw [nI_clamp (by omega)]; exact kk)
end NNEW
def gMd (l : Launch) (y : MethodName) (ws : List Cond) (rm : Room) (av : List Value) (D : va_G) (ty : List (ClassId × FieldType)) (t : Nat → Nat) (w : va_W) (sz : Nat) (post : UInt64 → va_W → Prop) : Prop := Met l y ws rm (va_Pc av (gP D ty t w sz)) (va_Qd post (fun w' U => gQ D (va_A w sz) w' U) (va_A w sz)) rm.cells rm.slots (va_A w sz)
theorem g_dret {p : Program} {l : Launch} {e : Env} {R : Room} {s : State} {m : MethodId} {args : Array Value} {below : List Frame} {meth : Method} {c : Code} {H : Heap} {locs : List Loc} {cells slots : Nat} {cc : ByteArray} {nL pc : Nat} {ls : Array Slot} {own : String} {D : va_G} {ty : List (ClassId × FieldType)} {t : Nat → Nat} {A : Nat → Prop} {w' : va_W} {post : UInt64 → va_W → Prop} {v : UInt64} (C : gC p s m args meth c cc nL own D ty t A) (hr : meth.sig.returnType = some .double) (hP : va_P D vwCl w' H) (hD : va_D A w') (hS : va_S A s.heap H locs) (hdg : decode cc pc = .ok (.dreturn, 1)) (hpost : post v w') :
    W p l e R s m args below meth c H locs cells slots (MQ below (va_Qd post (fun w' U => gQ D A w' U) A) args s cells slots A) (F0 m pc ls [.double v]) :=
  W.dret C.1 C.2.1 hr (fun t ht hW => ⟨⟨v, w', rfl, hpost, by rw [ht]; exact hP, hD⟩, hS.F ht⟩) hS.2.2 hdg C.2.2.2.2.2.2.2.2
theorem g_cd {p : Program} {l : Launch} {e : Env} {R : Room} {s : State} {m : MethodId} {args : Array Value} {below : List Frame} {meth : Method} {c : Code} {H : Heap} {locs : List Loc} {cells slots : Nat} {Q : State → Prop} {cc : ByteArray} {nL pc : Nat} {ls : Array Slot} {own : String} {D : va_G} {ty : List (ClassId × FieldType)} {t : Nat → Nat} {A : Nat → Prop} {wr wc : va_W} {rest st0 : List Value} {mc ms : Nat} {a : Array Value} {post : UInt64 → va_W → Prop} {cells' slots' : Nat} (hc : cells + mc = cells') (hs : slots + ms = slots') (C : gC p s m args meth c cc nL own D ty t A) (hPr : va_P D vwCl wr H) (hD : va_D A (wr ++ wc)) (hS : va_S A s.heap H locs) (hr : va_Run p l e R s m args below meth c H locs cells slots mc ms (F0 m pc ls st0) rest (va_Qd post (fun w' U => gQ D (va_A wc H.size) w' U) (va_A wc H.size) a) (va_A wc H.size))
    (kk : ∀ (r : UInt64) (w' : va_W) (H1 : Heap) (locs1 : List Loc), post r w' → H.size ≤ H1.size → va_P D vwCl wr H1 → va_P D vwCl w' H1 → va_D A (wr ++ w') → va_S A s.heap H1 locs1 → W p l e R s m args below meth c H1 locs1 cells' slots' Q (F0 m (pc + 3) ls (.double r :: rest))) : W p l e R s m args below meth c H locs cells slots Q (F0 m pc ls st0) := by
  subst hc
  subst hs
  have hF := rd_AA (rd_right hD) C.2.2.2.2.2.2.1 hS.1
  refine va_calld hr hS (fun q _ h => hF q h) hF (fun r w' t H1 locs1 ht _ hp hB hz hk hS1 => ?_)
  obtain ⟨b1, b2⟩ := hB
  rw [ht] at b1
  obtain ⟨c1, c2⟩ := rd_frame hPr hD hF hk b2
  exact kk r w' H1 locs1 hp hz c1 b1 c2 hS1
theorem bl_and (v : Int32) : 0 ≤ (v &&& 2147483647).toInt := by
  have h : (v &&& 2147483647).toBitVec.msb = false := by
    rw [Int32.toBitVec_and, BitVec.msb_and, show (2147483647 : Int32).toBitVec.msb = false from by decide +kernel, Bool.and_false]
  have e : (v &&& 2147483647).toInt = ((v &&& 2147483647).toBitVec.toNat : Int) := BitVec.toInt_eq_toNat_of_msb h
  omega
/-- what below answers -/
theorem bl_r (v : Int32) {n : Nat} (h0 : 0 < n) (h1 : n < 2147483648) : ∃ j : Nat, j < n ∧ (v &&& 2147483647) - (v &&& 2147483647) / nI n * nI n = nI j := by
  have a := bl_and v
  have e := rem_toInt (v &&& 2147483647) (nI n)
  rw [tI_nI h1, Int.tmod_eq_emod_of_nonneg a] at e
  have b0 := Int.emod_nonneg (v &&& 2147483647).toInt (show (n : Int) ≠ 0 by omega)
  have b1 := Int.emod_lt_of_pos (v &&& 2147483647).toInt (show 0 < (n : Int) by omega)
  refine ⟨((v &&& 2147483647).toInt % n).toNat, by omega, ?_⟩
  rw [tI_eq, e, tI_nI (by omega)]
  omega
/-- the answers of rate -/
def rl_low : Nat → Int32 := upd (upd (upd (upd (upd (fun _ => 0) 0 1) 1 1) 2 100) 3 0) 4 1
def rl_many : Nat → Int32 := upd (upd (upd (upd (upd (fun _ => 0) 0 40) 1 99) 2 801) 3 101) 4 9
def rl_mN (k : Nat) : Nat := match k with
  | 0 => 40
  | 1 => 99
  | 2 => 801
  | 3 => 101
  | _ => 9
theorem rl_mn {k : Nat} (hk : k < 5) : rl_many k = nI (rl_mN k) ∧ 0 < rl_mN k ∧ rl_mN k < 2147483648 := by
  rcases (show k = 0 ∨ k = 1 ∨ k = 2 ∨ k = 3 ∨ k = 4 by omega) with rfl | rfl | rfl | rfl | rfl <;> exact ⟨by decide +kernel, by decide, by decide⟩
theorem rl_rt {k j : Nat} (hk : k < 5) (hj : j < rl_mN k) : ¬ (rl_low k + nI j < rt_RX0_LEAST_RATE k) ∧ rl_low k + nI j ≤ rt_RX0_MOST_RATE k := by
  have e : ∀ (a b m : Int32), 0 ≤ a.toInt → a.toInt ≤ 100 → j < 801 → b = a → a.toInt + j ≤ m.toInt → ¬ (a + nI j < b) ∧ a + nI j ≤ m := by
    intro a b m h0 h1 h2 h3 h4
    have ej : (nI j).toInt = j := tI_nI (by omega)
    have ea : (a + nI j).toInt = a.toInt + j := by rw [tI_add (by rw [ej]; omega) (by rw [ej]; omega), ej]
    subst h3
    rw [tI_lt, tI_le, ea]
    omega
  rcases (show k = 0 ∨ k = 1 ∨ k = 2 ∨ k = 3 ∨ k = 4 by omega) with rfl | rfl | rfl | rfl | rfl
  · have hj : j < 40 := hj
    exact e 1 1 40 (by decide) (by decide) (by omega) rfl (by show (1 : Int) + j ≤ 40; omega)
  · have hj : j < 99 := hj
    exact e 1 1 99 (by decide) (by decide) (by omega) rfl (by show (1 : Int) + j ≤ 99; omega)
  · have hj : j < 801 := hj
    exact e 100 100 900 (by decide) (by decide) (by omega) rfl (by show (100 : Int) + j ≤ 900; omega)
  · have hj : j < 101 := hj
    exact e 0 0 100 (by decide) (by decide) (by omega) rfl (by show (0 : Int) + j ≤ 100; omega)
  · have hj : j < 9 := hj
    exact e 1 1 9 (by decide) (by decide) (by omega) rfl (by show (1 : Int) + j ≤ 9; omega)
