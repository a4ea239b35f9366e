/-! lists of cells: fewer, in another order -/
theorem rd_nd {A : Nat → Prop} {ws : va_W} (h : va_D A ws) : (ws.map Prod.fst).Nodup := by
  rw [List.nodup_iff_pairwise_ne, List.pairwise_iff_getElem]
  intro i j hi hj hij
  rw [List.getElem_map, List.getElem_map]
  intro e
  rw [List.length_map] at hi hj
  have := h.1 i j _ _ (List.getElem?_eq_getElem hi) (List.getElem?_eq_getElem hj) e
  omega
theorem rd_of {A : Nat → Prop} {ws : va_W} (h : (ws.map Prod.fst).Nodup) (hA : ∀ q ∈ ws, A q.1) : va_D A ws := by
  rw [List.nodup_iff_pairwise_ne, List.pairwise_iff_getElem] at h
  refine ⟨fun i j p q hp hq e => ?_, fun k q hk => hA q (List.mem_of_getElem? hk)⟩
  obtain ⟨hi, ep⟩ := List.getElem?_eq_some_iff.mp hp
  obtain ⟨hj, eq⟩ := List.getElem?_eq_some_iff.mp hq
  rcases Nat.lt_trichotomy i j with hij | hij | hij
  · exact absurd (by rw [List.getElem_map, List.getElem_map, ep, eq]; exact e) (h i j (by rw [List.length_map]; exact hi) (by rw [List.length_map]; exact hj) hij)
  · exact hij
  · exact absurd (by rw [List.getElem_map, List.getElem_map, ep, eq]; exact e.symm) (h j i (by rw [List.length_map]; exact hj) (by rw [List.length_map]; exact hi) hij)
theorem rd_cnt {A : Nat → Prop} {ws ws' : va_W} (h : va_D A ws) (hm : ∀ q ∈ ws', ∃ x ∈ ws, x.1 = q.1) (hc : ∀ a : Nat, (ws'.map Prod.fst).count a ≤ (ws.map Prod.fst).count a) : va_D A ws' := by
  refine rd_of (List.nodup_iff_count.mpr fun a => Nat.le_trans (hc a) (List.nodup_iff_count.mp (rd_nd h) a)) (fun q hq => ?_)
  obtain ⟨x, hx, e⟩ := hm q hq
  obtain ⟨k, hk⟩ := List.getElem?_of_mem hx
  rw [← e]
  exact h.2 k x hk
theorem rp_mem {D : va_G} {cl : List vw_C} {ws ws' : va_W} {H : Heap} (h : va_P D cl ws H) (hm : ∀ q ∈ ws', q ∈ ws) : va_P D cl ws' H := fun k q hk => by
  obtain ⟨j, hj⟩ := List.getElem?_of_mem (hm q (List.mem_of_getElem? hk))
  exact h j q hj
/-! what an act does to the bounds -/
theorem rB.up {T : Nat} {u : S0} (B : rB T u) (hT : T + 1 ≤ 400) : rB (T + 1) u := by
  obtain ⟨h1, h2, h3, h4, h5, h6⟩ := B
  exact ⟨h1, hT, h3, fun c hc => by have := h4 c hc; omega, fun r hr => (h5 r hr).mono (by omega), h6⟩
theorem rB_set {T : Nat} {u : S0} {k r : Nat} {x : Int32} (B : rB T u) (hT : T + 1 ≤ 400) (hk : k < 7) (hr : r < u.2.1) (hR : rR (T + 1) (ra_s u k r x) r) : rB (T + 1) (ra_s u k r x) := by
  obtain ⟨h1, h2, h3, h4, h5, h6⟩ := B.up hT
  refine ⟨h1, h2, h3.of (ra_sN (by omega)), fun c hc => by rw [ra_sN (by omega)]; exact h4 c hc, fun q hq => ?_, fun q j hq h8 hj1 hj7 => ?_⟩
  · by_cases e : q = r
    · subst e
      exact hR
    · exact (h5 q hq).of fun j hj => ra_sO e
  · have hq : u.2.1 ≤ q := hq
    rw [ra_sO (by omega)]
    exact h6 q j hq h8 hj1 hj7
theorem one32 : (1 : Int32).toInt = 1 := rfl
theorem mv_1 {n : Nat} (h : 1 ≤ n) (h2 : n < 2147483648) : ¬ nI n < 1 := by
  rw [tI_lt, tI_nI h2, one32]
  omega
theorem rB_rate {T : Nat} {u : S0} {k : Nat} {x : Int32} (B : rB T u) (hT : T + 1 ≤ 400) (hk : k < 5) (h1 : ¬ x < rt_RX0_LEAST_RATE k) (h2 : x ≤ rt_RX0_MOST_RATE k) : rB (T + 1) (ra_s u 7 k x) := by
  obtain ⟨g1, g2, g3, g4, g5, g6⟩ := B.up hT
  rw [tI_lt] at h1
  rw [tI_le] at h2
  have e : ∀ j : Nat, (ra_s u 7 k x).1 7 j = if j = k then x else u.1 7 j := fun j => by
    by_cases ej : j = k
    · subst ej
      rw [ra_sS, if_pos rfl]
    · rw [ra_sO ej, if_neg ej]
  refine ⟨g1, g2, ?_, fun c hc => by rw [ra_sN (by decide)]; exact g4 c hc, fun r hr => (g5 r hr).of fun j hj => congrFun (ra_sN (show j ≠ 7 by omega)) r, fun r j hr h8 hj1 hj7 => by rw [ra_sN (show j ≠ 7 by omega)]; exact g6 r j hr h8 hj1 hj7⟩
  obtain ⟨v0, v1, v2, v3, v4⟩ := g3
  unfold rV
  rw [e, e, e, e, e]
  rcases (show k = 0 ∨ k = 1 ∨ k = 2 ∨ k = 3 ∨ k = 4 by omega) with rfl | rfl | rfl | rfl | rfl
  · have h1 : ¬ x.toInt < 1 := h1
    have h2 : x.toInt ≤ 40 := h2
    exact ⟨⟨by simp; omega, by simp; omega⟩, v1, v2, v3, v4⟩
  · have h1 : ¬ x.toInt < 1 := h1
    have h2 : x.toInt ≤ 99 := h2
    exact ⟨v0, ⟨by simp; omega, by simp; omega⟩, v2, v3, v4⟩
  · have h1 : ¬ x.toInt < 100 := h1
    have h2 : x.toInt ≤ 900 := h2
    exact ⟨v0, v1, ⟨by simp; omega, by simp; omega⟩, v3, v4⟩
  · have h1 : ¬ x.toInt < 0 := h1
    have h2 : x.toInt ≤ 100 := h2
    exact ⟨v0, v1, v2, ⟨by simp; omega, by simp; omega⟩, v4⟩
  · have h1 : ¬ x.toInt < 1 := h1
    have h2 : x.toInt ≤ 9 := h2
    exact ⟨v0, v1, v2, v3, ⟨by simp; omega, by simp; omega⟩⟩
theorem rB_fill {T : Nat} {u : S0} {k n : Nat} (B : rB T u) (hT : T + 1 ≤ 400) (hk : k < 3) (hn : n ≤ 500) : rB (T + 1) (ra_s u 8 k (u.1 8 k + nI n)) := by
  have b := B.2.2.2.1 k hk
  have hT0 := B.2.1
  obtain ⟨g1, g2, g3, g4, g5, g6⟩ := B.up hT
  have en : (nI n).toInt = n := tI_nI (by omega)
  have ea : (u.1 8 k + nI n).toInt = (u.1 8 k).toInt + n := by rw [tI_add (by rw [en]; omega) (by rw [en]; omega), en]
  refine ⟨g1, g2, g3.of (ra_sN (by decide)), fun c hc => ?_, fun r hr => (g5 r hr).of fun j hj => congrFun (ra_sN (show j ≠ 8 by omega)) r, fun r j hr h8 hj1 hj7 => by rw [ra_sN (show j ≠ 8 by omega)]; exact g6 r j hr h8 hj1 hj7⟩
  by_cases e : c = k
  · subst e
    rw [ra_sS, ea]
    omega
  · rw [ra_sO e]
    exact g4 c hc
theorem rB_bind {T : Nat} {u : S0} {r n : Nat} (B : rB T u) (hT : T + 1 ≤ 400) (hr : r < u.2.1) (h : ¬ 5000 < u.1 1 r) (hn : n ≤ 999) : rB (T + 1) (ra_s u 1 r (u.1 1 r + nI n)) := by
  have b := (B.up hT).2.2.2.2.1 r (Nat.lt_of_lt_of_le hr B.1)
  rw [tI_lt] at h
  have h : ¬ 5000 < (u.1 1 r).toInt := h
  obtain ⟨r0, r1, r2, r3, r4, r5, r6, r7⟩ := b
  have en : (nI n).toInt = n := tI_nI (by omega)
  have ea : (u.1 1 r + nI n).toInt = (u.1 1 r).toInt + n := by rw [tI_add (by rw [en]; omega) (by rw [en]; omega), en]
  refine rB_set B hT (by decide) hr ?_
  unfold rR
  rw [ra_sS, ra_sN (by decide), ra_sN (by decide), ra_sN (by decide), ra_sN (by decide), ra_sN (by decide), ra_sN (by decide), ea]
  exact ⟨r0, by omega, r2, r3, r4, r5, r6, r7⟩
theorem rB_lend {T : Nat} {u : S0} {r n : Nat} (B : rB T u) (hT : T + 1 ≤ 400) (hr : r < u.2.1) (h : ¬ 5000 < u.1 4 r + nI n) (hn : n ≤ 2000) : rB (T + 1) (ra_s u 4 r (u.1 4 r + nI n)) := by
  have b := (B.up hT).2.2.2.2.1 r (Nat.lt_of_lt_of_le hr B.1)
  rw [tI_lt] at h
  obtain ⟨r0, r1, r2, r3, r4, r5, r6, r7⟩ := b
  have en : (nI n).toInt = n := tI_nI (by omega)
  have ea : (u.1 4 r + nI n).toInt = (u.1 4 r).toInt + n := by rw [tI_add (by rw [en]; omega) (by rw [en]; omega), en]
  have h : ¬ 5000 < (u.1 4 r + nI n).toInt := h
  rw [ea] at h
  refine rB_set B hT (by decide) hr ?_
  unfold rR
  rw [ra_sS, ra_sN (by decide), ra_sN (by decide), ra_sN (by decide), ra_sN (by decide), ra_sN (by decide), ra_sN (by decide), ea]
  exact ⟨r0, r1, r2, r3, by omega, r5, r6, r7⟩
theorem rB_hours {T : Nat} {u : S0} {r n : Nat} (B : rB T u) (hT : T + 1 ≤ 400) (hr : r < u.2.1) (h : ¬ 99 < u.1 2 r + nI n) (hn : n ≤ 16) : rB (T + 1) (ra_s u 2 r (u.1 2 r + nI n)) := by
  have b := (B.up hT).2.2.2.2.1 r (Nat.lt_of_lt_of_le hr B.1)
  rw [tI_lt] at h
  obtain ⟨r0, r1, r2, r3, r4, r5, r6, r7⟩ := b
  have en : (nI n).toInt = n := tI_nI (by omega)
  have ea : (u.1 2 r + nI n).toInt = (u.1 2 r).toInt + n := by rw [tI_add (by rw [en]; omega) (by rw [en]; omega), en]
  have h : ¬ 99 < (u.1 2 r + nI n).toInt := h
  rw [ea] at h
  refine rB_set B hT (by decide) hr ?_
  unfold rR
  rw [ra_sS, ra_sN (by decide), ra_sN (by decide), ra_sN (by decide), ra_sN (by decide), ra_sN (by decide), ra_sN (by decide), ea]
  exact ⟨r0, r1, by omega, r3, r4, r5, r6, r7⟩
theorem rB_work {T : Nat} {u : S0} {r n : Nat} (B : rB T u) (hT : T + 1 ≤ 400) (hr : r < u.2.1) (h : ¬ 99 < u.1 2 r + nI n) (hn : n ≤ 16) : rB (T + 1) (ra_s (ra_s u 2 r (u.1 2 r + nI n)) 3 r (u.1 3 r + 1)) := by
  have b := (B.up hT).2.2.2.2.1 r (Nat.lt_of_lt_of_le hr B.1)
  have b0 := B.2.2.2.2.1 r (Nat.lt_of_lt_of_le hr B.1)
  have hT0 := B.2.1
  rw [tI_lt] at h
  obtain ⟨r0, r1, r2, r3, r4, r5, r6, r7⟩ := b
  have r30 := b0.2.2.2.1
  have en : (nI n).toInt = n := tI_nI (by omega)
  have ea : (u.1 2 r + nI n).toInt = (u.1 2 r).toInt + n := by rw [tI_add (by rw [en]; omega) (by rw [en]; omega), en]
  have el : (u.1 3 r + 1).toInt = (u.1 3 r).toInt + 1 := by rw [tI_add (by rw [one32]; omega) (by rw [one32]; omega), one32]
  have h : ¬ 99 < (u.1 2 r + nI n).toInt := h
  rw [ea] at h
  obtain ⟨g1, g2, g3, g4, g5, g6⟩ := B.up hT
  have es : ∀ j q : Nat, q ≠ r → (ra_s (ra_s u 2 r (u.1 2 r + nI n)) 3 r (u.1 3 r + 1)).1 j q = u.1 j q := fun j q hq => by rw [ra_sO hq, ra_sO hq]
  refine ⟨g1, g2, g3.of (by rw [ra_sN (by decide), ra_sN (by decide)]), fun c hc => by rw [ra_sN (by decide), ra_sN (by decide)]; exact g4 c hc, fun q hq => ?_, fun q j hq h8 hj1 hj7 => ?_⟩
  · by_cases e : q = r
    · subst e
      unfold rR
      rw [ra_sN (show (0 : Nat) ≠ 3 by decide), ra_sN (show (0 : Nat) ≠ 2 by decide), ra_sN (show (1 : Nat) ≠ 3 by decide), ra_sN (show (1 : Nat) ≠ 2 by decide), ra_sN (show (2 : Nat) ≠ 3 by decide), ra_sS, ra_sS, ra_sN (show (4 : Nat) ≠ 3 by decide), ra_sN (show (4 : Nat) ≠ 2 by decide), ra_sN (show (5 : Nat) ≠ 3 by decide), ra_sN (show (5 : Nat) ≠ 2 by decide), ra_sN (show (6 : Nat) ≠ 3 by decide), ra_sN (show (6 : Nat) ≠ 2 by decide), ea, el]
      exact ⟨r0, r1, by omega, by omega, r4, r5, r6, r7⟩
    · exact (g5 q hq).of fun j hj => es j q e
  · have hq : u.2.1 ≤ q := hq
    rw [es j q (by omega)]
    exact g6 q j hq h8 hj1 hj7
theorem rB_hire {T : Nat} {u : S0} {n : Nat} (B : rB T u) (hT : T + 1 ≤ 400) (h8 : u.2.1 < 8) (hn : n ≤ 2) : rB (T + 1) ((ra_s u 0 u.2.1 (nI n)).1, u.2.1 + 1, u.2.2) := by
  obtain ⟨g1, g2, g3, g4, g5, g6⟩ := B.up hT
  have en : (nI n).toInt = n := tI_nI (by omega)
  refine ⟨h8, g2, g3.of (show (ra_s u 0 u.2.1 (nI n)).1 7 = u.1 7 from ra_sN (by decide)), fun c hc => ?_, fun q hq => ?_, fun q j hq h8 hj1 hj7 => ?_⟩
  · show 0 ≤ ((ra_s u 0 u.2.1 (nI n)).1 8 c).toInt ∧ _
    rw [ra_sN (by decide)]
    exact g4 c hc
  · by_cases e : q = u.2.1
    · subst e
      show rR (T + 1) (ra_s u 0 u.2.1 (nI n)) u.2.1
      obtain ⟨r0, r1, r2, r3, r4, r5, r6, r7⟩ := g5 u.2.1 hq
      unfold rR
      rw [ra_sS, ra_sN (by decide), ra_sN (by decide), ra_sN (by decide), ra_sN (by decide), ra_sN (by decide), ra_sN (by decide), en]
      exact ⟨by omega, r1, r2, r3, r4, r5, r6, r7⟩
    · exact (g5 q hq).of fun j hj => (ra_sO e : (ra_s u 0 u.2.1 (nI n)).1 j q = u.1 j q)
  · have hq : u.2.1 + 1 ≤ q := hq
    show (ra_s u 0 u.2.1 (nI n)).1 j q = 0
    rw [ra_sN (show j ≠ 0 by omega)]
    exact g6 q j (by omega) h8 hj1 hj7
theorem wk_0 {u : S0} {r n : Nat} : rf_wk u r (nI n) 0 = ra_s u 2 r (u.1 2 r + nI n) := if_pos rfl
theorem wk_1 {u : S0} {r n : Nat} : rf_wk u r (nI n) 1 = ra_s (ra_s u 2 r (u.1 2 r + nI n)) 3 r (u.1 3 r + 1) := by
  unfold rf_wk
  rw [if_neg (by decide), ra_sN (show (3 : Nat) ≠ 2 by decide)]
theorem wk_s {v : S0} {k r : Nat} {x : Int32} (h : x = v.1 k r) : ra_s v k r x = v := ra_ext (fun a b => by
  rw [ra_sv]
  split
  · rename_i e
    rw [e.1, e.2, h]
  · rfl) rfl
theorem i32_0 (a : Int32) : a + 0 = a := by grind
theorem pay_eq {T : Nat} {u : S0} (B : rB T u) : ((rf_py u u.2.1).2.1, (rf_py u u.2.1).2.2.1, (rf_py u u.2.1).2.2.2 + 1) = rf_pay u := by
  unfold rf_pay
  rw [(pyI_py B u.2.1 (Nat.le_refl _)).1]
/-! a new reaper -/
abbrev hr_X (cR : ClassId) (n : Nat) (z : SA) (m9 q : Nat) (x : Int32) : va_W := [(m9, .inl (cR, n + 1, .inr (.inr (.inr (.inr (fun k => if k < n + 1 then some ((fun k => if k = n then q else z.2.1 k) k) else none)))))), (q, .inr (1, [.int x, .int 0, .int 0, .int 0, .int 0, .int 0, .int 0]))]
theorem hr_S {D : va_G} {A : Nat → Prop} {s : State} {cI cR : ClassId} {o ob : Nat} {ad : Nat → Nat} {z : SA} {u : S0} {T m9 q : Nat} {x : Int32} {H : Heap} {locs : List Loc} (B : rB T u) (h8 : u.2.1 < 8)
    (hP : va_P D vwCl ((rs_w cI cR o z u ++ (ra_w cI ob ad u ++ hr_X cR u.2.1 z m9 q x)).set 0 ((o, .inr (2, [.int u.2.2, .ref (z.1 0), .ref (z.1 1), .ref m9, va_rf z.2.2])) : Nat × va_E)) H)
    (hD : va_D A ((rs_w cI cR o z u ++ (ra_w cI ob ad u ++ hr_X cR u.2.1 z m9 q x)).set 0 ((o, .inr (2, [.int u.2.2, .ref (z.1 0), .ref (z.1 1), .ref m9, va_rf z.2.2])) : Nat × va_E))) (hS : va_S A s.heap H locs) :
    sS D A s cI cR o (fun k => if k = 2 then m9 else z.1 k, fun k => if k = u.2.1 then q else z.2.1 k, z.2.2) ((ra_s u 0 u.2.1 x).1, u.2.1 + 1, u.2.2) (ra_w cI ob ad u) H locs := by
  have ef : fam (u.2.1 + 1) (rq_e (fun k => if k = 2 then m9 else z.1 k, fun k => if k = u.2.1 then q else z.2.1 k, z.2.2) ((ra_s u 0 u.2.1 x).1, u.2.1 + 1, u.2.2)) = fam u.2.1 (rq_e z u) ++ [(q, .inr (1, [.int x, .int 0, .int 0, .int 0, .int 0, .int 0, .int 0]))] := by
    rw [fam_succ]
    refine congr (congrArg _ (fam_congr fun k hk => ?_)) ?_
    · show ((if k = u.2.1 then q else z.2.1 k), (.inr (1, rq_f (ra_s u 0 u.2.1 x) k) : va_E)) = (z.2.1 k, .inr (1, rq_f u k))
      rw [if_neg (by omega), rq_fo (by omega)]
    · show [((if u.2.1 = u.2.1 then q else z.2.1 u.2.1), (.inr (1, rq_f (ra_s u 0 u.2.1 x) u.2.1) : va_E))] = _
      have z0 := fun k h1 h7 => B.2.2.2.2.2 u.2.1 k (Nat.le_refl _) h8 h1 h7
      rw [if_pos rfl, rq_fs (by decide)]
      unfold rq_f
      rw [z0 1 (by decide) (by decide), z0 2 (by decide) (by decide), z0 3 (by decide) (by decide), z0 4 (by decide) (by decide), z0 5 (by decide) (by decide), z0 6 (by decide) (by decide)]
      rfl
  have h1 : va_P D vwCl ([(o, .inr (2, [.int u.2.2, .ref (z.1 0), .ref (z.1 1), .ref m9, va_rf z.2.2])), (z.1 0, .inl (cI, 5, .inl (u.1 7))), (z.1 1, .inl (cI, 3, .inl (u.1 8)))] ++ ((m9, .inl (cR, u.2.1 + 1, .inr (.inr (.inr (.inr (fun k => if k < u.2.1 + 1 then some ((fun k => if k = u.2.1 then q else z.2.1 k) k) else none)))))) :: ((fam u.2.1 (rq_e z u) ++ [(q, .inr (1, [.int x, .int 0, .int 0, .int 0, .int 0, .int 0, .int 0]))]) ++ ra_w cI ob ad u))) H := by
    refine rp_mem hP (fun y hy => ?_)
    show y ∈ (o, _) :: (z.1 0, _) :: (z.1 1, _) :: (z.1 2, _) :: (fam u.2.1 (rq_e z u) ++ (ra_w cI ob ad u ++ [(m9, _), (q, _)]))
    simp only [List.mem_append, List.mem_cons, List.not_mem_nil, or_false] at hy ⊢
    rcases hy with (h | h | h) | h | (h | h) | h
    · exact Or.inl h
    · exact Or.inr (Or.inl h)
    · exact Or.inr (Or.inr (Or.inl h))
    · exact Or.inr (Or.inr (Or.inr (Or.inr (Or.inr (Or.inr (Or.inl h))))))
    · exact Or.inr (Or.inr (Or.inr (Or.inr (Or.inl h))))
    · exact Or.inr (Or.inr (Or.inr (Or.inr (Or.inr (Or.inr (Or.inr h))))))
    · exact Or.inr (Or.inr (Or.inr (Or.inr (Or.inr (Or.inl h)))))
  have h2 := va_P.ren (g := fun k => some ((fun k => if k = u.2.1 then q else z.2.1 k) k)) h1 (fun k hk => if_pos hk)
  have ew : rs_w cI cR o (fun k => if k = 2 then m9 else z.1 k, fun k => if k = u.2.1 then q else z.2.1 k, z.2.2) ((ra_s u 0 u.2.1 x).1, u.2.1 + 1, u.2.2) ++ ra_w cI ob ad u = [(o, .inr (2, [.int u.2.2, .ref (z.1 0), .ref (z.1 1), .ref m9, va_rf z.2.2])), (z.1 0, .inl (cI, 5, .inl (u.1 7))), (z.1 1, .inl (cI, 3, .inl (u.1 8)))] ++ ((m9, .inl (cR, u.2.1 + 1, .inr (.inr (.inr (.inr (fun k => some ((fun k => if k = u.2.1 then q else z.2.1 k) k))))))) :: ((fam u.2.1 (rq_e z u) ++ [(q, .inr (1, [.int x, .int 0, .int 0, .int 0, .int 0, .int 0, .int 0]))]) ++ ra_w cI ob ad u)) := by
    unfold rs_w
    rw [ef]
    show rs_h cI cR o _ _ ++ _ ++ _ = _
    unfold rs_h rs_f
    rw [show ((ra_s u 0 u.2.1 x).1, u.2.1 + 1, u.2.2).1 7 = u.1 7 from (ra_sN (show (7 : Nat) ≠ 0 by decide) : (ra_s u 0 u.2.1 x).1 7 = u.1 7), show ((ra_s u 0 u.2.1 x).1, u.2.1 + 1, u.2.2).1 8 = u.1 8 from (ra_sN (show (8 : Nat) ≠ 0 by decide) : (ra_s u 0 u.2.1 x).1 8 = u.1 8)]
    rfl
  refine ⟨by rw [ew]; exact h2, ?_, hS⟩
  rw [ew]
  refine rd_cnt hD (fun y hy => ?_) (fun a => ?_)
  · show ∃ y' ∈ (o, _) :: (z.1 0, _) :: (z.1 1, _) :: (z.1 2, _) :: (fam u.2.1 (rq_e z u) ++ (ra_w cI ob ad u ++ [(m9, _), (q, _)])), _
    simp only [List.mem_append, List.mem_cons, List.not_mem_nil, or_false] at hy ⊢
    rcases hy with (h | h | h) | h | (h | h) | h
    · exact ⟨_, Or.inl rfl, by rw [h]⟩
    · exact ⟨_, Or.inr (Or.inl rfl), by rw [h]⟩
    · exact ⟨_, Or.inr (Or.inr (Or.inl rfl)), by rw [h]⟩
    · exact ⟨_, Or.inr (Or.inr (Or.inr (Or.inr (Or.inr (Or.inr (Or.inl rfl)))))), by rw [h]⟩
    · exact ⟨y, Or.inr (Or.inr (Or.inr (Or.inr (Or.inl h)))), rfl⟩
    · exact ⟨_, Or.inr (Or.inr (Or.inr (Or.inr (Or.inr (Or.inr (Or.inr rfl)))))), by rw [h]⟩
    · exact ⟨y, Or.inr (Or.inr (Or.inr (Or.inr (Or.inr (Or.inl h))))), rfl⟩
  · show _ ≤ List.count a (List.map Prod.fst ((o, _) :: (z.1 0, _) :: (z.1 1, _) :: (z.1 2, _) :: (fam u.2.1 (rq_e z u) ++ (ra_w cI ob ad u ++ [(m9, _), (q, _)]))))
    simp only [List.map_append, List.map_cons, List.map_nil, List.count_append, List.count_cons, List.count_nil]
    omega
