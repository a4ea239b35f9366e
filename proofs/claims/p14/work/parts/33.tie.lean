/-! THE CLASS'S METHODS THAT ONLY LOOK leave what the ties speak of -/
def ra_E (u u' : S0) : Prop := u'.2.1 = u.2.1 ∧ u'.1 1 = u.1 1 ∧ u'.1 2 = u.1 2 ∧ u'.1 7 = u.1 7
theorem ra_E0 {u : S0} : ra_E u u := ⟨rfl, rfl, rfl, rfl⟩
theorem ra_E.tr {a b c : S0} (h : ra_E a b) (k : ra_E b c) : ra_E a c := ⟨k.1.trans h.1, k.2.1.trans h.2.1, k.2.2.1.trans h.2.2.1, k.2.2.2.trans h.2.2.2⟩
theorem ra_Es {u : S0} {k i : Nat} {x : Int32} (h : k ≠ 1 ∧ k ≠ 2 ∧ k ≠ 7) : ra_E u (ra_s u k i x) := ⟨rfl, ra_sN (Ne.symm h.1), ra_sN (Ne.symm h.2.1), ra_sN (Ne.symm h.2.2)⟩
theorem rf_cpE {u : S0} {a b : Nat} (h : b ≠ 1 ∧ b ≠ 2 ∧ b ≠ 7) : ∀ n, ra_E u (rf_cp u a b n)
  | 0 => ra_E0
  | n + 1 => (rf_cpE h n).tr (ra_Es h)
theorem rf_hoE {u : S0} {k : Nat} {x : Int32} (h : k ≠ 1 ∧ k ≠ 2 ∧ k ≠ 7) : ∀ n, ra_E u (rf_ho u k x n).2
  | 0 => ra_E0
  | n + 1 => (rf_hoE h n).tr ((ra_Es h).tr (ra_Es (by decide)))
theorem rf_hsE {u : S0} {k : Nat} {x : Int32} (h : k ≠ 1 ∧ k ≠ 2 ∧ k ≠ 7) : ra_E u (rf_hs u k x) := rf_hoE h 3
theorem rf_ciE {u : S0} : ∀ n, ra_E u (rf_ci u n)
  | 0 => ra_E0
  | n + 1 => (rf_ciE n).tr (rf_hsE (by decide))
theorem rf_csE {u : S0} {r : Nat} : ra_E u (rf_cs u r) := (rf_cpE (by decide) 3).tr (rf_ciE (r + 1))
theorem rf_lkE {u : S0} : ∀ n, ra_E u (rf_lk u n).2
  | 0 => ra_E0
  | n + 1 => (rf_lkE n).tr (rf_hsE (by decide))
theorem rf_dcE {u : S0} {r : Nat} {d : Int64} : ∀ n, ra_E u (rf_dc u r d n).2
  | 0 => ra_E0
  | n + 1 => (rf_dcE n).tr rf_csE
theorem rf_drE {u : S0} {d : Int64} : ∀ n, ra_E u (rf_dr u d n).2
  | 0 => ra_E0
  | n + 1 => (rf_drE n).tr (rf_dcE 3)
theorem rf_wdE {u : S0} {k : Nat} {x : Int32} : ra_E u (rf_wd u k x) := (rf_cpE (by decide) 5).tr (ra_Es (by decide))
/-- a week is paid: the first n have no sheaves and hours any more -/
def ra_R (u u' : S0) (n : Nat) : Prop := u'.2.1 = u.2.1 ∧ u'.1 7 = u.1 7 ∧ (∀ j, n ≤ j → u'.1 1 j = u.1 1 j ∧ u'.1 2 j = u.1 2 j) ∧ ∀ j, j < n → u'.1 1 j = 0 ∧ u'.1 2 j = 0
theorem rf_s3E {u : S0} {r : Nat} : ra_E u (rf_s3 u r) := (rf_hsE (by decide)).tr ((ra_Es (by decide)).tr ((ra_Es (by decide)).tr (ra_Es (by decide))))
theorem ra_sU {u : S0} {k i : Nat} {x : Int32} : (ra_s u k i x).1 k = upd (u.1 k) i x := ra_uS
theorem rf_stR {u : S0} {r : Nat} : (rf_st u r).2.1 = u.2.1 ∧ (rf_st u r).1 7 = u.1 7 ∧ (rf_st u r).1 1 = upd (u.1 1) r 0 ∧ (rf_st u r).1 2 = upd (u.1 2) r 0 := by
  have h := rf_s3E (u := u) (r := r)
  unfold rf_st
  refine ⟨h.1, ?_, ?_, ?_⟩
  · rw [ra_sN (by decide), ra_sN (by decide), ra_sN (by decide)]; exact h.2.2.2
  · rw [ra_sN (by decide), ra_sN (by decide), ra_sU, h.2.1]
  · rw [ra_sN (by decide), ra_sU, ra_sN (by decide), h.2.2.1]
theorem rf_pyR {u : S0} : ∀ n, ra_R u (rf_py u n).2 n
  | 0 => ⟨rfl, rfl, fun _ _ => ⟨rfl, rfl⟩, fun _ h => absurd h (Nat.not_lt_zero _)⟩
  | n + 1 => by
    obtain ⟨a1, a2, a3, a4⟩ := rf_pyR (u := u) n
    obtain ⟨b1, b2, b3, b4⟩ := rf_stR (u := (rf_py u n).2) (r := n)
    refine ⟨b1.trans a1, b2.trans a2, fun j hj => ?_, fun j hj => ?_⟩
    · show (rf_st (rf_py u n).2 n).1 1 j = _ ∧ (rf_st (rf_py u n).2 n).1 2 j = _
      rw [b3, b4]
      have hn : j ≠ n := by omega
      simp only [upd, hn, if_false]
      exact a3 j (by omega)
    · show (rf_st (rf_py u n).2 n).1 1 j = _ ∧ (rf_st (rf_py u n).2 n).1 2 j = _
      rw [b3, b4]
      by_cases hn : j = n
      · simp [upd, hn]
      · simp only [upd, hn, if_false]
        exact a4 j (by omega)
/-- THE TIE of both sides: as many reapers, the same rates, sheaves and hours; the part that is taken back is a divisor -/
def lTie (u : S0) (v : S1) : Prop := u.2.1 = v.2.1 ∧ v.2.1 ≤ 8 ∧ u.1 7 = v.1 0 ∧ (∀ r, r < 8 → u.1 1 r = v.1 2 (7 * r + 1) ∧ u.1 2 r = v.1 2 (7 * r + 2)) ∧ ¬ v.1 0 4 = 0
theorem lTie.E {u u' : S0} {v v' : S1} (h : lTie u v) (a : ra_E u u') (b : rb_E v v') : lTie u' v' := by
  obtain ⟨h1, h2, h3, h4, h5⟩ := h
  refine ⟨by rw [a.1, b.1]; exact h1, by rw [b.1]; exact h2, by rw [a.2.2.2, b.2.1]; exact h3, fun r hr => ?_, by rw [b.2.1]; exact h5⟩
  rw [a.2.1, a.2.2.1, (b.2.2 r hr).1, (b.2.2 r hr).2]
  exact h4 r hr
theorem lTie.R {u u' : S0} {v v' : S1} (h : lTie u v) (a : ra_R u u' u.2.1) (b : rb_R v v' v.2.1) : lTie u' v' := by
  obtain ⟨h1, h2, h3, h4, h5⟩ := h
  obtain ⟨a1, a2, a3, a4⟩ := a
  obtain ⟨b1, b2, b3, b4, b5⟩ := b
  refine ⟨by rw [a1, b1]; exact h1, by rw [b1]; exact h2, by rw [a2, b3]; exact h3, fun r hr => ?_, by rw [b3]; exact h5⟩
  by_cases hc : r < v.2.1
  · obtain ⟨c1, c2⟩ := a4 r (by omega)
    obtain ⟨c3, c4⟩ := b5 r hc
    rw [c1, c2, c3, c4]
    exact ⟨rfl, rfl⟩
  · obtain ⟨c1, c2⟩ := a3 r (by omega)
    rw [c1, c2, b4 _ (by omega), b4 _ (by omega)]
    exact h4 r hr
theorem rb_sU {v : S1} {k i : Nat} {x : Int32} : (rb_s v k i x).1 k = upd (v.1 k) i x := rb_uS
theorem lTie.hire {u : S0} {v : S1} {x : Int32} (h : lTie u v) (h8 : v.2.1 < 8) : lTie ((ra_s u 0 u.2.1 x).1, u.2.1 + 1, u.2.2) ((rb_s (rb_t v 0) 2 (7 * v.2.1 + 0) x).1, v.2.1 + 1, (rb_t v 0).2.2) := by
  obtain ⟨h1, h2, h3, h4, h5⟩ := h
  refine ⟨by show u.2.1 + 1 = v.2.1 + 1; rw [h1], h8, h3, fun r hr => ?_, h5⟩
  show u.1 1 r = (rb_s (rb_t v 0) 2 (7 * v.2.1 + 0) x).1 2 (7 * r + 1) ∧ u.1 2 r = (rb_s (rb_t v 0) 2 (7 * v.2.1 + 0) x).1 2 (7 * r + 2)
  rw [rb_sO (by omega), rb_sO (by omega)]
  exact h4 r hr
theorem lTie.rate {u : S0} {v : S1} {k : Nat} {x : Int32} (h : lTie u v) (hx : k = 4 → ¬ x = 0) : lTie (ra_s u 7 k x) (rb_s (rb_t v 0) 0 k x) := by
  obtain ⟨h1, h2, h3, h4, h5⟩ := h
  refine ⟨h1, h2, ?_, fun r hr => h4 r hr, ?_⟩
  · rw [ra_sU, rb_sU]
    show upd (u.1 7) k x = upd (v.1 0) k x
    rw [h3]
  · rw [rb_sU]
    by_cases hk : k = 4
    · simp only [upd, hk, if_true]
      exact hx hk
    · simp only [upd, Ne.symm hk, if_false]
      exact h5
theorem lTie.bind {u : S0} {v : S1} {r : Nat} {x : Int32} (h : lTie u v) (hr : r < 8) : lTie (ra_s u 1 r (u.1 1 r + x)) (rb_s (rb_t v 0) 2 (7 * r + 1) (v.1 2 (7 * r + 1) + x)) := by
  obtain ⟨h1, h2, h3, h4, h5⟩ := h
  refine ⟨h1, h2, h3, fun j hj => ?_, h5⟩
  rw [ra_sU, ra_sN (by decide)]
  by_cases hk : j = r
  · subst hk
    rw [rb_sS, rb_sO (by omega)]
    simp only [upd, if_true]
    exact ⟨by rw [(h4 j hj).1], (h4 j hj).2⟩
  · rw [rb_sO (by omega), rb_sO (by omega)]
    simp only [upd, hk, if_false]
    exact h4 j hj
theorem lTie.work {u : S0} {v : S1} {r : Nat} {x b y : Int32} (h : lTie u v) (hr : r < 8) : lTie (rf_wk u r x b) (rb_s (rb_s (rb_t v 0) 2 (7 * r + 2) (v.1 2 (7 * r + 2) + x)) 2 (7 * r + 3) y) := by
  obtain ⟨h1, h2, h3, h4, h5⟩ := h
  have key : lTie (ra_s u 2 r (u.1 2 r + x)) (rb_s (rb_s (rb_t v 0) 2 (7 * r + 2) (v.1 2 (7 * r + 2) + x)) 2 (7 * r + 3) y) := by
    refine ⟨h1, h2, h3, fun j hj => ?_, h5⟩
    rw [ra_sU, ra_sN (by decide), rb_sO (by omega), rb_sO (by omega)]
    by_cases hk : j = r
    · subst hk
      rw [rb_sO (by omega), rb_sS]
      simp only [upd, if_true]
      exact ⟨(h4 j hj).1, by rw [(h4 j hj).2]⟩
    · rw [rb_sO (by omega), rb_sO (by omega)]
      simp only [upd, hk, if_false]
      exact h4 j hj
  unfold rf_wk
  split
  · exact key
  · exact key.E (ra_Es (by decide)) ⟨rfl, rfl, fun _ _ => ⟨rfl, rfl⟩⟩
theorem ld_rate0 {k : Nat} {x : Int32} (h : ¬ x < rt_RX0_LEAST_RATE k) : k = 4 → ¬ x = 0 := by
  rintro rfl rfl
  exact h (by decide)
theorem rb_hp0 : ¬ rb_r0 0 4 = 0 := by decide +kernel
theorem lTie.u0 {g : Nat → Nat} : lTie ra_u0 (rb_r0, 0, 0, 0, g) := ⟨rfl, Nat.zero_le 8, rfl, fun _ _ => ⟨rfl, rfl⟩, rb_hp0⟩
/-- the loop goes on only where four more numbers lie -/
theorem ld_go {L i : Nat} (hL : L ≤ 2048) (hi : i ≤ 4096) (h : ¬ nI i > nI L - 4) : i + 4 ≤ L := by
  by_cases h4 : 4 ≤ L
  · have e : nI L - 4 = nI (L - 4) := by
      have h9 := nI_add (L - 4) 4
      rw [Nat.sub_add_cancel h4] at h9
      rw [← h9]
      exact Int32.add_sub_cancel _ _
    rw [e] at h
    have h9 : ¬ L - 4 < i := fun hh => h ((nI_ltI (a := L - 4) (b := i) (by omega) (by omega)).mpr hh)
    omega
  · exfalso
    apply h
    have hp := nI_pos' (n := i) (by omega)
    have hn : nI L - 4 < 0 := by
      rcases (show L = 0 ∨ L = 1 ∨ L = 2 ∨ L = 3 by omega) with rfl | rfl | rfl | rfl <;> decide
    exact Int32.lt_of_lt_of_le hn hp
theorem ld_big {L i : Nat} (hL : L ≤ 2048) (hi : i ≤ 4096) (h : L < i + 4) : nI i > nI L - 4 := Decidable.byContradiction fun h9 => absurd (ld_go hL hi h9) (by omega)
