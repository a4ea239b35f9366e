/-! THE CLASS'S STATE but for the rows that are only tried (11, 12, 13) -/
def E9 (u v : S0) : Prop := v.2 = u.2 ∧ ∀ k : Nat, k < 9 → v.1 k = u.1 k
theorem E9.rf {u : S0} : E9 u u := ⟨rfl, fun _ _ => rfl⟩
theorem E9.tr {u v w : S0} (h : E9 u v) (k : E9 v w) : E9 u w := ⟨k.1.trans h.1, fun j hj => (k.2 j hj).trans (h.2 j hj)⟩
theorem E9.n {u v : S0} (h : E9 u v) : v.2.1 = u.2.1 := congrArg Prod.fst h.1
theorem E9.s {u v : S0} {k i : Nat} {x : Int32} (h : E9 u v) (hk : 9 ≤ k) : E9 u (ra_s v k i x) := ⟨h.1, fun j hj => (ra_sN (by omega)).trans (h.2 j hj)⟩
theorem e9_hc {u v : S0} (h : E9 u v) (r : Nat) : rf_hc v r = rf_hc u r := by
  unfold rf_hc
  rw [h.2 2 (by decide), h.2 3 (by decide)]
theorem e9_pc {u v : S0} (h : E9 u v) (r : Nat) : rf_pc v 7 r = rf_pc u 7 r := by
  unfold rf_pc
  rw [h.2 7 (by decide), h.2 1 (by decide)]
theorem e9_hw {u v : S0} (h : E9 u v) (r : Nat) : rf_hw v 7 r = rf_hw u 7 r := by
  unfold rf_hw
  rw [h.2 7 (by decide), e9_hc h]
theorem e9_ww {u v : S0} (h : E9 u v) (r : Nat) : rf_ww v 7 r = rf_ww u 7 r := by
  unfold rf_ww
  rw [h.2 0 (by decide), e9_pc h, e9_hw h]
theorem e9_cm {u v : S0} (h : E9 u v) (r : Nat) : rf_cm v r = rf_cm u r := by
  unfold rf_cm
  rw [e9_ww h, h.2 5 (by decide)]
theorem e9_tk {u v : S0} (h : E9 u v) (r : Nat) : rf_tk v r = rf_tk u r := by
  unfold rf_tk rf_tb
  rw [e9_cm h, h.2 4 (by decide), h.2 7 (by decide)]
theorem e9_L {u v : S0} (h : E9 u v) (r : Nat) : rl_L v r = rl_L u r := by
  unfold rl_L
  rw [e9_cm h, e9_tk h]
theorem e9_sm {f g : Nat → Int32} : ∀ n : Nat, (∀ i : Nat, i < n → f i = g i) → rf_sm f n = rf_sm g n
  | 0, _ => rfl
  | n + 1, h => by
    show rf_sm f n + f n = rf_sm g n + g n
    rw [e9_sm n (fun i hi => h i (by omega)), h n (Nat.lt_succ_self n)]
theorem e9_rs {u v : S0} (h : E9 u v) {cI cR : ClassId} {o : Nat} {z : SA} : rs_w cI cR o z v = rs_w cI cR o z u := rs_congr h.1 (h.2 7 (by decide)) (h.2 8 (by decide)) (fun j k hj _ => by rw [h.2 j (by omega)])
theorem e9_told {u v : S0} (h : E9 u v) (r : Nat) {k : Nat} (hk : k < 7) : rf_told v r k = u.1 k r := by
  unfold rf_told
  rw [if_pos hk, h.2 k (by omega)]
theorem e9_told7 {u v : S0} (h : E9 u v) (r : Nat) : rf_told v r 7 = rf_hc u r := by
  unfold rf_told
  rw [if_neg (by decide), e9_hc h]
theorem e9_w0 {u v : S0} (h : E9 u v) (r : Nat) : rf_wage v r 0 = rf_pc u 7 r := e9_pc h r
theorem e9_w1 {u v : S0} (h : E9 u v) (r : Nat) : rf_wage v r 1 = rf_hw u 7 r := e9_hw h r
theorem e9_w2 {u v : S0} (h : E9 u v) (r : Nat) : rf_wage v r 2 = rf_ww u 7 r := e9_ww h r
theorem e9_w3 {u v : S0} (h : E9 u v) (r : Nat) : rf_wage v r 3 = rf_cm u r := e9_cm h r
theorem e9_w4 {u v : S0} (h : E9 u v) (r : Nat) : rf_wage v r 4 = rf_tk u r := e9_tk h r
theorem e9_w5 {u v : S0} (h : E9 u v) (r : Nat) : rf_wage v r 5 = rl_L u r := e9_L h r
theorem e9_c0 {u v : S0} (h : E9 u v) : rf_cnt v 0 = u.2.2 := congrArg Prod.snd h.1
theorem e9_c1 {u v : S0} (h : E9 u v) : rf_cnt v 1 = nI u.2.1 := congrArg nI h.n
theorem e9_c2 {u v : S0} (h : E9 u v) : rf_cnt v 2 = rf_sm (u.1 4) u.2.1 := by
  show rf_sm (v.1 4) v.2.1 = _
  rw [h.2 4 (by decide), h.n]
theorem e9_c3 {u v : S0} (h : E9 u v) : rf_cnt v 3 = rf_sm (u.1 5) u.2.1 := by
  show rf_sm (v.1 5) v.2.1 = _
  rw [h.2 5 (by decide), h.n]
theorem e9_c4 {u v : S0} (h : E9 u v) : rf_cnt v 4 = rf_sm (fun c => u.1 8 c * rt_RX0_COIN_WORTH c) 3 := by
  show rf_sm (fun c => v.1 8 c * rt_RX0_COIN_WORTH c) 3 = _
  rw [h.2 8 (by decide)]
theorem e9_c5 {u v : S0} (h : E9 u v) : rf_cnt v 5 = rf_sm (rf_ww u 7) u.2.1 := by
  show rf_sm (rf_ww v 7) v.2.1 = _
  rw [h.n]
  exact e9_sm _ fun i _ => e9_ww h i
theorem e9_c6 {u v : S0} (h : E9 u v) : rf_cnt v 6 = rf_sm (u.1 6) u.2.1 := by
  show rf_sm (v.1 6) v.2.1 = _
  rw [h.2 6 (by decide), h.n]
theorem e9_mn {u v : S0} (h : E9 u v) : rf_mn v = rf_mn u := by
  unfold rf_mn
  rw [h.n, e9_sm u.2.1 fun i _ => e9_ww h i]
theorem e9_cp {u : S0} {a b : Nat} (hb : 9 ≤ b) : ∀ n : Nat, E9 u (rf_cp u a b n)
  | 0 => E9.rf
  | n + 1 => (e9_cp hb n).s hb
theorem e9_ho {u : S0} {k : Nat} {s : Int32} (hk : 9 ≤ k) : ∀ c : Nat, E9 u (rf_ho u k s c).2
  | 0 => E9.rf
  | c + 1 => ((e9_ho hk c).s hk).s (by decide)
theorem e9_ci {u : S0} : ∀ i : Nat, E9 u (rf_ci u i)
  | 0 => E9.rf
  | i + 1 => (e9_ci i).tr (e9_ho (by decide) 3)
theorem e9_lk {u : S0} : ∀ i : Nat, E9 u (rf_lk u i).2
  | 0 => E9.rf
  | i + 1 => (e9_lk i).tr (e9_ho (by decide) 3)
theorem e9_cs {u : S0} {r : Nat} : E9 u (rf_cs u r) := (e9_cp (by decide) 3).tr (e9_ci _)
theorem e9_lkS {u : S0} {n : Nat} : E9 u (rf_lk (rf_cp u 8 12 3) n).2 := (e9_cp (by decide) 3).tr (e9_lk _)
/-! coins by purses that agree -/
theorem ks_c {s : Int32} {p q : Nat → Int32} : ∀ c : Nat, (∀ j : Nat, j < c → p j = q j) → ks s p c = ks s q c
  | 0, _ => rfl
  | c + 1, h => by
    rw [ks_1, ks_1]
    unfold km
    rw [ks_c c (fun j hj => h j (by omega)), h c (Nat.lt_succ_self c)]
theorem km_c {s : Int32} {p q : Nat → Int32} {c : Nat} (h : ∀ j : Nat, j < c + 1 → p j = q j) : km s p c = km s q c := by
  unfold km
  rw [ks_c c (fun j hj => h j (by omega)), h c (Nat.lt_succ_self c)]
theorem st_9 {u v : S0} (h : E9 u v) (r : Nat) : E9 (rf_st u r) (rf_st v r) ∧ rf_sv v r = rf_sv u r := by
  obtain ⟨a2, a8, -, ao, a0, a7, a1, a2', a3, a4, a5, a6, asv⟩ := st_rows (u := u) (r := r)
  obtain ⟨b2, b8, -, bo, b0, b7, b1, b2', b3, b4, b5, b6, bsv⟩ := st_rows (u := v) (r := r)
  have eL := e9_L h r
  have e8 := h.2 8 (by decide)
  refine ⟨⟨by rw [a2, b2, h.1], fun k hk => funext fun j => ?_⟩, by rw [asv, bsv, eL, e8]⟩
  by_cases hk8 : k = 8
  · subst hk8
    rw [a8, b8, eL, e8]
  · by_cases hj : j = r
    · subst hj
      rcases (show k = 0 ∨ k = 1 ∨ k = 2 ∨ k = 3 ∨ k = 4 ∨ k = 5 ∨ k = 6 ∨ k = 7 by omega) with rfl | rfl | rfl | rfl | rfl | rfl | rfl | rfl
      · rw [a0, b0, h.2 0 (by decide)]
      · rw [a1, b1]
      · rw [a2', b2']
      · rw [a3, b3]
      · rw [a4, b4, h.2 4 (by decide), e9_tk h]
      · rw [a5, b5, eL, e8]
      · rw [a6, b6, h.2 6 (by decide), eL, e8]
      · rw [a7, b7, h.2 7 (by decide)]
    · rw [ao k j (by omega) hj, bo k j (by omega) hj, h.2 k (by omega)]
theorem py_9 {u v : S0} (h : E9 u v) : ∀ i : Nat, E9 (rf_py u i).2 (rf_py v i).2 ∧ (rf_py v i).1 = (rf_py u i).1
  | 0 => ⟨h, rfl⟩
  | i + 1 => by
    obtain ⟨h1, h2⟩ := py_9 h i
    obtain ⟨s1, s2⟩ := st_9 h1 i
    refine ⟨s1, ?_⟩
    show (rf_py v i).1 + rf_sv (rf_py v i).2 i = (rf_py u i).1 + rf_sv (rf_py u i).2 i
    rw [h2, s2]
theorem pay_9 {u v : S0} (h : E9 u v) : E9 (rf_pay u) ((rf_py v v.2.1).2.1, (rf_py v v.2.1).2.2.1, (rf_py v v.2.1).2.2.2 + 1) ∧ (rf_py v v.2.1).1 = (rf_py u u.2.1).1 := by
  rw [h.n]
  obtain ⟨h1, h2⟩ := py_9 h u.2.1
  refine ⟨⟨?_, fun k hk => h1.2 k hk⟩, h2⟩
  show ((rf_py v u.2.1).2.2.1, (rf_py v u.2.1).2.2.2 + 1) = (u.2.1, u.2.2 + 1)
  rw [h1.1, rf_py2]
/-! a reaper's pay is that of the week's start -/
theorem L_c {u v : S0} {r : Nat} (h : ∀ k : Nat, k < 7 → v.1 k r = u.1 k r) (h7 : v.1 7 = u.1 7) : rl_L v r = rl_L u r ∧ rf_tk v r = rf_tk u r := by
  have hc : rf_hc v r = rf_hc u r := by
    unfold rf_hc
    rw [h 2 (by decide), h 3 (by decide)]
  have pc : rf_pc v 7 r = rf_pc u 7 r := by
    unfold rf_pc
    rw [h7, h 1 (by decide)]
  have hw : rf_hw v 7 r = rf_hw u 7 r := by
    unfold rf_hw
    rw [h7, hc]
  have ww : rf_ww v 7 r = rf_ww u 7 r := by
    unfold rf_ww
    rw [h 0 (by decide), pc, hw]
  have cm : rf_cm v r = rf_cm u r := by
    unfold rf_cm
    rw [ww, h 5 (by decide)]
  have tk : rf_tk v r = rf_tk u r := by
    unfold rf_tk rf_tb
    rw [cm, h 4 (by decide), h7]
  refine ⟨?_, tk⟩
  unfold rl_L
  rw [cm, tk]
/-- what the row k of the reaper r is while others are paid -/
theorem py_o {T : Nat} {u : S0} (B : rB T u) {i r k : Nat} (hi : i ≤ u.2.1) (hr : i ≤ r) (hk : k < 7) : (rf_py u i).2.1 k r = u.1 k r := (pyI_py B i hi).2.2.2.2.1 k r hk hr
theorem py_7 {T : Nat} {u : S0} (B : rB T u) {i : Nat} (hi : i ≤ u.2.1) : (rf_py u i).2.1 7 = u.1 7 := (pyI_py B i hi).2.2.1
theorem py_L {T : Nat} {u : S0} (B : rB T u) {r : Nat} (hr : r < u.2.1) : rl_L (rf_py u r).2 r = rl_L u r ∧ rf_tk (rf_py u r).2 r = rf_tk u r := L_c (fun k hk => py_o B (by omega) (Nat.le_refl r) hk) (py_7 B (by omega))
/-- behind its own pay a reaper's rows stay -/
theorem py_k {u : S0} {r k : Nat} (hk : k < 8) : ∀ i : Nat, r < i → (rf_py u i).2.1 k r = (rf_py u (r + 1)).2.1 k r
  | 0, h => absurd h (Nat.not_lt_zero r)
  | i + 1, h => by
    by_cases e : r = i
    · subst e
      rfl
    · show (rf_st (rf_py u i).2 i).1 k r = _
      rw [st_rows.2.2.2.1 k r hk e]
      exact py_k hk i (by omega)
/-- the purse behind i reapers -/
def pu (u : S0) (i : Nat) : Nat → Int32 := (rf_py u i).2.1 8
theorem pu_1 {T : Nat} {u : S0} (B : rB T u) {i c : Nat} (hi : i < u.2.1) (hc : c < 3) : pu u (i + 1) c = pu u i c - km (rl_L u i) (pu u i) c := by
  show (rf_st (rf_py u i).2 i).1 8 c = _
  rw [st_rows.2.1 c, if_pos hc, (py_L B hi).1]
  rfl
theorem pu_9 {u v : S0} (h : E9 u v) (i : Nat) : pu v i = pu u i := (py_9 h i).1.2 8 (by decide)
/-- what coins tells -/
theorem ci_p {T : Nat} {u : S0} (B : rB T u) : ∀ i : Nat, i ≤ u.2.1 → ∀ j : Nat, j < 3 → (rf_ci (rf_cp u 8 12 3) i).1 12 j = pu u i j
  | 0, _, j, hj => by
    show (rf_cp u 8 12 3).1 12 j = u.1 8 j
    rcases (show j = 0 ∨ j = 1 ∨ j = 2 by omega) with rfl | rfl | rfl
    · show (ra_s (ra_s (ra_s u 12 0 (u.1 8 0)) 12 1 _) 12 2 _).1 12 0 = _
      rw [ra_sO (by decide), ra_sO (by decide), ra_sS]
    · show (ra_s (ra_s (ra_s u 12 0 (u.1 8 0)) 12 1 ((ra_s u 12 0 (u.1 8 0)).1 8 1)) 12 2 _).1 12 1 = _
      rw [ra_sO (by decide), ra_sS, ra_sN (by decide)]
    · show (ra_s (ra_s (ra_s u 12 0 (u.1 8 0)) 12 1 ((ra_s u 12 0 (u.1 8 0)).1 8 1)) 12 2 ((ra_s (ra_s u 12 0 (u.1 8 0)) 12 1 ((ra_s u 12 0 (u.1 8 0)).1 8 1)).1 8 2)).1 12 2 = _
      rw [ra_sS, ra_sN (by decide), ra_sN (by decide)]
  | i + 1, hi, j, hj => by
    have ih := ci_p B i (by omega)
    have he : E9 u (rf_ci (rf_cp u 8 12 3) i) := (e9_cp (by decide) 3).tr (e9_ci i)
    show (rf_ho (rf_ci (rf_cp u 8 12 3) i) 12 (rf_re (rf_ci (rf_cp u 8 12 3) i) i) 3).2.1 12 j = _
    rw [(ho_1 (Or.inr rfl) 3).2.1 j, if_pos hj, ih j hj, pu_1 B (by omega) hj, show rf_re (rf_ci (rf_cp u 8 12 3) i) i = rl_L u i from e9_L he i, km_c (q := pu u i) (fun k hk => ih k (by omega))]
theorem co_m {T : Nat} {u : S0} (B : rB T u) {r c : Nat} (hr : r < u.2.1) (hc : c < 3) : rf_co u r c = km (rl_L u r) (pu u r) c := by
  have he : E9 u (rf_ci (rf_cp u 8 12 3) r) := (e9_cp (by decide) 3).tr (e9_ci r)
  show (rf_ho (rf_ci (rf_cp u 8 12 3) r) 12 (rf_re (rf_ci (rf_cp u 8 12 3) r) r) 3).2.1 13 c = _
  rw [(ho_1 (Or.inr rfl) 3).2.2.1 c, if_pos hc, show rf_re (rf_ci (rf_cp u 8 12 3) r) r = rl_L u r from e9_L he r, km_c (q := pu u r) (fun k hk => ci_p B r (by omega) k (by omega))]
theorem B_9 {T : Nat} {u v : S0} (B : rB T u) (h : E9 u v) : rB T v := by
  obtain ⟨h1, h2, h3, h4, h5, h6⟩ := B
  refine ⟨by rw [h.n]; exact h1, h2, h3.of (h.2 7 (by decide)), fun c hc => by rw [h.2 8 (by decide)]; exact h4 c hc, fun r hr => (h5 r hr).of fun k hk => by rw [h.2 k (by omega)], fun r k hr h8 hk1 hk7 => by rw [h.2 k (by omega)]; exact h6 r k (by rw [← h.n]; exact hr) h8 hk1 hk7⟩
theorem e9_co {T : Nat} {u v : S0} (B : rB T u) (h : E9 u v) {r c : Nat} (hr : r < u.2.1) (hc : c < 3) : rf_co v r c = km (rl_L u r) (pu u r) c := by
  rw [co_m (B_9 B h) (by rw [h.n]; exact hr) hc, e9_L h, pu_9 h]
/-- what was handed -/
theorem hd_m {T : Nat} {u : S0} (B : rB T u) {r c : Nat} (hr : r < u.2.1) (hc : c < 3) : (rf_py u (r + 1)).2.1 13 c = km (rl_L u r) (pu u r) c := by
  show (rf_st (rf_py u r).2 r).1 13 c = _
  rw [st_rows.2.2.1 c, if_pos hc, (py_L B hr).1]
  rfl
/-- pennies that lack -/
theorem lk_m {T : Nat} {u : S0} (B : rB T u) : ∀ i : Nat, i ≤ u.2.1 → (rf_lk (rf_cp u 8 12 3) i).1 = rf_sm (fun r => ks (rl_L u r) (pu u r) 3 / 4) i ∧ (rf_lk (rf_cp u 8 12 3) i).2 = rf_ci (rf_cp u 8 12 3) i
  | 0, _ => ⟨rfl, rfl⟩
  | i + 1, hi => by
    obtain ⟨h1, h2⟩ := lk_m B i (by omega)
    have he : E9 u (rf_ci (rf_cp u 8 12 3) i) := (e9_cp (by decide) 3).tr (e9_ci i)
    refine ⟨?_, ?_⟩
    · show (rf_lk (rf_cp u 8 12 3) i).1 + (rf_re (rf_lk (rf_cp u 8 12 3) i).2 i - rf_hv (rf_lk (rf_cp u 8 12 3) i).2 12 (rf_re (rf_lk (rf_cp u 8 12 3) i).2 i)) / 4 = rf_sm (fun r => ks (rl_L u r) (pu u r) 3 / 4) i + ks (rl_L u i) (pu u i) 3 / 4
      rw [h1, h2, show rf_re (rf_ci (rf_cp u 8 12 3) i) i = rl_L u i from e9_L he i]
      unfold rf_hv
      rw [(ho_1 (Or.inr rfl) 3).1, i32_a, ks_c (q := pu u i) 3 (fun k hk => ci_p B i (by omega) k hk)]
    · show rf_hs (rf_lk (rf_cp u 8 12 3) i).2 12 (rf_re (rf_lk (rf_cp u 8 12 3) i).2 i) = rf_hs (rf_ci (rf_cp u 8 12 3) i) 12 (rf_re (rf_ci (rf_cp u 8 12 3) i) i)
      rw [h2]
theorem e9_lkA {T : Nat} {u v : S0} (B : rB T u) (h : E9 u v) : (rf_lk (rf_cp v 8 12 3) v.2.1).1 = rf_sm (fun r => ks (rl_L u r) (pu u r) 3 / 4) u.2.1 := by
  rw [(lk_m (B_9 B h) v.2.1 (Nat.le_refl _)).1, h.n]
  exact e9_sm _ fun r _ => by rw [e9_L h, pu_9 h]
