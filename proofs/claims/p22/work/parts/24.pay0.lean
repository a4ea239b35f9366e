theorem ra_s2 {u : S0} {k i : Nat} {x : Int32} : (ra_s u k i x).2 = u.2 := rfl
theorem i32_a (x y : Int32) : x - (x - y) = y := by grind
/-! PAYING, by numbers: coins one after another -/
def ks (s : Int32) (p : Nat → Int32) : Nat → Int32
  | 0 => s
  | c + 1 => ks s p c - rf_min (rf_wp (ks s p c) (rt_RX0_COIN_WORTH c)) (p c) * rt_RX0_COIN_WORTH c
def km (s : Int32) (p : Nat → Int32) (c : Nat) : Int32 := rf_min (rf_wp (ks s p c) (rt_RX0_COIN_WORTH c)) (p c)
theorem ks_1 {s : Int32} {p : Nat → Int32} {c : Nat} : ks s p (c + 1) = ks s p c - km s p c * rt_RX0_COIN_WORTH c := rfl
theorem ho_1 {u : S0} {k : Nat} {s : Int32} (hk : k = 8 ∨ k = 12) : ∀ c : Nat, (rf_ho u k s c).1 = ks s (u.1 k) c ∧ (∀ j : Nat, (rf_ho u k s c).2.1 k j = if j < c then u.1 k j - km s (u.1 k) j else u.1 k j) ∧ (∀ j : Nat, (rf_ho u k s c).2.1 13 j = if j < c then km s (u.1 k) j else u.1 13 j) ∧ (∀ i : Nat, i ≠ k → i ≠ 13 → (rf_ho u k s c).2.1 i = u.1 i) ∧ (rf_ho u k s c).2.2 = u.2 := by
  have hk13 : k ≠ 13 := by omega
  intro c
  induction c with
  | zero => exact ⟨rfl, fun j => by rw [if_neg (Nat.not_lt_zero j)]; rfl, fun j => by rw [if_neg (Nat.not_lt_zero j)]; rfl, fun i _ _ => rfl, rfl⟩
  | succ c ih =>
    obtain ⟨h1, h2, h3, h4, h5⟩ := ih
    have hm : rf_hm k (rf_ho u k s c) c = km s (u.1 k) c := by
      unfold rf_hm km
      rw [h1, h2 c, if_neg (Nat.lt_irrefl c)]
    refine ⟨?_, fun j => ?_, fun j => ?_, fun i hi hi3 => ?_, h5⟩
    · show (rf_ho u k s c).1 - rf_hm k (rf_ho u k s c) c * rt_RX0_COIN_WORTH c = _
      rw [hm, h1, ks_1]
    · show (ra_s (ra_s (rf_ho u k s c).2 k c ((rf_ho u k s c).2.1 k c - rf_hm k (rf_ho u k s c) c)) 13 c (rf_hm k (rf_ho u k s c) c)).1 k j = _
      rw [ra_sN hk13, hm]
      by_cases e : j = c
      · subst e
        rw [ra_sS, h2 j, if_neg (Nat.lt_irrefl j), if_pos (Nat.lt_succ_self j)]
      · rw [ra_sO e, h2 j]
        by_cases hj : j < c
        · rw [if_pos hj, if_pos (by omega)]
        · rw [if_neg hj, if_neg (by omega)]
    · show (ra_s (ra_s (rf_ho u k s c).2 k c ((rf_ho u k s c).2.1 k c - rf_hm k (rf_ho u k s c) c)) 13 c (rf_hm k (rf_ho u k s c) c)).1 13 j = _
      by_cases e : j = c
      · subst e
        rw [ra_sS, hm, if_pos (Nat.lt_succ_self j)]
      · rw [ra_sO e, ra_sO e, h3 j]
        by_cases hj : j < c
        · rw [if_pos hj, if_pos (by omega)]
        · rw [if_neg hj, if_neg (by omega)]
    · show (ra_s (ra_s (rf_ho u k s c).2 k c ((rf_ho u k s c).2.1 k c - rf_hm k (rf_ho u k s c) c)) 13 c (rf_hm k (rf_ho u k s c) c)).1 i = _
      rw [ra_sN hi3, ra_sN hi]
      exact h4 i hi hi3
theorem cw_b {c : Nat} (h : c < 3) : 4 ≤ (rt_RX0_COIN_WORTH c).toInt ∧ (rt_RX0_COIN_WORTH c).toInt ≤ 120 := by
  rcases (show c = 0 ∨ c = 1 ∨ c = 2 by omega) with rfl | rfl | rfl <;> decide
theorem mul_div_le {a w : Int} (ha : 0 ≤ a) (hw : 0 < w) : a / w * w ≤ a := by
  have := Int.mul_ediv_add_emod a w
  have h2 := Int.emod_nonneg a (show w ≠ 0 by omega)
  rw [Int.mul_comm] at this
  omega
theorem km_t {s : Int32} {p : Nat → Int32} (hp : ∀ c : Nat, c < 3 → 0 ≤ (p c).toInt) {c : Nat} (hc : c < 3) (h0 : 0 ≤ (ks s p c).toInt) : (km s p c).toInt = min ((ks s p c).toInt / (rt_RX0_COIN_WORTH c).toInt) (p c).toInt ∧ 0 ≤ (km s p c).toInt ∧ (km s p c).toInt * (rt_RX0_COIN_WORTH c).toInt ≤ (ks s p c).toInt ∧ (ks s p (c + 1)).toInt = (ks s p c).toInt - (km s p c).toInt * (rt_RX0_COIN_WORTH c).toInt ∧ 0 ≤ (ks s p (c + 1)).toInt := by
  have w := cw_b hc
  have e1 : (km s p c).toInt = min ((ks s p c).toInt / (rt_RX0_COIN_WORTH c).toInt) (p c).toInt := by
    unfold km
    rw [tI_min, tI_wp h0 (by omega)]
  have d0 : 0 ≤ (ks s p c).toInt / (rt_RX0_COIN_WORTH c).toInt := Int.ediv_nonneg h0 (by omega)
  have hp0 := hp c hc
  have e2 : 0 ≤ (km s p c).toInt := by omega
  have e3 : (km s p c).toInt * (rt_RX0_COIN_WORTH c).toInt ≤ (ks s p c).toInt := by
    have h1 : (km s p c).toInt * (rt_RX0_COIN_WORTH c).toInt ≤ (ks s p c).toInt / (rt_RX0_COIN_WORTH c).toInt * (rt_RX0_COIN_WORTH c).toInt := Int.mul_le_mul_of_nonneg_right (by omega) (by omega)
    have h2 := mul_div_le h0 (show 0 < (rt_RX0_COIN_WORTH c).toInt by omega)
    omega
  have e4 : 0 ≤ (km s p c).toInt * (rt_RX0_COIN_WORTH c).toInt := Int.mul_nonneg e2 (by omega)
  have r := tI_rng (ks s p c)
  have e5 : (km s p c * rt_RX0_COIN_WORTH c).toInt = (km s p c).toInt * (rt_RX0_COIN_WORTH c).toInt := tI_mul (by omega) (by omega)
  have e6 : (ks s p (c + 1)).toInt = (ks s p c).toInt - (km s p c).toInt * (rt_RX0_COIN_WORTH c).toInt := by
    rw [ks_1, tI_sub (by rw [e5]; omega) (by rw [e5]; omega), e5]
  exact ⟨e1, e2, e3, e6, by omega⟩
theorem ks_n {s : Int32} {p : Nat → Int32} (hs : 0 ≤ s.toInt) (hp : ∀ c : Nat, c < 3 → 0 ≤ (p c).toInt) : 0 ≤ (ks s p 1).toInt ∧ 0 ≤ (ks s p 2).toInt ∧ 0 ≤ (ks s p 3).toInt := by
  have h1 := (km_t hp (c := 0) (by omega) hs).2.2.2.2
  have h2 := (km_t hp (c := 1) (by omega) h1).2.2.2.2
  exact ⟨h1, h2, (km_t hp (c := 2) (by omega) h2).2.2.2.2⟩
/-- the three coins at once, in whole numbers -/
theorem ks_all {s : Int32} {p : Nat → Int32} (hs : 0 ≤ s.toInt) (hp : ∀ c : Nat, c < 3 → 0 ≤ (p c).toInt) :
    (0 ≤ (km s p 0).toInt ∧ (km s p 0).toInt ≤ (p 0).toInt) ∧ (0 ≤ (km s p 1).toInt ∧ (km s p 1).toInt ≤ (p 1).toInt) ∧ (0 ≤ (km s p 2).toInt ∧ (km s p 2).toInt ≤ (p 2).toInt) ∧ 0 ≤ (ks s p 3).toInt ∧ (ks s p 3).toInt = s.toInt - 120 * (km s p 0).toInt - 48 * (km s p 1).toInt - 4 * (km s p 2).toInt := by
  obtain ⟨n1, n2, n3⟩ := ks_n hs hp
  obtain ⟨a1, a2, a3, a4, -⟩ := km_t hp (c := 0) (by omega) hs
  obtain ⟨b1, b2, b3, b4, -⟩ := km_t hp (c := 1) (by omega) n1
  obtain ⟨c1, c2, c3, c4, -⟩ := km_t hp (c := 2) (by omega) n2
  have w0 : (rt_RX0_COIN_WORTH 0).toInt = 120 := rfl
  have w1 : (rt_RX0_COIN_WORTH 1).toInt = 48 := rfl
  have w2 : (rt_RX0_COIN_WORTH 2).toInt = 4 := rfl
  rw [w0] at a4
  rw [w1] at b4
  rw [w2] at c4
  have z : (ks s p 0).toInt = s.toInt := rfl
  have z1 : (ks s p (0 + 1)).toInt = (ks s p 1).toInt := rfl
  have z2 : (ks s p (1 + 1)).toInt = (ks s p 2).toInt := rfl
  have z3 : (ks s p (2 + 1)).toInt = (ks s p 3).toInt := rfl
  refine ⟨⟨a2, by omega⟩, ⟨b2, by omega⟩, ⟨c2, by omega⟩, n3, by omega⟩
/-! a reaper's own numbers -/
theorem tI_hw {T : Nat} {u : S0} {r : Nat} (V : rV u) (B : rR T u r) (hT : T ≤ 400) : (rf_hw u 7 r).toInt = (u.1 7 1).toInt * hcI (u.1 2 r).toInt (u.1 3 r).toInt ∧ 0 ≤ (rf_hw u 7 r).toInt ∧ (rf_hw u 7 r).toInt ≤ 11781 := by
  have e := tI_hc B hT
  have b := hcI_b (h := (u.1 2 r).toInt) (l := (u.1 3 r).toInt) B.2.2.1.1 B.2.2.1.2 B.2.2.2.1.1
  have v := V.2.1
  have h1 : 0 ≤ (u.1 7 1).toInt * hcI (u.1 2 r).toInt (u.1 3 r).toInt := Int.mul_nonneg (by omega) b.1
  have h2 : (u.1 7 1).toInt * hcI (u.1 2 r).toInt (u.1 3 r).toInt ≤ 99 * 119 := Int.mul_le_mul v.2 b.2 b.1 (by omega)
  have e2 : (rf_hw u 7 r).toInt = (u.1 7 1).toInt * hcI (u.1 2 r).toInt (u.1 3 r).toInt := by
    unfold rf_hw
    rw [tI_mul (by rw [e]; omega) (by rw [e]; omega), e]
  omega
theorem pc_bd {T : Nat} {u : S0} {r : Nat} (V : rV u) (B : rR T u r) : 0 ≤ (rf_pc u 7 r).toInt ∧ (rf_pc u 7 r).toInt ≤ 51592 := by
  rw [tI_pc V B]
  exact pcI_b V.1 B.2.1 V.2.2.1 V.2.2.2.1
theorem ww_bd {T : Nat} {u : S0} {r : Nat} (V : rV u) (B : rR T u r) (hT : T ≤ 400) : 0 ≤ (rf_ww u 7 r).toInt ∧ (rf_ww u 7 r).toInt ≤ 52000 := by
  have h1 := pc_bd V B
  have h2 := (tI_hw V B hT).2
  unfold rf_ww
  split
  · omega
  · split
    · omega
    · rw [tI_max]
      omega
theorem cm_t {T : Nat} {u : S0} {r : Nat} (V : rV u) (B : rR T u r) (hT : T ≤ 400) : (rf_cm u r).toInt = (rf_ww u 7 r).toInt + (u.1 5 r).toInt := by
  have h1 := ww_bd V B hT
  obtain ⟨-, -, -, -, -, h5, h6, h7⟩ := B
  exact tI_add (by omega) (by omega)
theorem tk_t {T : Nat} {u : S0} {r : Nat} (V : rV u) (B : rR T u r) (hT : T ≤ 400) : (rf_tk u r).toInt = min (u.1 4 r).toInt ((rf_cm u r).toInt / (u.1 7 4).toInt) ∧ 0 ≤ (rf_tk u r).toInt ∧ (rf_tk u r).toInt ≤ (u.1 4 r).toInt ∧ (rf_tk u r).toInt ≤ (rf_cm u r).toInt := by
  have c := cm_t V B hT
  have h1 := ww_bd V B hT
  have v := V.2.2.2.2
  obtain ⟨-, -, -, -, h4, h5, h6, h7⟩ := B
  have c0 : 0 ≤ (rf_cm u r).toInt := by omega
  have e : (rf_tk u r).toInt = min (u.1 4 r).toInt ((rf_cm u r).toInt / (u.1 7 4).toInt) := by
    unfold rf_tk rf_tb
    rw [tI_min, tI_wp c0 v.1]
  have d1 : 0 ≤ (rf_cm u r).toInt / (u.1 7 4).toInt := Int.ediv_nonneg c0 (by omega)
  have d2 : (rf_cm u r).toInt / (u.1 7 4).toInt ≤ (rf_cm u r).toInt := Int.ediv_le_self _ c0
  omega
/-- what is left to pay -/
def rl_L (u : S0) (r : Nat) : Int32 := rf_cm u r - rf_tk u r
theorem L_t {T : Nat} {u : S0} {r : Nat} (V : rV u) (B : rR T u r) (hT : T ≤ 400) : (rl_L u r).toInt = (rf_cm u r).toInt - (rf_tk u r).toInt ∧ 0 ≤ (rl_L u r).toInt := by
  have c := cm_t V B hT
  have k := tk_t V B hT
  have r1 := tI_rng (rf_cm u r)
  have e : (rl_L u r).toInt = (rf_cm u r).toInt - (rf_tk u r).toInt := tI_sub (by omega) (by omega)
  omega
/-- a reaper paid: what the class's rows hold behind it -/
theorem st_rows {u : S0} {r : Nat} : (rf_st u r).2 = u.2 ∧ (∀ j : Nat, (rf_st u r).1 8 j = if j < 3 then u.1 8 j - km (rl_L u r) (u.1 8) j else u.1 8 j) ∧ (∀ j : Nat, (rf_st u r).1 13 j = if j < 3 then km (rl_L u r) (u.1 8) j else u.1 13 j) ∧ (∀ k j : Nat, k < 8 → j ≠ r → (rf_st u r).1 k j = u.1 k j) ∧ (rf_st u r).1 0 = u.1 0 ∧ (rf_st u r).1 7 = u.1 7 ∧ (rf_st u r).1 1 r = 0 ∧ (rf_st u r).1 2 r = 0 ∧ (rf_st u r).1 3 r = 0 ∧ (rf_st u r).1 4 r = u.1 4 r - rf_tk u r ∧ (rf_st u r).1 5 r = ks (rl_L u r) (u.1 8) 3 ∧ (rf_st u r).1 6 r = u.1 6 r + (rl_L u r - ks (rl_L u r) (u.1 8) 3) ∧ rf_sv u r = rl_L u r - ks (rl_L u r) (u.1 8) 3 := by
  obtain ⟨h1, h2, h3, h4, h5⟩ := ho_1 (u := u) (s := rl_L u r) (Or.inl rfl : (8 : Nat) = 8 ∨ (8 : Nat) = 12) 3
  have eL : rf_cm u r - rf_tk u r = rl_L u r := rfl
  generalize rl_L u r = L at *
  have sv : rf_sv u r = L - ks L (u.1 8) 3 := by
    unfold rf_sv rf_hv
    rw [eL, h1]
  have s1 : rf_s1 u r = ra_s (rf_ho u 8 L 3).2 4 r (u.1 4 r - rf_tk u r) := by
    unfold rf_s1 rf_hs
    rw [eL, h4 4 (by decide) (by decide)]
  have s3 : rf_s3 u r = ra_s (ra_s (ra_s (rf_ho u 8 (L) 3).2 4 r (u.1 4 r - rf_tk u r)) 5 r (ks (L) (u.1 8) 3)) 6 r (u.1 6 r + (L - ks (L) (u.1 8) 3)) := by
    unfold rf_s3 rf_s2
    rw [s1, sv, eL]
    have e5 : L - (L - ks (L) (u.1 8) 3) = ks (L) (u.1 8) 3 := by
      exact i32_a _ _
    rw [e5]
    rw [ra_sN (show (6 : Nat) ≠ 5 by decide), ra_sN (show (6 : Nat) ≠ 4 by decide), h4 6 (by decide) (by decide)]
  have st : rf_st u r = ra_s (ra_s (ra_s (ra_s (ra_s (ra_s (rf_ho u 8 (L) 3).2 4 r (u.1 4 r - rf_tk u r)) 5 r (ks (L) (u.1 8) 3)) 6 r (u.1 6 r + (L - ks (L) (u.1 8) 3))) 1 r 0) 2 r 0) 3 r 0 := by
    unfold rf_st
    rw [s3]
  have frame : ∀ i : Nat, 7 ≤ i → (rf_st u r).1 i = (rf_ho u 8 (L) 3).2.1 i := fun i hi => by
    rw [st, ra_sN (by omega), ra_sN (by omega), ra_sN (by omega), ra_sN (by omega), ra_sN (by omega), ra_sN (by omega)]
  refine ⟨by rw [st, ra_s2, ra_s2, ra_s2, ra_s2, ra_s2, ra_s2, h5], fun j => by rw [frame 8 (by decide)]; exact h2 j, fun j => by rw [frame 13 (by decide)]; exact h3 j, fun k j hk hj => ?_, ?_, by rw [frame 7 (by decide)]; exact h4 7 (by decide) (by decide), ?_, ?_, ?_, ?_, ?_, ?_, sv⟩
  · rw [st, ra_sO hj, ra_sO hj, ra_sO hj, ra_sO hj, ra_sO hj, ra_sO hj, h4 k (by omega) (by omega)]
  · rw [st, ra_sN (by decide), ra_sN (by decide), ra_sN (by decide), ra_sN (by decide), ra_sN (by decide), ra_sN (by decide)]
    exact h4 0 (by decide) (by decide)
  · rw [st, ra_sN (by decide), ra_sN (by decide), ra_sS]
  · rw [st, ra_sN (by decide), ra_sS]
  · rw [st, ra_sS]
  · rw [st, ra_sN (by decide), ra_sN (by decide), ra_sN (by decide), ra_sN (by decide), ra_sN (by decide), ra_sS]
  · rw [st, ra_sN (by decide), ra_sN (by decide), ra_sN (by decide), ra_sN (by decide), ra_sS]
  · rw [st, ra_sN (by decide), ra_sN (by decide), ra_sN (by decide), ra_sS]
