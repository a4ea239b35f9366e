/-! BEHIND PAYING -/
def its (u : S0) (r : Nat) : Int32 := 0 + 120 * km (rl_L u r) (pu u r) 0 + 48 * km (rl_L u r) (pu u r) 1 + 4 * km (rl_L u r) (pu u r) 2
theorem i32_j (s a b c : Int32) : 0 + 120 * a + 48 * b + 4 * c = s - (s - a * 120 - b * 48 - c * 4) := by grind
theorem i32_k (s x : Int32) : s - (s - x) = x := by grind
theorem its_e (u : S0) (r : Nat) : its u r = rl_L u r - ks (rl_L u r) (pu u r) 3 := i32_j _ _ _ _
section PA
variable {T : Nat} {u : S0} {r : Nat}
theorem pa_s (B : rB T u) (hr : r < u.2.1) : rf_sv (rf_py u r).2 r = its u r := by
  rw [st_sv, (py_L B hr).1, its_e]
  rfl
theorem pa_all (B : rB T u) : ∀ i : Nat, i ≤ u.2.1 → rf_sm (its u) i = (rf_py u i).1
  | 0, _ => rfl
  | i + 1, hi => by
    show rf_sm (its u) i + its u i = (rf_py u i).1 + rf_sv (rf_py u i).2 i
    rw [pa_all B i (by omega), pa_s B (by omega)]
theorem pa_k {k : Nat} (hk : k < 8) (hr : r < u.2.1) : (rf_pay u).1 k r = (rf_st (rf_py u r).2 r).1 k r := py_k hk u.2.1 hr
theorem pa_6 (B : rB T u) (hr : r < u.2.1) : (rf_pay u).1 6 r = u.1 6 r + its u r := by
  rw [pa_k (by decide) hr, st_rows.2.2.2.2.2.2.2.2.2.2.2.1, (py_L B hr).1, py_o B (by omega) (Nat.le_refl r) (by decide), its_e]
  rfl
theorem pa_4 (B : rB T u) (hr : r < u.2.1) : (rf_pay u).1 4 r = u.1 4 r - rf_tk u r := by
  rw [pa_k (by decide) hr, st_rows.2.2.2.2.2.2.2.2.2.1, (py_L B hr).2, py_o B (by omega) (Nat.le_refl r) (by decide)]
theorem pa_5 (B : rB T u) (hr : r < u.2.1) : (rf_pay u).1 5 r = ks (rl_L u r) (pu u r) 3 := by
  rw [pa_k (by decide) hr, st_rows.2.2.2.2.2.2.2.2.2.2.1, (py_L B hr).1]
  rfl
theorem pa_5i (B : rB T u) (hr : r < u.2.1) : (rf_pay u).1 5 r = rf_cm u r - rf_tk u r - its u r := by
  rw [pa_5 B hr, its_e]
  exact (i32_k (rl_L u r) _).symm
theorem pa_1 (hr : r < u.2.1) : (rf_pay u).1 1 r = 0 ∧ (rf_pay u).1 2 r = 0 ∧ (rf_pay u).1 3 r = 0 := by
  rw [pa_k (by decide) hr, pa_k (by decide) hr, pa_k (by decide) hr]
  exact ⟨st_rows.2.2.2.2.2.2.1, st_rows.2.2.2.2.2.2.2.1, st_rows.2.2.2.2.2.2.2.2.1⟩
theorem pu_b (B : rB T u) (hT1 : T + 1 ≤ 400) {i c : Nat} (hi : i ≤ u.2.1) (hc : c < 3) : 0 ≤ (pu u i c).toInt ∧ (pu u i c).toInt ≤ 500 * T := (pyI_py B i hi).2.2.2.1 c hc
theorem km_b (B : rB T u) (hT1 : T + 1 ≤ 400) (hr : r < u.2.1) : ((0 ≤ (km (rl_L u r) (pu u r) 0).toInt ∧ (km (rl_L u r) (pu u r) 0).toInt ≤ (pu u r 0).toInt) ∧ (0 ≤ (km (rl_L u r) (pu u r) 1).toInt ∧ (km (rl_L u r) (pu u r) 1).toInt ≤ (pu u r 1).toInt) ∧ (0 ≤ (km (rl_L u r) (pu u r) 2).toInt ∧ (km (rl_L u r) (pu u r) 2).toInt ≤ (pu u r 2).toInt)) ∧ 0 ≤ (ks (rl_L u r) (pu u r) 3).toInt := by
  have R := B.2.2.2.2.1 r (Nat.lt_of_lt_of_le hr B.1)
  have Lt := L_t B.2.2.1 R B.2.1
  obtain ⟨k0, k1, k2, k3, -⟩ := ks_all (p := pu u r) Lt.2 (fun c hc => (pu_b B hT1 (Nat.le_of_lt hr) hc).1)
  exact ⟨⟨k0, k1, k2⟩, k3⟩
theorem km_0 (B : rB T u) (hT1 : T + 1 ≤ 400) (hr : r < u.2.1) {c : Nat} (hc : c < 3) : ¬ km (rl_L u r) (pu u r) c < 0 := by
  obtain ⟨⟨k0, k1, k2⟩, -⟩ := km_b B hT1 hr
  rw [tI_lt, z32]
  rcases (show c = 0 ∨ c = 1 ∨ c = 2 by omega) with rfl | rfl | rfl <;> omega
theorem pa_5n (B : rB T u) (hT1 : T + 1 ≤ 400) (hr : r < u.2.1) : ¬ (rf_pay u).1 5 r < 0 := by
  rw [pa_5 B hr, tI_lt, z32]
  have := (km_b B hT1 hr).2
  omega
theorem pu_dec (B : rB T u) (hT1 : T + 1 ≤ 400) {c : Nat} (hc : c < 3) : ∀ (n i : Nat), i + n ≤ u.2.1 → (pu u (i + n) c).toInt ≤ (pu u i c).toInt
  | 0, i, _ => Int.le_refl _
  | n + 1, i, h => by
    have ih := pu_dec B hT1 hc n i (by omega)
    have b := pu_b B hT1 (i := i + n) (by omega) hc
    obtain ⟨⟨k0, k1, k2⟩, -⟩ := km_b B hT1 (r := i + n) (by omega)
    have kb : 0 ≤ (km (rl_L u (i + n)) (pu u (i + n)) c).toInt ∧ (km (rl_L u (i + n)) (pu u (i + n)) c).toInt ≤ (pu u (i + n) c).toInt := by
      rcases (show c = 0 ∨ c = 1 ∨ c = 2 by omega) with rfl | rfl | rfl
      · exact k0
      · exact k1
      · exact k2
    have hT := B.2.1
    have e := pu_1 B (i := i + n) (by omega) hc
    rw [show i + (n + 1) = i + n + 1 by omega, e, tI_sub (by omega) (by omega)]
    omega
theorem pa_8 {c : Nat} : (rf_pay u).1 8 c = pu u u.2.1 c := rfl
/-- no coin is kept that would go -/
theorem pa_c (B : rB T u) (hT1 : T + 1 ≤ 400) (hr : r < u.2.1) {c : Nat} (hc : c < 3) (h : rt_RX0_COIN_WORTH c ≤ (rf_pay u).1 5 r) : (rf_pay u).1 8 c ≤ 0 := by
  rw [pa_5 B hr, tI_le] at h
  rw [pa_8, tI_le, z32]
  have R := B.2.2.2.2.1 r (Nat.lt_of_lt_of_le hr B.1)
  have Lt := L_t B.2.2.1 R B.2.1
  have hp : ∀ c : Nat, c < 3 → 0 ≤ (pu u r c).toInt := fun c hc => (pu_b B hT1 (Nat.le_of_lt hr) hc).1
  have kn := ks_n Lt.2 hp
  have h0 : 0 ≤ (ks (rl_L u r) (pu u r) c).toInt := by
    rcases (show c = 0 ∨ c = 1 ∨ c = 2 by omega) with rfl | rfl | rfl
    · exact Lt.2
    · exact kn.1
    · exact kn.2.1
  obtain ⟨a1, a2, a3, a4, a5⟩ := km_t hp hc h0
  have mono : (ks (rl_L u r) (pu u r) 3).toInt ≤ (ks (rl_L u r) (pu u r) (c + 1)).toInt := by
    obtain ⟨-, b2, -, b4, -⟩ := km_t hp (c := 1) (by omega) kn.1
    obtain ⟨-, d2, -, d4, -⟩ := km_t hp (c := 2) (by omega) kn.2.1
    have w1 : (rt_RX0_COIN_WORTH 1).toInt = 48 := rfl
    have w2 : (rt_RX0_COIN_WORTH 2).toInt = 4 := rfl
    rw [w1] at b4
    rw [w2] at d4
    have z1 : (ks (rl_L u r) (pu u r) (0 + 1)).toInt = (ks (rl_L u r) (pu u r) 1).toInt := rfl
    have z2 : (ks (rl_L u r) (pu u r) (1 + 1)).toInt = (ks (rl_L u r) (pu u r) 2).toInt := rfl
    have z3 : (ks (rl_L u r) (pu u r) (2 + 1)).toInt = (ks (rl_L u r) (pu u r) 3).toInt := rfl
    rcases (show c = 0 ∨ c = 1 ∨ c = 2 by omega) with rfl | rfl | rfl <;> omega
  have w := cw_b hc
  have hfull : (km (rl_L u r) (pu u r) c).toInt = (pu u r c).toInt := by
    rcases (show (km (rl_L u r) (pu u r) c).toInt = (ks (rl_L u r) (pu u r) c).toInt / (rt_RX0_COIN_WORTH c).toInt ∨ (km (rl_L u r) (pu u r) c).toInt = (pu u r c).toInt by omega) with e | e
    · have := Int.lt_ediv_add_one_mul_self (ks (rl_L u r) (pu u r) c).toInt (show 0 < (rt_RX0_COIN_WORTH c).toInt by omega)
      rw [← e, Int.add_mul, Int.one_mul] at this
      omega
    · exact e
  have hT := B.2.1
  have b := pu_b B hT1 (Nat.le_of_lt hr) hc
  have z : (pu u (r + 1) c).toInt = 0 := by
    rw [pu_1 B hr hc, tI_sub (by omega) (by omega)]
    omega
  have d := pu_dec B hT1 hc (u.2.1 - (r + 1)) (r + 1) (by omega)
  rw [show r + 1 + (u.2.1 - (r + 1)) = u.2.1 by omega] at d
  omega
theorem pa_8n (B : rB T u) (hT1 : T + 1 ≤ 400) {c : Nat} (hc : c < 3) : ¬ (rf_pay u).1 8 c < 0 := by
  rw [pa_8, tI_lt, z32]
  have := pu_b B hT1 (Nat.le_refl _) hc
  omega
theorem pcI_0 {a m b : Int} (hm : 0 ≤ m) : pcI a 0 m b = 0 := by
  unfold pcI
  rw [show min 0 m = 0 by omega]
  simp
/-- a week begins without wages -/
theorem ww_0 (B : rB T u) (hr : r < 8) (h : u.1 1 r = 0 ∧ u.1 2 r = 0 ∧ u.1 3 r = 0) : rf_ww u 7 r = 0 := by
  have R := B.2.2.2.2.1 r hr
  have p0 : rf_pc u 7 r = 0 := by
    rw [tI_eq, tI_pc B.2.2.1 R, h.1]
    exact pcI_0 (by have := B.2.2.1.2.2.1; omega)
  have w0 : rf_hw u 7 r = 0 := by
    rw [tI_eq, (tI_hw B.2.2.1 R B.2.1).1, h.2.1, h.2.2]
    show (u.1 7 1).toInt * hcI 0 0 = 0
    rw [show hcI 0 0 = 0 from rfl, Int.mul_zero]
  unfold rf_ww
  rw [p0, w0]
  split
  · rfl
  · split
    · rfl
    · rfl
theorem pa_w (B : rB T u) (hT1 : T + 1 ≤ 400) (hr : r < u.2.1) : rf_ww (rf_pay u) 7 r = 0 := ww_0 (rB_pay B hT1) (Nat.lt_of_lt_of_le hr B.1) (pa_1 hr)
theorem i32_z (a : Int32) : 0 + a = a := by grind
theorem pa_cm (B : rB T u) (hT1 : T + 1 ≤ 400) (hr : r < u.2.1) : rf_cm (rf_pay u) r = (rf_pay u).1 5 r := by
  unfold rf_cm
  rw [pa_w B hT1 hr]
  exact i32_z _
/-! AHEAD OF PAYING -/
theorem pb_w0 (B : rB T u) (hr : r < u.2.1) : ¬ rf_ww u 7 r < 0 := by
  have := ww_bd B.2.2.1 (B.2.2.2.2.1 r (Nat.lt_of_lt_of_le hr B.1)) B.2.1
  rw [tI_lt, z32]
  omega
theorem pb_kd (B : rB T u) (hr : r < u.2.1) : u.1 0 r = 0 ∨ u.1 0 r = 1 ∨ u.1 0 r = 2 := by
  have R := (B.2.2.2.2.1 r (Nat.lt_of_lt_of_le hr B.1)).1
  rw [tI_eq, tI_eq, tI_eq]
  show (u.1 0 r).toInt = 0 ∨ (u.1 0 r).toInt = 1 ∨ (u.1 0 r).toInt = 2
  omega
theorem pb_0 (h : u.1 0 r = 0) : rf_ww u 7 r = rf_pc u 7 r := (rl_w0 h).symm
theorem pb_1 (h : u.1 0 r = 1) : rf_ww u 7 r = rf_hw u 7 r := by
  rw [rf_ww, if_neg (by rw [h]; decide), if_pos h]
theorem pb_2 (h : u.1 0 r = 2) : ¬ rf_ww u 7 r < rf_pc u 7 r ∧ ¬ rf_ww u 7 r < rf_hw u 7 r ∧ (¬ rf_ww u 7 r = rf_pc u 7 r → rf_ww u 7 r = rf_hw u 7 r) := by
  have e : (rf_ww u 7 r).toInt = max (rf_pc u 7 r).toInt (rf_hw u 7 r).toInt := by
    rw [rf_ww, if_neg (by rw [h]; decide), if_neg (by rw [h]; decide), tI_max]
  rw [tI_lt, tI_lt, tI_eq, tI_eq]
  omega
theorem pb_tk (B : rB T u) (hr : r < u.2.1) : ¬ rf_tk u r < 0 ∧ ¬ u.1 4 r < rf_tk u r ∧ ¬ rf_cm u r < rf_tk u r := by
  have k := tk_t B.2.2.1 (B.2.2.2.2.1 r (Nat.lt_of_lt_of_le hr B.1)) B.2.1
  rw [tI_lt, tI_lt, tI_lt, z32]
  omega
theorem pb_h1 (B : rB T u) (hr : r < u.2.1) (h : ¬ u.1 2 r ≤ 60) : rf_hc u r ≤ u.1 2 r + (u.1 2 r - 60) / 2 := by
  have R := B.2.2.2.2.1 r (Nat.lt_of_lt_of_le hr B.1)
  have e := tI_hc R B.2.1
  have h2 := R.2.2.1
  have h3 := R.2.2.2.1
  have s : (60 : Int32).toInt = 60 := rfl
  rw [tI_le, s] at h
  have e1 : (u.1 2 r - 60).toInt = (u.1 2 r).toInt - 60 := by rw [tI_sub (by rw [s]; omega) (by rw [s]; omega), s]
  have e2 : ((u.1 2 r - 60) / 2).toInt = ((u.1 2 r).toInt - 60) / 2 := by rw [tI_div (by omega) (by decide), e1]; rfl
  rw [tI_le, e, tI_add (by omega) (by omega), e2]
  unfold hcI
  omega
theorem pb_h2 (B : rB T u) (hr : r < u.2.1) (h : u.1 2 r ≤ 60) : rf_hc u r ≤ u.1 2 r + 0 := by
  have R := B.2.2.2.2.1 r (Nat.lt_of_lt_of_le hr B.1)
  have e := tI_hc R B.2.1
  have h2 := R.2.2.1
  have h3 := R.2.2.2.1
  rw [tI_le, show (60 : Int32).toInt = 60 from rfl] at h
  rw [i32_0, tI_le, e]
  unfold hcI
  omega
end PA
