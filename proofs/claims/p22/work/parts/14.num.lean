/-! NUMBERS: 32-bit sums, differences, products, quotients that stay in their range are those of whole numbers -/
theorem tI_add {a b : Int32} (h1 : -2147483648 ≤ a.toInt + b.toInt) (h2 : a.toInt + b.toInt < 2147483648) : (a + b).toInt = a.toInt + b.toInt := by
  rw [Int32.toInt_add]
  exact Int.bmod_eq_of_le (by omega) (by omega)
theorem tI_sub {a b : Int32} (h1 : -2147483648 ≤ a.toInt - b.toInt) (h2 : a.toInt - b.toInt < 2147483648) : (a - b).toInt = a.toInt - b.toInt := by
  rw [Int32.toInt_sub]
  exact Int.bmod_eq_of_le (by omega) (by omega)
theorem tI_mul {a b : Int32} (h1 : -2147483648 ≤ a.toInt * b.toInt) (h2 : a.toInt * b.toInt < 2147483648) : (a * b).toInt = a.toInt * b.toInt := by
  rw [Int32.toInt_mul]
  exact Int.bmod_eq_of_le (by omega) (by omega)
theorem tI_rng (a : Int32) : -2147483648 ≤ a.toInt ∧ a.toInt < 2147483648 := ⟨Int32.le_toInt a, Int32.toInt_lt a⟩
theorem tI_div {a b : Int32} (ha : 0 ≤ a.toInt) (hb : 0 < b.toInt) : (a / b).toInt = a.toInt / b.toInt := by
  have h1 : 0 ≤ a.toInt / b.toInt := Int.ediv_nonneg ha (by omega)
  have h2 : a.toInt / b.toInt ≤ a.toInt := Int.ediv_le_self _ ha
  have h3 := (tI_rng a).2
  rw [Int32.toInt_div, Int.tdiv_eq_ediv_of_nonneg ha]
  exact Int.bmod_eq_of_le (by omega) (by omega)
theorem tI_eq {a b : Int32} : a = b ↔ a.toInt = b.toInt := Int32.toInt_inj.symm
theorem tI_lt {a b : Int32} : a < b ↔ a.toInt < b.toInt := Int32.lt_iff_toInt_lt
theorem tI_le {a b : Int32} : a ≤ b ↔ a.toInt ≤ b.toInt := Int32.le_iff_toInt_le
theorem tI_min (x y : Int32) : (rf_min x y).toInt = min x.toInt y.toInt := by
  unfold rf_min
  split
  · rename_i h
    rw [tI_lt] at h
    omega
  · rename_i h
    rw [tI_lt] at h
    omega
theorem tI_max (x y : Int32) : (rf_max x y).toInt = max x.toInt y.toInt := by
  unfold rf_max
  split
  · rename_i h
    rw [tI_lt] at h
    omega
  · rename_i h
    rw [tI_lt] at h
    omega
theorem tI_wp {n d : Int32} (hn : 0 ≤ n.toInt) (hd : 1 ≤ d.toInt) : (rf_wp n d).toInt = n.toInt / d.toInt := by
  have hd' : (1 : Int32) ≤ d := tI_le.mpr (show (1 : Int32).toInt ≤ d.toInt from hd)
  rw [rf_wp, if_pos hd']
  exact tI_div hn (by omega)
theorem tI_nI {n : Nat} (h : n < 2147483648) : (nI n).toInt = n := nI_toInt h
/-! THE BOUNDS of a book after T acts and pays -/
def rR (T : Nat) (u : S0) (r : Nat) : Prop := (0 ≤ (u.1 0 r).toInt ∧ (u.1 0 r).toInt ≤ 2) ∧ (0 ≤ (u.1 1 r).toInt ∧ (u.1 1 r).toInt ≤ 5999) ∧ (0 ≤ (u.1 2 r).toInt ∧ (u.1 2 r).toInt ≤ 99) ∧ (0 ≤ (u.1 3 r).toInt ∧ (u.1 3 r).toInt ≤ T) ∧ (0 ≤ (u.1 4 r).toInt ∧ (u.1 4 r).toInt ≤ 5000) ∧ 0 ≤ (u.1 5 r).toInt ∧ 0 ≤ (u.1 6 r).toInt ∧ (u.1 5 r).toInt + (u.1 6 r).toInt ≤ 60000 * T
def rV (u : S0) : Prop := (1 ≤ (u.1 7 0).toInt ∧ (u.1 7 0).toInt ≤ 40) ∧ (1 ≤ (u.1 7 1).toInt ∧ (u.1 7 1).toInt ≤ 99) ∧ (100 ≤ (u.1 7 2).toInt ∧ (u.1 7 2).toInt ≤ 900) ∧ (0 ≤ (u.1 7 3).toInt ∧ (u.1 7 3).toInt ≤ 100) ∧ (1 ≤ (u.1 7 4).toInt ∧ (u.1 7 4).toInt ≤ 9)
def rC (T : Nat) (u : S0) : Prop := ∀ c : Nat, c < 3 → 0 ≤ (u.1 8 c).toInt ∧ (u.1 8 c).toInt ≤ 500 * T
def rB (T : Nat) (u : S0) : Prop := u.2.1 ≤ 8 ∧ T ≤ 400 ∧ rV u ∧ rC T u ∧ (∀ r : Nat, r < 8 → rR T u r) ∧ ∀ r k : Nat, u.2.1 ≤ r → r < 8 → 1 ≤ k → k < 7 → u.1 k r = 0
theorem rR.mono {T T' : Nat} {u : S0} {r : Nat} (h : rR T u r) (hT : T ≤ T') : rR T' u r := by
  obtain ⟨h0, h1, h2, h3, h4, h5, h6, h7⟩ := h
  exact ⟨h0, h1, h2, ⟨h3.1, by omega⟩, h4, h5, h6, by omega⟩
/-! what counts: hours -/
def hcI (h l : Int) : Int := max 0 (h - (l + 1) / 2) + max 0 (max 0 (h - (l + 1) / 2) - 60) / 2
theorem tI_hc {T : Nat} {u : S0} {r : Nat} (B : rR T u r) (hT : T ≤ 400) : (rf_hc u r).toInt = hcI (u.1 2 r).toInt (u.1 3 r).toInt := by
  obtain ⟨-, -, h2, h3, -⟩ := B
  have e1 : (u.1 3 r + 1).toInt = (u.1 3 r).toInt + 1 := tI_add (by rw [show (1 : Int32).toInt = 1 from rfl]; omega) (by rw [show (1 : Int32).toInt = 1 from rfl]; omega)
  have e2 : ((u.1 3 r + 1) / 2).toInt = ((u.1 3 r).toInt + 1) / 2 := by
    rw [tI_div (by omega) (by decide), e1]; rfl
  have e3 : (u.1 2 r - (u.1 3 r + 1) / 2).toInt = (u.1 2 r).toInt - ((u.1 3 r).toInt + 1) / 2 := by
    rw [tI_sub (by omega) (by omega), e2]
  have e4 : (rf_max 0 (u.1 2 r - (u.1 3 r + 1) / 2)).toInt = max 0 ((u.1 2 r).toInt - ((u.1 3 r).toInt + 1) / 2) := by
    rw [tI_max, e3]; rfl
  have e5 : (rf_max 0 (u.1 2 r - (u.1 3 r + 1) / 2) - 60).toInt = max 0 ((u.1 2 r).toInt - ((u.1 3 r).toInt + 1) / 2) - 60 := by
    rw [tI_sub (by rw [show (60 : Int32).toInt = 60 from rfl]; omega) (by rw [show (60 : Int32).toInt = 60 from rfl]; omega), e4]; rfl
  have e6 : (rf_max 0 (rf_max 0 (u.1 2 r - (u.1 3 r + 1) / 2) - 60)).toInt = max 0 (max 0 ((u.1 2 r).toInt - ((u.1 3 r).toInt + 1) / 2) - 60) := by
    rw [tI_max, e5]; rfl
  have e7 : (rf_max 0 (rf_max 0 (u.1 2 r - (u.1 3 r + 1) / 2) - 60) / 2).toInt = max 0 (max 0 ((u.1 2 r).toInt - ((u.1 3 r).toInt + 1) / 2) - 60) / 2 := by
    rw [tI_div (by omega) (by decide), e6]; rfl
  unfold rf_hc hcI
  rw [tI_add (by omega) (by omega), e4, e7]
theorem hcI_b {h l : Int} (h0 : 0 ≤ h) (h1 : h ≤ 99) (l0 : 0 ≤ l) : 0 ≤ hcI h l ∧ hcI h l ≤ 119 := by
  unfold hcI
  omega
/-- the law's way to count hours -/
def rl_x (u : S0) (r : Nat) : Int32 := u.1 2 r - u.1 3 r / 2 - (u.1 3 r - u.1 3 r / 2 * 2)
theorem tI_lx {T : Nat} {u : S0} {r : Nat} (B : rR T u r) (hT : T ≤ 400) : (rl_x u r).toInt = (u.1 2 r).toInt - ((u.1 3 r).toInt + 1) / 2 := by
  obtain ⟨-, -, h2, h3, -⟩ := B
  have e1 : (u.1 3 r / 2).toInt = (u.1 3 r).toInt / 2 := tI_div (by omega) (by decide)
  have e2 : (u.1 3 r / 2 * 2).toInt = (u.1 3 r).toInt / 2 * 2 := by
    rw [tI_mul (by rw [show (2 : Int32).toInt = 2 from rfl]; omega) (by rw [show (2 : Int32).toInt = 2 from rfl]; omega), e1]; rfl
  have e3 : (u.1 3 r - u.1 3 r / 2 * 2).toInt = (u.1 3 r).toInt - (u.1 3 r).toInt / 2 * 2 := by
    rw [tI_sub (by omega) (by omega), e2]
  have e4 : (u.1 2 r - u.1 3 r / 2).toInt = (u.1 2 r).toInt - (u.1 3 r).toInt / 2 := by
    rw [tI_sub (by omega) (by omega), e1]
  unfold rl_x
  rw [tI_sub (by omega) (by omega), e4, e3]
  omega
theorem rl_c1 {T : Nat} {u : S0} {r : Nat} (B : rR T u r) (hT : T ≤ 400) (h : ¬ 0 ≤ rl_x u r) : (0 : Int32) = rf_hc u r := by
  rw [tI_le, tI_lx B hT] at h
  have h : ¬ 0 ≤ (u.1 2 r).toInt - ((u.1 3 r).toInt + 1) / 2 := h
  rw [tI_eq, tI_hc B hT]
  show (0 : Int) = _
  unfold hcI
  omega
theorem rl_c2 {T : Nat} {u : S0} {r : Nat} (B : rR T u r) (hT : T ≤ 400) (h : 0 ≤ rl_x u r) (h2 : ¬ 60 < rl_x u r) : rl_x u r = rf_hc u r := by
  rw [tI_le, tI_lx B hT] at h
  rw [tI_lt, tI_lx B hT] at h2
  have h : 0 ≤ (u.1 2 r).toInt - ((u.1 3 r).toInt + 1) / 2 := h
  have h2 : ¬ 60 < (u.1 2 r).toInt - ((u.1 3 r).toInt + 1) / 2 := h2
  rw [tI_eq, tI_hc B hT, tI_lx B hT]
  unfold hcI
  omega
theorem rl_c3 {T : Nat} {u : S0} {r : Nat} (B : rR T u r) (hT : T ≤ 400) (h2 : 60 < rl_x u r) : (120 + 3 * (rl_x u r - 60)) / 2 = rf_hc u r := by
  have e0 := tI_lx B hT
  rw [tI_lt, e0] at h2
  have h2 : 60 < (u.1 2 r).toInt - ((u.1 3 r).toInt + 1) / 2 := h2
  have hh := B.2.2.1
  have hl := B.2.2.2.1
  have e1 : (rl_x u r - 60).toInt = (u.1 2 r).toInt - ((u.1 3 r).toInt + 1) / 2 - 60 := by
    rw [tI_sub (by rw [show (60 : Int32).toInt = 60 from rfl]; omega) (by rw [show (60 : Int32).toInt = 60 from rfl]; omega), e0]; rfl
  have e2 : (3 * (rl_x u r - 60)).toInt = 3 * ((u.1 2 r).toInt - ((u.1 3 r).toInt + 1) / 2 - 60) := by
    rw [tI_mul (by rw [show (3 : Int32).toInt = 3 from rfl]; omega) (by rw [show (3 : Int32).toInt = 3 from rfl]; omega), e1]; rfl
  have e3 : (120 + 3 * (rl_x u r - 60)).toInt = 120 + 3 * ((u.1 2 r).toInt - ((u.1 3 r).toInt + 1) / 2 - 60) := by
    rw [tI_add (by rw [show (120 : Int32).toInt = 120 from rfl]; omega) (by rw [show (120 : Int32).toInt = 120 from rfl]; omega), e2]; rfl
  rw [tI_eq, tI_hc B hT, tI_div (by omega) (by decide), e3]
  show (120 + 3 * ((u.1 2 r).toInt - ((u.1 3 r).toInt + 1) / 2 - 60)) / 2 = _
  unfold hcI
  omega
/-! wages by pieces -/
def pcI (a s m b : Int) : Int := a * min s m / 10 + a * (s - min s m) * (100 + b) / 1000
theorem pc_b {a s m b : Int} (ha : 1 ≤ a ∧ a ≤ 40) (hs : 0 ≤ s ∧ s ≤ 5999) (hm : 100 ≤ m ∧ m ≤ 900) (hb : 0 ≤ b ∧ b ≤ 100) : (0 ≤ a * min s m ∧ a * min s m ≤ 36000) ∧ (0 ≤ a * (s - min s m) ∧ a * (s - min s m) ≤ 239960) ∧ 0 ≤ a * (s - min s m) * (100 + b) ∧ a * (s - min s m) * (100 + b) ≤ 47992000 := by
  have m0 : 0 ≤ min s m ∧ min s m ≤ 900 := by omega
  have m1 : 0 ≤ s - min s m ∧ s - min s m ≤ 5999 := by omega
  generalize min s m = x at m0 m1
  have h1 : 0 ≤ a * x := Int.mul_nonneg (by omega) m0.1
  have h2 : a * x ≤ 40 * 900 := Int.mul_le_mul ha.2 m0.2 m0.1 (by omega)
  generalize s - x = y at m1
  have h3 : 0 ≤ a * y := Int.mul_nonneg (by omega) m1.1
  have h4 : a * y ≤ 40 * 5999 := Int.mul_le_mul ha.2 m1.2 m1.1 (by omega)
  have h5 : 0 ≤ a * y * (100 + b) := Int.mul_nonneg h3 (by omega)
  have h6 : a * y * (100 + b) ≤ 239960 * 200 := Int.mul_le_mul (by omega) (by omega) (by omega) (by omega)
  omega
theorem pcI_b {a s m b : Int} (ha : 1 ≤ a ∧ a ≤ 40) (hs : 0 ≤ s ∧ s ≤ 5999) (hm : 100 ≤ m ∧ m ≤ 900) (hb : 0 ≤ b ∧ b ≤ 100) : 0 ≤ pcI a s m b ∧ pcI a s m b ≤ 51592 := by
  obtain ⟨h1, h2, h3⟩ := pc_b ha hs hm hb
  unfold pcI
  omega
theorem tL_mul {a b : Int64} (h1 : -9223372036854775808 ≤ a.toInt * b.toInt) (h2 : a.toInt * b.toInt < 9223372036854775808) : (a * b).toInt = a.toInt * b.toInt := by
  rw [Int64.toInt_mul]
  exact Int.bmod_eq_of_le (by omega) (by omega)
theorem tL_div {a b : Int64} (ha : 0 ≤ a.toInt) (hb : 0 < b.toInt) : (a / b).toInt = a.toInt / b.toInt := by
  have h1 : 0 ≤ a.toInt / b.toInt := Int.ediv_nonneg ha (by omega)
  have h2 : a.toInt / b.toInt ≤ a.toInt := Int.ediv_le_self _ ha
  have h3 := Int64.toInt_lt a
  rw [Int64.toInt_div, Int.tdiv_eq_ediv_of_nonneg ha]
  exact Int.bmod_eq_of_le (by omega) (by omega)
theorem tL_32 {a : Int64} (h1 : -2147483648 ≤ a.toInt) (h2 : a.toInt < 2147483648) : a.toInt32.toInt = a.toInt := by
  rw [Int64.toInt_toInt32]
  exact Int.bmod_eq_of_le (by omega) (by omega)
theorem tI_pc {T : Nat} {u : S0} {r : Nat} (V : rV u) (B : rR T u r) : (rf_pc u 7 r).toInt = pcI (u.1 7 0).toInt (u.1 1 r).toInt (u.1 7 2).toInt (u.1 7 3).toInt := by
  obtain ⟨v0, -, v2, v3, -⟩ := V
  obtain ⟨-, s1, -⟩ := B
  obtain ⟨b1, b2, b3⟩ := pc_b v0 s1 v2 v3
  have e1 := tI_min (u.1 1 r) (u.1 7 2)
  have e2 : (u.1 7 0 * rf_min (u.1 1 r) (u.1 7 2)).toInt = (u.1 7 0).toInt * min (u.1 1 r).toInt (u.1 7 2).toInt := by
    rw [tI_mul (by rw [e1]; omega) (by rw [e1]; omega), e1]
  have e3 : (u.1 7 0 * rf_min (u.1 1 r) (u.1 7 2) / 10).toInt = (u.1 7 0).toInt * min (u.1 1 r).toInt (u.1 7 2).toInt / 10 := by
    rw [tI_div (by rw [e2]; omega) (by decide), e2]; rfl
  have e4 : (u.1 1 r - rf_min (u.1 1 r) (u.1 7 2)).toInt = (u.1 1 r).toInt - min (u.1 1 r).toInt (u.1 7 2).toInt := by
    rw [tI_sub (by rw [e1]; omega) (by rw [e1]; omega), e1]
  have e5 : (100 + u.1 7 3).toInt = 100 + (u.1 7 3).toInt := tI_add (by rw [show (100 : Int32).toInt = 100 from rfl]; omega) (by rw [show (100 : Int32).toInt = 100 from rfl]; omega)
  have e6 : (Int32.toInt64 (u.1 7 0) * Int32.toInt64 (u.1 1 r - rf_min (u.1 1 r) (u.1 7 2))).toInt = (u.1 7 0).toInt * ((u.1 1 r).toInt - min (u.1 1 r).toInt (u.1 7 2).toInt) := by
    have g1 : (Int32.toInt64 (u.1 7 0)).toInt * (Int32.toInt64 (u.1 1 r - rf_min (u.1 1 r) (u.1 7 2))).toInt = (u.1 7 0).toInt * ((u.1 1 r).toInt - min (u.1 1 r).toInt (u.1 7 2).toInt) := by rw [Int32.toInt_toInt64, Int32.toInt_toInt64, e4]
    rw [tL_mul (by rw [g1]; omega) (by rw [g1]; omega), g1]
  have e7 : (Int32.toInt64 (u.1 7 0) * Int32.toInt64 (u.1 1 r - rf_min (u.1 1 r) (u.1 7 2)) * Int32.toInt64 (100 + u.1 7 3)).toInt = (u.1 7 0).toInt * ((u.1 1 r).toInt - min (u.1 1 r).toInt (u.1 7 2).toInt) * (100 + (u.1 7 3).toInt) := by
    have g1 : (Int32.toInt64 (u.1 7 0) * Int32.toInt64 (u.1 1 r - rf_min (u.1 1 r) (u.1 7 2))).toInt * (Int32.toInt64 (100 + u.1 7 3)).toInt = (u.1 7 0).toInt * ((u.1 1 r).toInt - min (u.1 1 r).toInt (u.1 7 2).toInt) * (100 + (u.1 7 3).toInt) := by rw [e6, Int32.toInt_toInt64, e5]
    rw [tL_mul (by rw [g1]; omega) (by rw [g1]; omega), g1]
  have e8 : (Int32.toInt64 (u.1 7 0) * Int32.toInt64 (u.1 1 r - rf_min (u.1 1 r) (u.1 7 2)) * Int32.toInt64 (100 + u.1 7 3) / 1000).toInt = (u.1 7 0).toInt * ((u.1 1 r).toInt - min (u.1 1 r).toInt (u.1 7 2).toInt) * (100 + (u.1 7 3).toInt) / 1000 := by
    rw [tL_div (by rw [e7]; omega) (by decide), e7]; rfl
  have e9 : (Int64.toInt32 (Int32.toInt64 (u.1 7 0) * Int32.toInt64 (u.1 1 r - rf_min (u.1 1 r) (u.1 7 2)) * Int32.toInt64 (100 + u.1 7 3) / 1000)).toInt = (u.1 7 0).toInt * ((u.1 1 r).toInt - min (u.1 1 r).toInt (u.1 7 2).toInt) * (100 + (u.1 7 3).toInt) / 1000 := by
    rw [tL_32 (by rw [e8]; omega) (by rw [e8]; omega), e8]
  unfold rf_pc pcI
  rw [tI_add (by rw [e3, e9]; omega) (by rw [e3, e9]; omega), e3, e9]
/-- the law's way -/
theorem rl_pc {T : Nat} {u : S0} {r : Nat} (V : rV u) (B : rR T u r) {x : Int32} (hx : x.toInt = min (u.1 1 r).toInt (u.1 7 2).toInt) : u.1 7 0 * x / 10 + u.1 7 0 * (u.1 1 r - x) * (100 + u.1 7 3) / 1000 = rf_pc u 7 r := by
  rw [tI_eq, tI_pc V B]
  obtain ⟨v0, -, v2, v3, -⟩ := V
  obtain ⟨-, s1, -⟩ := B
  obtain ⟨b1, b2, b3⟩ := pc_b v0 s1 v2 v3
  have e2 : (u.1 7 0 * x).toInt = (u.1 7 0).toInt * min (u.1 1 r).toInt (u.1 7 2).toInt := by
    rw [tI_mul (by rw [hx]; omega) (by rw [hx]; omega), hx]
  have e3 : (u.1 7 0 * x / 10).toInt = (u.1 7 0).toInt * min (u.1 1 r).toInt (u.1 7 2).toInt / 10 := by
    rw [tI_div (by rw [e2]; omega) (by decide), e2]; rfl
  have e4 : (u.1 1 r - x).toInt = (u.1 1 r).toInt - min (u.1 1 r).toInt (u.1 7 2).toInt := by
    rw [tI_sub (by rw [hx]; omega) (by rw [hx]; omega), hx]
  have e5 : (100 + u.1 7 3).toInt = 100 + (u.1 7 3).toInt := tI_add (by rw [show (100 : Int32).toInt = 100 from rfl]; omega) (by rw [show (100 : Int32).toInt = 100 from rfl]; omega)
  have e6 : (u.1 7 0 * (u.1 1 r - x)).toInt = (u.1 7 0).toInt * ((u.1 1 r).toInt - min (u.1 1 r).toInt (u.1 7 2).toInt) := by
    rw [tI_mul (by rw [e4]; omega) (by rw [e4]; omega), e4]
  have e7 : (u.1 7 0 * (u.1 1 r - x) * (100 + u.1 7 3)).toInt = (u.1 7 0).toInt * ((u.1 1 r).toInt - min (u.1 1 r).toInt (u.1 7 2).toInt) * (100 + (u.1 7 3).toInt) := by
    rw [tI_mul (by rw [e6, e5]; omega) (by rw [e6, e5]; omega), e6, e5]
  have e8 : (u.1 7 0 * (u.1 1 r - x) * (100 + u.1 7 3) / 1000).toInt = (u.1 7 0).toInt * ((u.1 1 r).toInt - min (u.1 1 r).toInt (u.1 7 2).toInt) * (100 + (u.1 7 3).toInt) / 1000 := by
    rw [tI_div (by rw [e7]; omega) (by decide), e7]; rfl
  unfold pcI
  rw [tI_add (by rw [e3, e8]; omega) (by rw [e3, e8]; omega), e3, e8]
theorem rl_m1 {x y : Int32} (h : x < y) : x.toInt = min x.toInt y.toInt := by
  rw [tI_lt] at h
  omega
theorem rl_m2 {x y : Int32} (h : ¬ x < y) : y.toInt = min x.toInt y.toInt := by
  rw [tI_lt] at h
  omega
/-! the law's way to choose a wage -/
theorem rl_w0 {u : S0} {r : Nat} (h : u.1 0 r = 0) : rf_pc u 7 r = rf_ww u 7 r := by rw [rf_ww, if_pos h]
theorem rl_w1 {T : Nat} {u : S0} {r : Nat} (B : rR T u r) (h : ¬ u.1 0 r = 0) (h2 : ¬ u.1 0 r = 2) : rf_hw u 7 r = rf_ww u 7 r := by
  have h1 : u.1 0 r = 1 := by
    rw [tI_eq] at h h2 ⊢
    have h : ¬ (u.1 0 r).toInt = 0 := h
    have h2 : ¬ (u.1 0 r).toInt = 2 := h2
    show (u.1 0 r).toInt = 1
    have := B.1
    omega
  rw [rf_ww, if_neg h, if_pos h1]
theorem rl_w2 {u : S0} {r : Nat} (h : u.1 0 r = 2) (h2 : rf_pc u 7 r ≤ rf_hw u 7 r) : rf_hw u 7 r = rf_ww u 7 r := by
  rw [rf_ww, if_neg (by rw [h]; decide), if_neg (by rw [h]; decide), tI_eq, tI_max]
  rw [tI_le] at h2
  omega
theorem rl_w3 {u : S0} {r : Nat} (h : u.1 0 r = 2) (h2 : ¬ rf_pc u 7 r ≤ rf_hw u 7 r) : rf_pc u 7 r = rf_ww u 7 r := by
  rw [rf_ww, if_neg (by rw [h]; decide), if_neg (by rw [h]; decide), tI_eq, tI_max]
  rw [tI_le] at h2
  omega
theorem rl_nz {u : S0} (V : rV u) : ¬ u.1 7 4 = 0 := by
  intro h
  rw [tI_eq] at h
  have h : (u.1 7 4).toInt = 0 := h
  have := V.2.2.2.2
  omega
theorem rl_wp {u : S0} (V : rV u) {x : Int32} : rf_wp x (u.1 7 4) = x / u.1 7 4 := by
  have h : (1 : Int32) ≤ u.1 7 4 := tI_le.mpr (show (1 : Int32).toInt ≤ _ from V.2.2.2.2.1)
  rw [rf_wp, if_pos h]
theorem rl_b1 {u : S0} {r : Nat} (V : rV u) (h : ¬ (rf_ww u 7 r + u.1 5 r) / u.1 7 4 ≤ u.1 4 r) : u.1 4 r = rf_tk u r := by
  unfold rf_tk rf_tb rf_cm
  rw [rl_wp V, rf_min, if_neg (fun h2 => h (tI_le.mpr (by rw [tI_lt] at h2; omega)))]
theorem rl_b2 {u : S0} {r : Nat} (V : rV u) (h : (rf_ww u 7 r + u.1 5 r) / u.1 7 4 ≤ u.1 4 r) : (rf_ww u 7 r + u.1 5 r) / u.1 7 4 = rf_tk u r := by
  unfold rf_tk rf_tb rf_cm
  rw [rl_wp V, tI_eq, tI_min]
  rw [tI_le] at h
  omega
