/-! a week paid keeps the bounds -/
theorem z32 : (0 : Int32).toInt = 0 := rfl
def pyI (T : Nat) (u : S0) (i : Nat) (v : S0) : Prop := v.2 = u.2 ∧ v.1 0 = u.1 0 ∧ v.1 7 = u.1 7 ∧ rC T v ∧ (∀ k r : Nat, k < 7 → i ≤ r → v.1 k r = u.1 k r) ∧ ∀ r : Nat, r < i → rR (T + 1) v r ∧ v.1 1 r = 0 ∧ v.1 2 r = 0 ∧ v.1 3 r = 0
theorem rR.of {T : Nat} {u v : S0} {r : Nat} (h : rR T u r) (e : ∀ k : Nat, k < 7 → v.1 k r = u.1 k r) : rR T v r := by
  unfold rR
  rw [e 0 (by decide), e 1 (by decide), e 2 (by decide), e 3 (by decide), e 4 (by decide), e 5 (by decide), e 6 (by decide)]
  exact h
theorem rV.of {u v : S0} (h : rV u) (e : v.1 7 = u.1 7) : rV v := by
  unfold rV
  rw [e]
  exact h
theorem pyI_0 {T : Nat} {u : S0} (B : rB T u) : pyI T u 0 u := ⟨rfl, rfl, rfl, B.2.2.2.1, fun _ _ _ _ => rfl, fun r h => absurd h (Nat.not_lt_zero r)⟩
theorem pyI_R {T : Nat} {u v : S0} {i r : Nat} (B : rB T u) (h : pyI T u i v) (hi : i ≤ r) (hr : r < 8) : rR T v r := (B.2.2.2.2.1 r hr).of fun k hk => h.2.2.2.2.1 k r hk hi
theorem st_R {T : Nat} {v : S0} {i : Nat} (V : rV v) (hT : T ≤ 400) (C : rC T v) (R : rR T v i) : rR (T + 1) (rf_st v i) i := by
  obtain ⟨t2, t8, t13, to, t0, t7, t1, t2', t3, t4, t5, t6, tsv⟩ := st_rows (u := v) (r := i)
  have hp : ∀ c : Nat, c < 3 → 0 ≤ (v.1 8 c).toInt := fun c hc => (C c hc).1
  have Lt := L_t V R hT
  have ct := cm_t V R hT
  have kt := tk_t V R hT
  have wt := ww_bd V R hT
  obtain ⟨k0, k1, k2, k3, k4⟩ := ks_all Lt.2 hp
  obtain ⟨r0, r1, r2, r3, r4, r5, r6, r7⟩ := R
  have e4 : (v.1 4 i - rf_tk v i).toInt = (v.1 4 i).toInt - (rf_tk v i).toInt := tI_sub (by omega) (by omega)
  have e5 : (rl_L v i - ks (rl_L v i) (v.1 8) 3).toInt = (rl_L v i).toInt - (ks (rl_L v i) (v.1 8) 3).toInt := tI_sub (by omega) (by omega)
  have e6 : (v.1 6 i + (rl_L v i - ks (rl_L v i) (v.1 8) 3)).toInt = (v.1 6 i).toInt + ((rl_L v i).toInt - (ks (rl_L v i) (v.1 8) 3).toInt) := by
    rw [tI_add (by rw [e5]; omega) (by rw [e5]; omega), e5]
  unfold rR
  rw [t0, t1, t2', t3, t4, t5, t6, e4, e6, z32]
  refine ⟨r0, by omega, by omega, by omega, by omega, by omega, by omega, by omega⟩
theorem st_C {T : Nat} {v : S0} {i : Nat} (V : rV v) (hT : T ≤ 400) (C : rC T v) (R : rR T v i) : ∀ c : Nat, c < 3 → ((rf_st v i).1 8 c).toInt = (v.1 8 c).toInt - (km (rl_L v i) (v.1 8) c).toInt ∧ 0 ≤ ((rf_st v i).1 8 c).toInt ∧ 0 ≤ (km (rl_L v i) (v.1 8) c).toInt := by
  intro c hc
  obtain ⟨t2, t8, -⟩ := st_rows (u := v) (r := i)
  have hp : ∀ c : Nat, c < 3 → 0 ≤ (v.1 8 c).toInt := fun c hc => (C c hc).1
  have Lt := L_t V R hT
  obtain ⟨k0, k1, k2, k3, k4⟩ := ks_all Lt.2 hp
  have hk : 0 ≤ (km (rl_L v i) (v.1 8) c).toInt ∧ (km (rl_L v i) (v.1 8) c).toInt ≤ (v.1 8 c).toInt := by
    rcases (show c = 0 ∨ c = 1 ∨ c = 2 by omega) with rfl | rfl | rfl
    · exact k0
    · exact k1
    · exact k2
  have b := (C c hc)
  rw [t8 c, if_pos hc, tI_sub (by omega) (by omega)]
  omega
theorem pyI_1 {T : Nat} {u v : S0} {i : Nat} (B : rB T u) (hi : i < u.2.1) (h : pyI T u i v) : pyI T u (i + 1) (rf_st v i) := by
  have h8 := B.1
  have hT := B.2.1
  have V : rV v := B.2.2.1.of h.2.2.1
  have R := pyI_R B h (Nat.le_refl i) (by omega)
  have sR := st_R V hT h.2.2.2.1 R
  have sC := st_C V hT h.2.2.2.1 R
  obtain ⟨t2, t8, t13, to, t0, t7, t1, t2', t3, -⟩ := st_rows (u := v) (r := i)
  obtain ⟨a2, a0, a7, aC, ak, ar⟩ := h
  refine ⟨t2.trans a2, t0.trans a0, t7.trans a7, fun c hc => ?_, fun k r hk hr => ?_, fun r hr => ?_⟩
  · have := sC c hc
    have := aC c hc
    omega
  · rw [to k r (by omega) (by omega)]
    exact ak k r hk (by omega)
  · by_cases e : r = i
    · subst e
      exact ⟨sR, t1, t2', t3⟩
    · obtain ⟨b1, b2, b3, b4⟩ := ar r (by omega)
      exact ⟨b1.of fun k hk => to k r (by omega) e, by rw [to 1 r (by decide) e, b2], by rw [to 2 r (by decide) e, b3], by rw [to 3 r (by decide) e, b4]⟩
theorem pyI_py {T : Nat} {u : S0} (B : rB T u) : ∀ i : Nat, i ≤ u.2.1 → pyI T u i (rf_py u i).2
  | 0, _ => pyI_0 B
  | i + 1, h => pyI_1 B h (pyI_py B i (Nat.le_of_succ_le h))
theorem pyI_B {T : Nat} {u v : S0} {i : Nat} (B : rB T u) (hT : T + 1 ≤ 400) (hi : i ≤ u.2.1) (h : pyI T u i v) : rB (T + 1) v := by
  obtain ⟨a2, a0, a7, aC, ak, ar⟩ := id h
  refine ⟨by rw [a2]; exact B.1, hT, B.2.2.1.of a7, fun c hc => ?_, fun r hr => ?_, fun r k hr h8 hk1 hk7 => ?_⟩
  · have := aC c hc
    omega
  · by_cases hri : r < i
    · exact (ar r hri).1
    · exact (pyI_R B h (by omega) hr).mono (by omega)
  · rw [a2] at hr
    rw [ak k r hk7 (by omega)]
    exact B.2.2.2.2.2 r k hr h8 hk1 hk7
/-- the class's state behind a week -/
def rf_pay (u : S0) : S0 := ((rf_py u u.2.1).2.1, u.2.1, u.2.2 + 1)
theorem rB_pay {T : Nat} {u : S0} (B : rB T u) (hT : T + 1 ≤ 400) : rB (T + 1) (rf_pay u) := by
  have h := pyI_B B hT (Nat.le_refl _) (pyI_py B u.2.1 (Nat.le_refl _))
  have e : (rf_py u u.2.1).2.2.1 = u.2.1 := congrArg Prod.fst (pyI_py B u.2.1 (Nat.le_refl _)).1
  obtain ⟨h1, h2, h3, h4, h5, h6⟩ := h
  exact ⟨B.1, h2, h3, h4, h5, fun r k hr => h6 r k (by rw [e]; exact hr)⟩
/-! the sim's steps -/
def sw (y : S0) (i c : Nat) (a b : Int32) : S0 := ra_s (ra_s y 8 c a) 6 i b
theorem ra_ext {u v : S0} (h : ∀ k j : Nat, u.1 k j = v.1 k j) (h2 : u.2 = v.2) : u = v := Prod.ext (funext fun k => funext fun j => h k j) h2
theorem ra_sv {u : S0} {k i : Nat} {x : Int32} {a b : Nat} : (ra_s u k i x).1 a b = if a = k ∧ b = i then x else u.1 a b := by
  by_cases h : a = k ∧ b = i
  · obtain ⟨rfl, rfl⟩ := h
    rw [ra_sS, if_pos ⟨rfl, rfl⟩]
  · rw [if_neg h]
    by_cases ha : a = k
    · exact ra_sO fun hb => h ⟨ha, hb⟩
    · rw [ra_sN ha]
theorem sw_1 {y : S0} {i c : Nat} {a b a' : Int32} : ra_s (sw y i c a b) 8 c a' = sw y i c a' b := by
  unfold sw
  refine ra_ext (fun k j => ?_) rfl
  rw [ra_sv, ra_sv, ra_sv, ra_sv, ra_sv]
  split <;> split <;> try split
  all_goals first | rfl | omega
theorem sw_2 {y : S0} {i c : Nat} {a b b' : Int32} : ra_s (sw y i c a b) 6 i b' = sw y i c a b' := by
  unfold sw
  refine ra_ext (fun k j => ?_) rfl
  rw [ra_sv, ra_sv, ra_sv, ra_sv, ra_sv]
  by_cases h : k = 6 ∧ j = i
  · rw [if_pos h, if_pos h]
  · simp only [if_neg h]
theorem sw_8 {y : S0} {i c : Nat} {a b : Int32} : (sw y i c a b).1 8 c = a := by
  unfold sw
  rw [ra_sN (by decide), ra_sS]
theorem sw_6 {y : S0} {i c : Nat} {a b : Int32} : (sw y i c a b).1 6 i = b := by
  unfold sw
  rw [ra_sS]
theorem sw_0 {y : S0} {i c : Nat} {a b : Int32} (ha : a = y.1 8 c) (hb : b = y.1 6 i) : sw y i c a b = y := by
  unfold sw
  refine ra_ext (fun k j => ?_) rfl
  rw [ra_sv, ra_sv]
  split
  · rename_i h
    rw [h.1, h.2, hb]
  · split
    · rename_i h
      rw [h.1, h.2, ha]
    · rfl
def gw (g : Nat → Nat → Int32) (i c : Nat) (x : Int32) : Nat → Nat → Int32 := va_up g i (upd (g i) c x)
theorem gw_v {g : Nat → Nat → Int32} {i c k j : Nat} {x : Int32} : gw g i c x k j = if k = i ∧ j = c then x else g k j := by
  unfold gw va_up upd
  by_cases h1 : k = i
  · by_cases h2 : j = c <;> simp [h1, h2]
  · simp [h1]
theorem gw_1 {g : Nat → Nat → Int32} {i c : Nat} {x x' : Int32} : va_up (gw g i c x) i (upd (gw g i c x i) c x') = gw g i c x' := by
  show gw (gw g i c x) i c x' = _
  funext k j
  rw [gw_v, gw_v, gw_v]
  split <;> rfl
theorem gw_0 {g : Nat → Nat → Int32} {i c : Nat} {x : Int32} (h : g i c = x) : gw g i c x = g := by
  funext k j
  rw [gw_v]
  split
  · rename_i e
    rw [e.1, e.2, h]
  · rfl
theorem gw_s {g : Nat → Nat → Int32} {i c : Nat} {x : Int32} : gw g i c x i c = x := by
  rw [gw_v, if_pos ⟨rfl, rfl⟩]
theorem rs_congr {cI cR : ClassId} {o : Nat} {z : SA} {u v : S0} (h2 : u.2 = v.2) (h7 : u.1 7 = v.1 7) (h8 : u.1 8 = v.1 8) (hr : ∀ j k : Nat, j < 7 → k < u.2.1 → u.1 j k = v.1 j k) : rs_w cI cR o z u = rs_w cI cR o z v := by
  have e1 : u.2.1 = v.2.1 := congrArg Prod.fst h2
  have e2 : u.2.2 = v.2.2 := congrArg Prod.snd h2
  have h : rs_h cI cR o z u = rs_h cI cR o z v := by
    unfold rs_h rs_f
    rw [h7, h8, e1, e2]
  show rs_h cI cR o z u ++ fam u.2.1 (rq_e z u) = rs_h cI cR o z v ++ fam v.2.1 (rq_e z v)
  rw [h, ← e1]
  refine congrArg (rs_h cI cR o z v ++ ·) (fam_congr fun k hk => ?_)
  unfold rq_e rq_f
  rw [hr 0 k (by decide) hk, hr 1 k (by decide) hk, hr 2 k (by decide) hk, hr 3 k (by decide) hk, hr 4 k (by decide) hk, hr 5 k (by decide) hk, hr 6 k (by decide) hk]
/-- the sim behind a reaper paid -/
def sm_st (v : S0) (i : Nat) (y3 : S0) (left : Int32) : S0 := ra_s (ra_s (ra_s (ra_s y3 5 i left) 1 i 0) 2 i 0) 3 i 0
def sm_y (v : S0) (i : Nat) : Nat → S0
  | 0 => ra_s v 4 i (v.1 4 i - rf_tk v i)
  | c + 1 => sw (sm_y v i c) i c ((sm_y v i c).1 8 c - km (rl_L v i) (v.1 8) c) ((sm_y v i c).1 6 i + km (rl_L v i) (v.1 8) c * rt_RX0_COIN_WORTH c)
theorem i32_b (a l k m w : Int32) : a + (l - k) + m * w = a + (l - (k - m * w)) := by grind
theorem i32_c (a l : Int32) : a = a + (l - l) := by grind
theorem sm_8 {v : S0} {i : Nat} : ∀ c j : Nat, (sm_y v i c).1 8 j = if j < c then v.1 8 j - km (rl_L v i) (v.1 8) j else v.1 8 j
  | 0, j => by
    show (ra_s v 4 i _).1 8 j = _
    rw [ra_sN (by decide), if_neg (Nat.not_lt_zero j)]
  | c + 1, j => by
    show (ra_s (ra_s (sm_y v i c) 8 c _) 6 i _).1 8 j = _
    rw [ra_sN (by decide)]
    by_cases e : j = c
    · subst e
      rw [ra_sS, sm_8 j j, if_neg (Nat.lt_irrefl j), if_pos (Nat.lt_succ_self j)]
    · rw [ra_sO e, sm_8 c j]
      by_cases hj : j < c
      · rw [if_pos hj, if_pos (by omega)]
      · rw [if_neg hj, if_neg (by omega)]
theorem sm_6 {v : S0} {i : Nat} : ∀ c : Nat, (sm_y v i c).1 6 i = v.1 6 i + (rl_L v i - ks (rl_L v i) (v.1 8) c)
  | 0 => by
    show (ra_s v 4 i _).1 6 i = v.1 6 i + (rl_L v i - rl_L v i)
    rw [ra_sN (by decide)]
    exact i32_c _ _
  | c + 1 => by
    show (ra_s _ 6 i ((sm_y v i c).1 6 i + km (rl_L v i) (v.1 8) c * rt_RX0_COIN_WORTH c)).1 6 i = _
    rw [ra_sS, sm_6 c, ks_1]
    exact i32_b _ _ _ _ _
theorem sm_o {v : S0} {i : Nat} : ∀ c k j : Nat, k ≠ 8 → (k = 4 → j ≠ i) → (k = 6 → j ≠ i) → (sm_y v i c).1 k j = v.1 k j
  | 0, k, j, _, h4, _ => by
    show (ra_s v 4 i _).1 k j = _
    by_cases e : k = 4
    · exact ra_sO (h4 e)
    · rw [ra_sN e]
  | c + 1, k, j, h8, h4, h6 => by
    show (ra_s (ra_s (sm_y v i c) 8 c _) 6 i _).1 k j = _
    by_cases e : k = 6
    · rw [ra_sO (h6 e), ra_sN h8]
      exact sm_o c k j h8 h4 h6
    · rw [ra_sN e, ra_sN h8]
      exact sm_o c k j h8 h4 h6
theorem sm_4 {v : S0} {i : Nat} : ∀ c : Nat, (sm_y v i c).1 4 i = v.1 4 i - rf_tk v i
  | 0 => by
    show (ra_s v 4 i _).1 4 i = _
    rw [ra_sS]
  | c + 1 => by
    show (ra_s (ra_s (sm_y v i c) 8 c _) 6 i _).1 4 i = _
    rw [ra_sN (by decide), ra_sN (by decide)]
    exact sm_4 c
theorem sm_2 {v : S0} {i : Nat} : ∀ c : Nat, (sm_y v i c).2 = v.2
  | 0 => rfl
  | c + 1 => sm_2 (v := v) (i := i) c
theorem sm_sim {cI cR : ClassId} {o : Nat} {z : SA} {v : S0} {i : Nat} : rs_w cI cR o z (sm_st v i (sm_y v i 3) (ks (rl_L v i) (v.1 8) 3)) = rs_w cI cR o z (rf_st v i) := by
  obtain ⟨t2, t8, t13, to, t0, t7, t1, t2', t3, t4, t5, t6, tsv⟩ := st_rows (u := v) (r := i)
  refine rs_congr ?_ ?_ ?_ (fun j k hj hk => ?_)
  · unfold sm_st
    rw [ra_s2, ra_s2, ra_s2, ra_s2, sm_2, t2]
  · rw [t7]
    funext j
    unfold sm_st
    rw [ra_sN (by decide), ra_sN (by decide), ra_sN (by decide), ra_sN (by decide)]
    exact sm_o 3 7 j (by decide) (fun h => absurd h (by decide)) (fun h => absurd h (by decide))
  · funext j
    rw [t8 j]
    unfold sm_st
    rw [ra_sN (by decide), ra_sN (by decide), ra_sN (by decide), ra_sN (by decide)]
    exact sm_8 3 j
  · unfold sm_st
    by_cases e : k = i
    · subst e
      rcases (show j = 0 ∨ j = 1 ∨ j = 2 ∨ j = 3 ∨ j = 4 ∨ j = 5 ∨ j = 6 by omega) with rfl | rfl | rfl | rfl | rfl | rfl | rfl
      · rw [ra_sN (by decide), ra_sN (by decide), ra_sN (by decide), ra_sN (by decide), t0]
        exact sm_o 3 0 k (by decide) (fun h => absurd h (by decide)) (fun h => absurd h (by decide))
      · rw [ra_sN (by decide), ra_sN (by decide), ra_sS, t1]
      · rw [ra_sN (by decide), ra_sS, t2']
      · rw [ra_sS, t3]
      · rw [ra_sN (by decide), ra_sN (by decide), ra_sN (by decide), ra_sN (by decide), t4]
        exact sm_4 3
      · rw [ra_sN (by decide), ra_sN (by decide), ra_sN (by decide), ra_sS, t5]
      · rw [ra_sN (by decide), ra_sN (by decide), ra_sN (by decide), ra_sN (by decide), t6]
        exact sm_6 3
    · rw [ra_sO e, ra_sO e, ra_sO e, ra_sO e, to j k (by omega) e]
      exact sm_o 3 j k (by omega) (fun _ => e) (fun _ => e)
