set_option maxHeartbeats 4000000 in
set_option maxRecDepth 100000 in
theorem law_loop {p : Program} {l : Launch} {e : Env} {s : State} {m : MethodId} {below : List Frame} {meth : Method} {c : Code} {D : va_G} {t : Nat → Nat} {cI cL : ClassId} {o o2 q b L : Nat} {ad : Nat → Nat} {xs : Nat → Int32} (C0 : lw_At p s m meth c b L xs) (C : gC p s m #[.ref b] meth c code 9 RL D (lT cI cL) t (fun q : Nat => s.heap.size ≤ q)) (hl0 : l.stackTraces = false) (hL : L ≤ 2048) :
    ∀ (n j : Nat), j + n = 513 → ∀ (d0 : Drawn), s.drawn.sameBut d0 lw_cs → ∀ (u : S0) (v : S1) (f : Nat → Int64) (H : Heap) (locs : List Loc) (ls : Array Slot), lS D (fun q : Nat => s.heap.size ≤ q) s cI cL o ad u o2 v q f H locs → lTie u v → lv_has ls 9 [(0, .ref b), (1, .ref o), (2, .ref o2), (3, .ref q), (4, .int (nI (4 * j)))] → W p l e room_1 (s.setDrawn d0) m #[Value.ref b] below meth c H locs (19 + 20 * j) (185 + 200 * j) (lw_Z below #[Value.ref b] s) (F0 m 23 ls []) := by
  obtain ⟨hx, hb, hr, hml, hown, hts, hX, hbl, hlocks, hgv⟩ := id C0
  have hbA : ¬ (fun q : Nat => s.heap.size ≤ q) b := Nat.not_le.mpr hbl
  have fin : ∀ (d0 : Drawn), s.drawn.sameBut d0 lw_cs → ∀ (H : Heap) (locs : List Loc) (ls : Array Slot) (k n : Nat), k ≤ 601024 → n ≤ 7293034 → va_S (fun q : Nat => s.heap.size ≤ q) s.heap H locs → W p l e room_1 (s.setDrawn d0) m #[Value.ref b] below meth c H locs k n (lw_Z below #[Value.ref b] s) (F0 m 757 ls []) := by
    intro d0 hd0 H locs ls k n hk hn hS
    refine lv_iconst (v := 1) hx hb dL_law_757 (by decide) ?_
    refine W.widen (k := 601024) (n := 7293034) hk hn ?_
    refine va_forget hS.2.2 ?_
    exact lw_ret hd0 hx hb hr hlocks dL_law_758
  have hd : ∀ (d0 : Drawn) (j : Nat) (H : Heap) (locs : List Loc) (ls : Array Slot) (k n : Nat), va_S (fun q : Nat => s.heap.size ≤ q) s.heap H locs → lv_has ls 9 [(0, .ref b), (1, .ref o), (2, .ref o2), (3, .ref q), (4, .int (nI (4 * j)))] → (nI (4 * j) > nI L - 4 → W p l e room_1 (s.setDrawn d0) m #[Value.ref b] below meth c H locs k n (lw_Z below #[Value.ref b] s) (F0 m 757 ls [])) → (¬ nI (4 * j) > nI L - 4 → W p l e room_1 (s.setDrawn d0) m #[Value.ref b] below meth c H locs k n (lw_Z below #[Value.ref b] s) (F0 m 32 ls [])) → W p l e room_1 (s.setDrawn d0) m #[Value.ref b] below meth c H locs k n (lw_Z below #[Value.ref b] s) (F0 m 23 ls []) := by
    intro d0 j H locs ls k n hS hl k1 k2
    refine lv_iload hx hb dL_law_23 (lv_at hl 4 rfl) ?_
    refine lv_aload_n hx hb dL_law_25 rfl (lv_at hl 0 rfl) ?_
    refine va_slen (s := s.setDrawn d0) hx hb hX hbl hbA hS dL_law_26 ?_
    refine lv_iconst (v := 4) hx hb dL_law_27 (by decide) ?_
    refine lv_isub hx hb dL_law_28 ?_
    exact lv_icmp_gt (tgt := 757) hx hb dL_law_29 (by decide) k1 k2
  intro n
  induction n with
  | zero =>
    intro j hj d0 hd0 u v f H locs ls X T hl
    exact hd d0 j H locs ls _ _ X.2.2.2.2 hl (fun _ => fin d0 hd0 _ _ _ _ _ (by omega) (by omega) X.2.2.2.2) (fun h => absurd (ld_go hL (by omega) h) (by omega))
  | succ n ih =>
    intro j hj d0 hd0 u v f H locs ls X T hl
    refine hd d0 j H locs ls _ _ X.2.2.2.2 hl (fun _ => fin d0 hd0 _ _ _ _ _ (by omega) (by omega) X.2.2.2.2) (fun h0 => ?_)
    have hi : 4 * j + 4 ≤ L := ld_go hL (by omega) h0
    have kk : ∀ (d1 : Drawn), s.drawn.sameBut d1 lw_cs → ∀ (u : S0) (v : S1) (f : Nat → Int64) (H : Heap) (locs : List Loc) (ls : Array Slot), lS D (fun q : Nat => s.heap.size ≤ q) s cI cL o ad u o2 v q f H locs → lTie u v → lv_has ls 9 [(0, .ref b), (1, .ref o), (2, .ref o2), (3, .ref q), (4, .int (nI (4 * j)))] → W p l e room_1 (s.setDrawn d1) m #[Value.ref b] below meth c H locs (19 + 20 * j + 20) (185 + 200 * j + 200) (lw_Z below #[Value.ref b] s) (F0 m 751 ls []) := by
      intro d1 hd1 u v f H locs ls X T hl
      refine lv_iinc (v := nI (4 * (j + 1))) (lv' := [(4, .int (nI (4 * (j + 1)))), (0, .ref b), (1, .ref o), (2, .ref o2), (3, .ref q)]) hx hb dL_law_751 hl (k := 4) rfl ((nI_add (4 * j) 4).trans (congrArg nI (by omega))) (by decide) rfl (fun ls hl => ?_)
      refine lv_goto (tgt := 23) hx hb dL_law_754 (by decide) ?_
      refine W.widen (k := 19 + 20 * (j + 1)) (n := 185 + 200 * (j + 1)) (by omega) (by omega) ?_
      exact ih (j + 1) (by omega) d1 hd1 u v f H locs ls X T (lv_sub hl [1, 2, 3, 4, 0] rfl)
    have Cd := gC_dr C d0
    refine lv_aload_n hx hb dL_law_32 rfl (lv_at hl 0 rfl) ?_
    refine lv_iload hx hb dL_law_33 (lv_at hl 4 rfl) ?_
    refine va_sld (s := s.setDrawn d0) hx hb hX hbl hbA X.2.2.2.2 (i := nI (4 * j)) (vp_in_nI (by omega) (by omega)) dL_law_35 ?_
    refine lv_bipush (v := 31) hx hb dL_law_36 (by decide) ?_
    refine lv_iand hx hb dL_law_38 ?_
    rcases ld_sw (xs (nI (4 * j)).toNatClampNeg &&& 31) with ⟨k, hk, ek⟩ | hout
    · refine g_top ek ?_
      rcases (show k = 0 ∨ k = 1 ∨ k = 2 ∨ k = 3 ∨ k = 4 ∨ k = 5 ∨ k = 6 ∨ k = 7 ∨ k = 8 ∨ k = 9 ∨ k = 10 ∨ k = 11 ∨ k = 12 ∨ k = 13 ∨ k = 14 ∨ k = 15 ∨ k = 16 ∨ k = 17 ∨ k = 18 by omega) with rfl | rfl | rfl | rfl | rfl | rfl | rfl | rfl | rfl | rfl | rfl | rfl | rfl | rfl | rfl | rfl | rfl | rfl | rfl
      · refine lv_tableIn (off := 89) (tgt := 128) hx hb dL_law_39 (by decide) (by decide) rfl (by decide) ?_
        exact law_g0 (s := s.setDrawn d0) Cd hl0 hX hbl hbA hi hL X T hl (by omega) (by omega) (fun u v f H locs ls X T hl => kk d0 hd0 u v f H locs ls X T hl)
      · refine lv_tableIn (off := 117) (tgt := 156) hx hb dL_law_39 (by decide) (by decide) rfl (by decide) ?_
        exact law_g1 (s := s.setDrawn d0) Cd hl0 hX hbl hbA hi hL X T hl (by omega) (by omega) (fun u v f H locs ls X T hl => kk d0 hd0 u v f H locs ls X T hl)
      · refine lv_tableIn (off := 157) (tgt := 196) hx hb dL_law_39 (by decide) (by decide) rfl (by decide) ?_
        exact law_g2 (s := s.setDrawn d0) Cd hl0 hX hbl hbA hi hL X T hl (by omega) (by omega) (fun u v f H locs ls X T hl => kk d0 hd0 u v f H locs ls X T hl)
      · refine lv_tableIn (off := 197) (tgt := 236) hx hb dL_law_39 (by decide) (by decide) rfl (by decide) ?_
        exact law_g3 (s := s.setDrawn d0) Cd hl0 hX hbl hbA hi hL X T hl (by omega) (by omega) (fun u v f H locs ls X T hl => kk d0 hd0 u v f H locs ls X T hl)
      · refine lv_tableIn (off := 237) (tgt := 276) hx hb dL_law_39 (by decide) (by decide) rfl (by decide) ?_
        exact law_g4 (s := s.setDrawn d0) Cd hl0 hX hbl hbA hi hL X T hl (by omega) (by omega) (fun u v f H locs ls X T hl => kk d0 hd0 u v f H locs ls X T hl)
      · refine lv_tableIn (off := 305) (tgt := 344) hx hb dL_law_39 (by decide) (by decide) rfl (by decide) ?_
        exact law_g5 (s := s.setDrawn d0) Cd hl0 hX hbl hbA hi hL X T hl (by omega) (by omega) (fun u v f H locs ls X T hl => kk d0 hd0 u v f H locs ls X T hl)
      · refine lv_tableIn (off := 345) (tgt := 384) hx hb dL_law_39 (by decide) (by decide) rfl (by decide) ?_
        exact law_g6 (s := s.setDrawn d0) Cd hl0 hX hbl hbA hi hL X T hl (by omega) (by omega) (fun u v f H locs ls X T hl => kk d0 hd0 u v f H locs ls X T hl)
      · refine lv_tableIn (off := 358) (tgt := 397) hx hb dL_law_39 (by decide) (by decide) rfl (by decide) ?_
        exact law_g7 (s := s.setDrawn d0) Cd hl0 hX hbl hbA hi hL X T hl (by omega) (by omega) (fun u v f H locs ls X T hl => kk d0 hd0 u v f H locs ls X T hl)
      · refine lv_tableIn (off := 398) (tgt := 437) hx hb dL_law_39 (by decide) (by decide) rfl (by decide) ?_
        exact law_g8 (s := s.setDrawn d0) Cd hl0 hX hbl hbA hi hL X T hl (by omega) (by omega) (fun u v f H locs ls X T hl => kk d0 hd0 u v f H locs ls X T hl)
      · refine lv_tableIn (off := 438) (tgt := 477) hx hb dL_law_39 (by decide) (by decide) rfl (by decide) ?_
        exact law_g9 (s := s.setDrawn d0) Cd hl0 hX hbl hbA hi hL X T hl (by omega) (by omega) (fun u v f H locs ls X T hl => kk d0 hd0 u v f H locs ls X T hl)
      · refine lv_tableIn (off := 466) (tgt := 505) hx hb dL_law_39 (by decide) (by decide) rfl (by decide) ?_
        exact law_g10 (s := s.setDrawn d0) Cd hl0 hX hbl hbA hi hL X T hl (by omega) (by omega) (fun u v f H locs ls X T hl => kk d0 hd0 u v f H locs ls X T hl)
      · refine lv_tableIn (off := 506) (tgt := 545) hx hb dL_law_39 (by decide) (by decide) rfl (by decide) ?_
        exact law_g11 (s := s.setDrawn d0) Cd hl0 hX hbl hbA hi hL X T hl (by omega) (by omega) (fun u v f H locs ls X T hl => kk d0 hd0 u v f H locs ls X T hl)
      · refine lv_tableIn (off := 534) (tgt := 573) hx hb dL_law_39 (by decide) (by decide) rfl (by decide) ?_
        exact law_g12 (s := s.setDrawn d0) Cd hl0 hX hbl hbA hi hL X T hl (by omega) (by omega) (fun u v f H locs ls X T hl => kk d0 hd0 u v f H locs ls X T hl)
      · refine lv_tableIn (off := 590) (tgt := 629) hx hb dL_law_39 (by decide) (by decide) rfl (by decide) ?_
        exact law_g13 (s := s.setDrawn d0) Cd hl0 hX hbl hbA hi hL X T hl (by omega) (by omega) (fun u v f H locs ls X T hl => kk d0 hd0 u v f H locs ls X T hl)
      · refine lv_tableIn (off := 630) (tgt := 669) hx hb dL_law_39 (by decide) (by decide) rfl (by decide) ?_
        exact law_g14 (s := s.setDrawn d0) Cd hl0 hX hbl hbA hi hL X T hl (by omega) (by omega) (fun u v f H locs ls X T hl => kk d0 hd0 u v f H locs ls X T hl)
      · refine lv_tableIn (off := 658) (tgt := 697) hx hb dL_law_39 (by decide) (by decide) rfl (by decide) ?_
        exact law_g15 (s := s.setDrawn d0) Cd hl0 hX hbl hbA hi hL X T hl (by omega) (by omega) (fun u v f H locs ls X T hl => kk d0 hd0 u v f H locs ls X T hl)
      · refine lv_tableIn (off := 671) (tgt := 710) hx hb dL_law_39 (by decide) (by decide) rfl (by decide) ?_
        exact law_g16 (s := s.setDrawn d0) Cd hl0 hX hbl hbA hi hL X T hl (by omega) (by omega) (fun u v f H locs ls X T hl => kk d0 hd0 u v f H locs ls X T hl)
      · refine lv_tableIn (off := 684) (tgt := 723) hx hb dL_law_39 (by decide) (by decide) rfl (by decide) ?_
        exact law_gmean (L := L) (xs := xs) hd0 C X T hl (by omega) (by omega) kk
      · refine lv_tableIn (off := 699) (tgt := 738) hx hb dL_law_39 (by decide) (by decide) rfl (by decide) ?_
        exact law_g18 (s := s.setDrawn d0) Cd hl0 hX hbl hbA hi hL X T hl (by omega) (by omega) (fun u v f H locs ls X T hl => kk d0 hd0 u v f H locs ls X T hl)
    · refine lv_tableOut (tgt := 751) hx hb dL_law_39 hout (by decide) ?_
      refine W.widen (k := 19 + 20 * j + 20) (n := 185 + 200 * j + 200) (by omega) (by omega) ?_
      exact kk d0 hd0 _ _ _ _ _ _ X T hl
set_option maxHeartbeats 4000000 in
set_option maxRecDepth 100000 in
theorem whole_start {p : Program} {e : Env} {s : State} {m : MethodId} {below : List Frame} {meth : Method} {c : Code} (l : Launch) (hflags : l.flags = flags0) {b L : Nat} {xs : Nat → Int32} (hL : L ≤ 2048) (C0 : lw_At p s m meth c b L xs) : W p l e room_1 s m #[Value.ref b] below meth c s.heap [] 0 0 (lw_Z below #[Value.ref b] s) (entryFrame m ([Value.ref b] : List Value).toArray 9) := by
  have hl0 : l.stackTraces = false := by first | (rw [show l.stackTraces = l.flags.stackTraces from rfl, hflags]; rfl) | (simp [Launch.stackTraces, hflags]; done) | (unfold Launch.stackTraces; rw [hflags]; decide)
  obtain ⟨hx, hb, hr, hml, hown, hts, hX, hbl, hlocks, hgv⟩ := id C0
  have hA : ∀ q : Nat, s.heap.size ≤ q → (fun q : Nat => s.heap.size ≤ q) q := fun _ h => h
  have hbA : ¬ (fun q : Nat => s.heap.size ≤ q) b := Nat.not_le.mpr hbl
  have hts1 : ∀ w ∈ wsL_law, w.before #[Value.ref b] s = true := fun w h => hts w (wsL_law_in w h)
  obtain ⟨c0, iS0, hKn0⟩ := u_known (C := RX0) (T := TX0) (N := 14) (n := 14) hts1 inlX0 (hts1 _ q1)
  obtain ⟨c1, iS1, hKn1⟩ := u_known (C := RX1) (T := TX1) (N := 7) (n := 7) hts1 inlX1 (hts1 _ q4)
  obtain ⟨cI, aI, nmI⟩ := lw_KA (hts1 _ q13)
  obtain ⟨cL, aL, nmL⟩ := lw_KA (hts1 _ q6)
  obtain ⟨D, hKc⟩ : ∃ D : va_G, ∀ (k : Nat) (q : vw_C), vwCl[k]? = some q → u_Kn s q.1 q.2.1 q.2.2 (D.1 k) (D.2 k) := by
    refine ⟨(fun k => if k = 0 then c0 else c1, fun k => if k = 0 then iS0 else iS1), ?_⟩
    intro k q hq
    match k, hq with
    | 0, hq => cases hq; exact hKn0
    | 1, hq => cases hq; exact hKn1
    | k + 2, hq => simp [vwCl] at hq
  have hK : va_K D vwCl (lT cI cL) s := by
    refine ⟨hKc, fun k q hq => ?_⟩
    match k, hq with
    | 0, hq => cases hq; exact ⟨aI, nmI⟩
    | 1, hq => cases hq; exact ⟨aL, nmL⟩
    | k + 2, hq => simp [lT] at hq
  obtain ⟨t, hZ⟩ := lw_gZ C0 hKn0.2.1
  have C : gC p s m #[Value.ref b] meth c code 9 RL D (lT cI cL) t (fun q : Nat => s.heap.size ≤ q) := ⟨hx, hb, hml, hown, hts1, hK, hA, hZ, hlocks⟩
  have hS : va_S (fun q : Nat => s.heap.size ≤ q) s.heap s.heap [] := va_S.rf
  have hP : va_P D vwCl [] s.heap := rd_nil
  have hD : va_D (fun q : Nat => s.heap.size ≤ q) [] := ⟨fun i j p q h => by simp at h, fun k q h => by simp at h⟩
  have hK1 : va_K D vwCl [(cI, .int)] s := hK.sub [0] rfl
  have hl := lv_entry ([.ref b]) (n := 9) (Nat.le_of_ble_eq_true rfl)
  rw [lg_entry_eq]
  generalize (lg_sl ([.ref b]) ++ List.replicate (9 - (lg_sl ([.ref b])).length) Slot.unset).toArray = ls at hl ⊢
  have hl : lv_has ls 9 [(0, .ref b)] := hl
  refine va_new (ci := 0) (fs := [.null, .null, .null, .null, .null, .null, .null, .null, .null, .int 0, .int 0, .null, .null, .null]) (C := RX0) (T := TX0) (N := 14) hx hb hts1 inlX0 tyX0 tyX0_ok hown (hts1 _ q0) (hts1 _ q1) (hts1 _ q2) hK hP hD hS hA rfl (fun j hj => by rcases (show j = 0 ∨ j = 1 ∨ j = 2 ∨ j = 3 ∨ j = 4 ∨ j = 5 ∨ j = 6 ∨ j = 7 ∨ j = 8 ∨ j = 9 ∨ j = 10 ∨ j = 11 ∨ j = 12 ∨ j = 13 by omega) with rfl | rfl | rfl | rfl | rfl | rfl | rfl | rfl | rfl | rfl | rfl | rfl | rfl | rfl <;> rfl) (Nat.le_of_ble_eq_true rfl) (Nat.le_of_ble_eq_true rfl) dL_law_0 (fun o H hP hD hS => ?_)
  have hP : va_P D vwCl [(o, .inr (0, [.null, .null, .null, .null, .null, .null, .null, .null, .null, .int 0, .int 0, .null, .null, .null]))] H := hP
  have hD : va_D (fun q : Nat => s.heap.size ≤ q) [(o, .inr (0, [.null, .null, .null, .null, .null, .null, .null, .null, .null, .int 0, .int 0, .null, .null, .null]))] := hD
  refine lv_dup hx hb dL_law_3 rfl ?_
  refine g_cv (wr := []) (cells' := 13) (slots' := 89) rfl rfl C rd_nil hD hS (g_runI (wr := []) (n := 0) (As := []) C (mX0_init l D t cI o H.size) q9 q2 q7 q8 rfl kd_X0_init ⟨Nat.le_of_ble_eq_true rfl, Nat.le_of_ble_eq_true rfl⟩ hK1 hP hD hS hl.1 rfl rfl (Nat.le_of_ble_eq_true rfl) dL_law_4 ⟨Nat.le_of_ble_eq_true rfl, Nat.le_of_ble_eq_true rfl⟩) (fun w' H locs hv _ _ hP hD hS => ?_)
  obtain ⟨ad, rfl⟩ := hv
  have hD : va_D (fun q : Nat => s.heap.size ≤ q) (ra_w cI o ad ra_u0) := hD
  refine lv_astore_n (lv' := [(1, .ref o), (0, .ref b)]) hx hb dL_law_7 rfl hl (by decide) rfl (fun ls hl => ?_)
  refine va_new (ci := 1) (fs := [.int 0, .int 0, .int 0, .null, .null, .null, .null]) (C := RX1) (T := TX1) (N := 7) hx hb hts1 inlX1 tyX1 tyX1_ok hown (hts1 _ q3) (hts1 _ q4) (hts1 _ q5) hK hP hD hS hA rfl (fun j hj => by rcases (show j = 0 ∨ j = 1 ∨ j = 2 ∨ j = 3 ∨ j = 4 ∨ j = 5 ∨ j = 6 by omega) with rfl | rfl | rfl | rfl | rfl | rfl | rfl <;> rfl) (Nat.le_of_ble_eq_true rfl) (Nat.le_of_ble_eq_true rfl) dL_law_8 (fun o2 H hP hD hS => ?_)
  have hPx : va_P D vwCl (ra_w cI o ad ra_u0) H := hP.sub [0, 1, 2, 3, 4, 5, 6, 7, 8, 9, 10, 11, 12] rfl
  have hPc : va_P D vwCl [(o2, .inr (1, [.int 0, .int 0, .int 0, .null, .null, .null, .null]))] H := hP.sub [13] rfl
  refine lv_dup hx hb dL_law_11 rfl ?_
  refine g_cv (wr := ra_w cI o ad ra_u0) (cells' := 18) (slots' := 184) rfl rfl C hPx hD hS (g_runI (wr := ra_w cI o ad ra_u0) (n := 0) (As := []) C (mX1_init l D t cI o2 H.size) q28 q5 q26 q27 rfl kd_X1_init ⟨Nat.le_of_ble_eq_true rfl, Nat.le_of_ble_eq_true rfl⟩ hK1 hPc hD hS hl.1 rfl rfl (Nat.le_of_ble_eq_true rfl) dL_law_12 ⟨Nat.le_of_ble_eq_true rfl, Nat.le_of_ble_eq_true rfl⟩) (fun w' H locs hv _ hPx hPr hD hS => ?_)
  obtain ⟨g, rfl⟩ := hv
  refine lv_astore_n (lv' := [(2, .ref o2), (1, .ref o), (0, .ref b)]) hx hb dL_law_15 rfl hl (by decide) rfl (fun ls hl => ?_)
  refine lv_iconst (v := 1) hx hb dL_law_16 (by decide) ?_
  refine g_newL C (va_P.app hPx hPr) hD hS q6 (cells' := 19) (slots' := 185) rfl rfl (Nat.le_of_ble_eq_true rfl) (Nat.le_of_ble_eq_true rfl) dL_law_17 (fun q H hP hD hS => ?_)
  have hD : va_D (fun q : Nat => s.heap.size ≤ q) (ra_w cI o ad ra_u0 ++ (rb_w cI o2 (rb_r0, 0, 0, 0, g) ++ lo_w cL q (fun _ => 0))) := by rw [← List.append_assoc]; exact hD
  have X : lS D (fun q : Nat => s.heap.size ≤ q) s cI cL o ad ra_u0 o2 (rb_r0, 0, 0, 0, g) q (fun _ => 0) H locs := ⟨hP.sub [0, 1, 2, 3, 4, 5, 6, 7, 8, 9, 10, 11, 12] rfl, hP.sub [13, 14, 15, 16, 17] rfl, hP.sub [18] rfl, hD, hS⟩
  refine lv_astore_n (lv' := [(3, .ref q), (2, .ref o2), (1, .ref o), (0, .ref b)]) hx hb dL_law_19 rfl hl (by decide) rfl (fun ls hl => ?_)
  refine lv_iconst (v := 0) hx hb dL_law_20 (by decide) ?_
  refine lv_istore (lv' := [(4, .int (nI 0)), (3, .ref q), (2, .ref o2), (1, .ref o), (0, .ref b)]) hx hb dL_law_21 hl (by decide) rfl (fun ls hl => ?_)
  have hl : lv_has ls 9 [(0, .ref b), (1, .ref o), (2, .ref o2), (3, .ref q), (4, .int (nI (4 * 0)))] := lv_sub hl [4, 3, 2, 1, 0] rfl
  refine W.base ?_
  exact law_loop C0 C hl0 hL 513 0 (by omega) s.drawn (Drawn.sameBut.refl s.drawn lw_cs) _ _ _ _ _ _ X lTie.u0 hl
