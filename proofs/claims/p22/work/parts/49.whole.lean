
theorem lw_KA {s : State} {args : Array Value} {ty : FieldType} (h : (Cond.arrayClass ty).before args s = true) : ∃ cA : ClassId, ArrOfT s cA ty ∧ s.vm.findClass ("[" ++ ty.toString) = some cA := by
  obtain ⟨cA, k, comp, h1, h2, h3⟩ := Cond.arrayClass_spec h
  exact ⟨cA, fun n z => ⟨fun k h => (by cases h), k, h2, comp, h3⟩, h1⟩
set_option maxHeartbeats 4000000 in
set_option maxRecDepth 100000 in
theorem whole_start {p : Program} {e : Env} {s : State} {m : MethodId} {below : List Frame} {meth : Method} {c : Code} (l : Launch) (hflags : l.flags = flags0) {b L : Nat} {xs : Nat → Int32} (hL : L ≤ 260) (C0 : lw_At p s m meth c b L xs) : W p l e room_1 s m #[Value.ref b] below meth c s.heap [] 0 0 (lw_Z below #[Value.ref b] s) (entryFrame m ([Value.ref b] : List Value).toArray 23) := by
  obtain ⟨hx, hb, hr, hml, hown, hts, hX, hbl, hlocks, hgv⟩ := id C0
  have hA : ∀ q : Nat, s.heap.size ≤ q → (fun q : Nat => s.heap.size ≤ q) q := fun _ h => h
  have hts1 : ∀ w ∈ wsL_law, w.before #[Value.ref b] s = true := fun w h => hts w (wsL_law_in w h)
  obtain ⟨c0, iS0, hKn0⟩ := u_known (C := RX0) (T := TX0) (N := 14) (n := 14) hts1 inlX0 (hts1 _ q1)
  obtain ⟨c1, iS1, hKn1⟩ := u_known (C := RX1) (T := TX1) (N := 7) (n := 7) hts1 inlX1 (hts1 _ q50)
  obtain ⟨c2, iS2, hKn2⟩ := u_known (C := RX2) (T := TX2) (N := 5) (n := 5) hts1 inlX2 (hts1 _ q28)
  obtain ⟨cI, aI, nmI⟩ := lw_KA (hts1 _ q4)
  obtain ⟨compR, cR, kR, r1, -, r3, r4, r5⟩ := Cond.arrayOver_spec (hts (Cond.arrayOver (.object RX1)) (List.mem_of_getElem? (i := 279) rfl))
  obtain ⟨compB, cB, kB, b1, -, b3, b4, b5⟩ := arrayOverA_spec (hts (Cond.arrayOver (.array .int)) (List.mem_of_getElem? (i := 247) rfl))
  obtain ⟨D, hKc⟩ : ∃ D : va_G, ∀ (k : Nat) (q : vw_C), vwCl[k]? = some q → u_Kn s q.1 q.2.1 q.2.2 (D.1 k) (D.2 k) := by
    refine ⟨(fun k => if k = 0 then c0 else if k = 1 then c1 else c2, fun k => if k = 0 then iS0 else if k = 1 then iS1 else iS2), ?_⟩
    intro k q hq
    match k, hq with
    | 0, hq => cases hq; exact hKn0
    | 1, hq => cases hq; exact hKn1
    | 2, hq => cases hq; exact hKn2
    | k + 3, hq => simp [vwCl] at hq
  have hK : va_K D vwCl (ty3 cI cR cB) s := by
    refine ⟨hKc, fun k q hq => ?_⟩
    match k, hq with
    | 0, hq => cases hq; exact ⟨aI, nmI⟩
    | 1, hq => cases hq; exact ⟨fun n z => ⟨(fun k h => by cases h), kR, r3, compR, r4⟩, kR, compR, r3, r4, r1, r5⟩
    | 2, hq => cases hq; exact ⟨fun n z => ⟨(fun k h => by cases h), kB, b3, compB, b4⟩, b5⟩
    | k + 3, hq => simp at hq
  obtain ⟨t, t9, t10, hZ⟩ := lw_gZ C0
  have C : gC p s m #[Value.ref b] meth c code 23 RL D (ty3 cI cR cB) t (fun q : Nat => s.heap.size ≤ q) := ⟨hx, hb, hml, hown, hts1, hK, hA, hZ, hlocks⟩
  have hL9 : t 10 ≤ 260 := by rw [t10]; exact hL
  have hS : va_S (fun q : Nat => s.heap.size ≤ q) s.heap s.heap [] := va_S.rf
  have hP : va_P D vwCl [] s.heap := rd_nil
  have hD : va_D (fun q : Nat => s.heap.size ≤ q) [] := ⟨fun i j p q h => by simp at h, fun k q h => by simp at h⟩
  have hK1 : va_K D vwCl [(cI, .int)] s := hK.sub [0] rfl
  have hl := lv_entry ([.ref b]) (n := 23) (Nat.le_of_ble_eq_true rfl)
  rw [lg_entry_eq]
  generalize (lg_sl ([.ref b]) ++ List.replicate (23 - (lg_sl ([.ref b])).length) Slot.unset).toArray = ls at hl ⊢
  have hl : lv_has ls 23 [(0, .ref (t 9))] := by rw [t9]; exact hl
  refine va_new (ci := 0) (fs := [.null, .null, .null, .null, .null, .null, .null, .null, .null, .int 0, .int 0, .null, .null, .null]) (C := RX0) (T := TX0) (N := 14) hx hb hts1 inlX0 tyX0 tyX0_ok hown (hts1 _ q0) (hts1 _ q1) (hts1 _ q2) hK hP hD hS hA rfl (fun j hj => by rcases (show j = 0 ∨ j = 1 ∨ j = 2 ∨ j = 3 ∨ j = 4 ∨ j = 5 ∨ j = 6 ∨ j = 7 ∨ j = 8 ∨ j = 9 ∨ j = 10 ∨ j = 11 ∨ j = 12 ∨ j = 13 by omega) with rfl | rfl | rfl | rfl | rfl | rfl | rfl | rfl | rfl | rfl | rfl | rfl | rfl | rfl <;> rfl) (Nat.le_of_ble_eq_true rfl) (Nat.le_of_ble_eq_true rfl) dL_law_0 (fun ob H hP hD hS => ?_)
  have hP : va_P D vwCl [(ob, .inr (0, [.null, .null, .null, .null, .null, .null, .null, .null, .null, .int 0, .int 0, .null, .null, .null]))] H := hP
  have hD : va_D (fun q : Nat => s.heap.size ≤ q) [(ob, .inr (0, [.null, .null, .null, .null, .null, .null, .null, .null, .null, .int 0, .int 0, .null, .null, .null]))] := hD
  refine lv_dup hx hb dL_law_3 rfl ?_
  refine g_cv (wr := []) (cells' := 13) (slots' := 89) rfl rfl C rd_nil hD hS (g_runI (wr := []) (n := 0) (As := []) C (mX0_init l D t cI ob H.size) q7 q2 q5 q6 rfl kd_X0_init ⟨Nat.le_of_ble_eq_true rfl, Nat.le_of_ble_eq_true rfl⟩ hK1 hP hD hS hl.1 rfl rfl (Nat.le_of_ble_eq_true rfl) dL_law_4 ⟨Nat.le_of_ble_eq_true rfl, Nat.le_of_ble_eq_true rfl⟩) (fun w' H locs hv _ _ hP hD hS => ?_)
  obtain ⟨ad, rfl⟩ := hv
  have hD : va_D (fun q : Nat => s.heap.size ≤ q) (ra_w cI ob ad ra_u0) := hD
  refine lv_astore_n (lv' := [(1, .ref ob), (0, .ref (t 9))]) hx hb dL_law_7 rfl hl (by decide) rfl (fun ls hl => ?_)
  refine lv_aload_n hx hb dL_law_8 rfl (lv_at hl 0 rfl) ?_
  refine lv_aload_n hx hb dL_law_9 rfl (lv_at hl 1 rfl) ?_
  refine m_cr (wa := []) (wb := ra_w cI ob ad ra_u0) (wd := []) (cells' := 1613) (slots' := 5689) rfl rfl C hP hD hS (fun hPb hDb => g_runS (wr := []) (n := 2) (As := [.ref ob, .ref (t 9)]) C (mL_build l D t cI cR cB ob ad H.size hL9) (rw_S q23 q24 q25 q26) kd_L_build ⟨Nat.le_of_ble_eq_true rfl, Nat.le_of_ble_eq_true rfl⟩ hK hPb hDb hS hl.1 rfl rfl (Nat.le_of_ble_eq_true rfl) dL_law_10 ⟨Nat.le_of_ble_eq_true rfl, Nat.le_of_ble_eq_true rfl⟩) (fun o w' H locs hv _ hP hD hS => ?_)
  obtain ⟨z, u, T, hT, B, hw9⟩ := hv
  have hw9 : w' = rs_w cI cR o z u ++ ra_w cI ob ad u := hw9
  subst hw9
  rw [List.nil_append, List.append_nil] at hP hD
  have S : sS D (fun q : Nat => s.heap.size ≤ q) s cI cR o z u (ra_w cI ob ad u) H locs := ⟨hP, hD, hS⟩
  refine lv_astore_n (lv' := [(2, .ref o), (1, .ref ob), (0, .ref (t 9))]) hx hb dL_law_13 rfl hl (by decide) rfl (fun ls hl => ?_)
  refine lv_aload_n hx hb dL_law_14 rfl (lv_at hl 0 rfl) ?_
  refine lv_ifnonnull (tgt := 20) hx hb dL_law_15 (by decide) ?_
  refine lv_iconst (v := 0) hx hb dL_law_20 (by decide) ?_
  refine lv_istore_n (lv' := [(3, .int (nI 0)), (2, .ref o), (1, .ref ob), (0, .ref (t 9))]) hx hb dL_law_21 rfl hl (by decide) rfl (fun ls hl => ?_)
  refine W.widen (k := 1700 + 120 * 0) (n := 5800 + 420 * 0) (by omega) (by omega) ?_
  refine lpL_law C hL9 (fun z u T H locs ls hT B S hl => ?_) 30 0 (by omega) z u T _ _ _ (by omega) B S (lv_sub hl [3, 2, 1, 0] rfl)
  refine lv_aload_n hx hb dL_law_953 rfl (lv_at hl 2 rfl) ?_
  refine lv_aload_n hx hb dL_law_954 rfl (lv_at hl 1 rfl) ?_
  refine m_ci (wa := []) (wb := rs_w cI cR o z u ++ ra_w cI ob ad u) (wd := []) (cells' := 1700 + 120 * 30 + 60) (slots' := 5800 + 420 * 30 + 300) rfl rfl C (by rw [List.nil_append, List.append_nil]; exact S.1) (by rw [List.nil_append, List.append_nil]; exact S.2.1) S.2.2 (fun hPb hDb => g_runVj (wr := []) (n := 1) (As := [.ref ob]) C (mX2_isSame l D t cI cR cB o ob ad z H.size u u T B (by omega) E9.rf) (rw_V q239 q240 q241 q29 q242) kd_X2_isSame ⟨Nat.le_of_ble_eq_true rfl, Nat.le_of_ble_eq_true rfl⟩ (ci := 2) rfl rfl 0 rfl hK hPb hDb S.2.2 hl.1 rfl rfl (Nat.le_of_ble_eq_true rfl) dL_law_955 ⟨(show 1700 + 120 * 30 + 60 ≤ 728402 by omega), (show 5800 + 420 * 30 + 300 ≤ 6916263 by omega)⟩) (fun r w' H locs hv _ hP hD hS => ?_)
  have hv : r = 1 := hv
  subst hv
  refine W.widen (k := 728402) (n := 6916263) (by omega) (by omega) ?_
  refine va_forget hS.2.2 ?_
  exact lw_ret (d0 := s.drawn) (Drawn.sameBut.refl s.drawn lw_cs) hx hb hr hlocks dL_law_958
