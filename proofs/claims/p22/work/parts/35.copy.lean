section GARO
variable {p : Program} {l : Launch} {e : Env} {R : Room} {s : State} {m : MethodId} {args : Array Value} {below : List Frame} {meth : Method} {c : Code} {H : Heap} {locs : List Loc} {cells slots : Nat}
variable {cc : ByteArray} {nL pc : Nat} {ls : Array Slot} {own : String} {D : va_G} {ty : List (ClassId × FieldType)} {t : Nat → Nat} {A : Nat → Prop} {w' : va_W}
theorem g_areto {post : Nat × va_W → Prop} {a : Nat} {rt : String} (C : gC p s m args meth c cc nL own D ty t A) (hr : meth.sig.returnType = some (.object rt)) (hP : va_P D vwCl w' H) (hD : va_D A w') (hS : va_S A s.heap H locs) (hdg : decode cc pc = .ok (.areturn, 1)) (hpost : post (a, w')) :
    W p l e R s m args below meth c H locs cells slots (MQ below (va_Qr (S := Nat × va_W) post (fun u a U => u.1 = a ∧ gQ D A u.2 U) A) args s cells slots A) (F0 m pc ls [.ref a]) :=
  W.aret C.1 C.2.1 hr (Or.inl ⟨_, rfl⟩) (Or.inr ⟨_, rfl⟩) (fun t ht hW => ⟨⟨(a, w'), a, rfl, hpost, rfl, by rw [ht]; exact hP, hD⟩, hS.F ht⟩) hS.2.2 hdg C.2.2.2.2.2.2.2.2
end GARO
/-- the reapers copied so far -/
def cp_f (u : S0) (pa : Nat → Nat) (k : Nat) : Nat × va_E := (pa k, .inr (1, rq_f u k))
theorem cp_pl {a b c d : Nat × va_E} {n : Nat} {f : Nat → Nat × va_E} (x : Nat × va_E) : ((a :: b :: c :: d :: fam n f) ++ [x])[4 + n]? = some x := by
  rw [List.getElem?_append_right (by rw [List.length_cons, List.length_cons, List.length_cons, List.length_cons, fam_len]; omega)]
  have : 4 + n - (a :: b :: c :: d :: fam n f).length = 0 := by
    rw [List.length_cons, List.length_cons, List.length_cons, List.length_cons, fam_len]
    omega
  rw [this]
  rfl
theorem cp_norm {D : va_G} {A : Nat → Prop} {s : State} {cI cR : ClassId} {o : Nat} {z : SA} {u : S0} {a b c : Nat × va_E} {a2 n i q : Nat} {pa : Nat → Nat} {H : Heap} {locs : List Loc}
    (h : sS D A s cI cR o z u ((((a :: b :: c :: (a2, .inl (cR, n, .inr (.inr (.inr (.inr (fun k => if k < i then some (pa k) else none)))))) :: fam i (fun k => (pa k, (.inr (1, rq_f u k) : va_E)))) ++ [(q, .inr (1, rq_f u i))] : va_W)).set 3 (a2, .inl (cR, n, .inr (.inr (.inr (.inr (va_up (fun k => if k < i then some (pa k) else none) i (some q)))))))) H locs) :
    sS D A s cI cR o z u (a :: b :: c :: (a2, .inl (cR, n, .inr (.inr (.inr (.inr (fun k => if k < i + 1 then some ((fun k => if k = i then q else pa k) k) else none)))))) :: fam (i + 1) (fun k => ((fun k => if k = i then q else pa k) k, .inr (1, rq_f u k)))) H locs := by
  have e1 : va_up (fun k => if k < i then some (pa k) else none) i (some q) = fun k => if k < i + 1 then some ((fun k => if k = i then q else pa k) k) else none := by
    funext k
    unfold va_up
    by_cases e : k = i
    · subst e
      simp
    · by_cases h : k < i
      · simp [e, h, Nat.lt_succ_of_lt h]
      · simp [e, h, show ¬ k < i + 1 by omega]
  have e2 : fam i (fun k => (pa k, .inr (1, rq_f u k))) ++ [(q, .inr (1, rq_f u i))] = fam (i + 1) (fun k => ((fun k => if k = i then q else pa k) k, .inr (1, rq_f u k))) := by
    rw [fam_succ, fam_congr (g := fun k => ((fun k => if k = i then q else pa k) k, (.inr (1, rq_f u k) : va_E))) (fun k hk => by simp [Nat.ne_of_lt hk])]
    simp
  rw [e1] at h
  rw [← e2]
  exact h
theorem cp_end {D : va_G} {A : Nat → Prop} {s : State} {cI cR : ClassId} {o : Nat} {z : SA} {u : S0} {o2 r2 c2 a2 : Nat} {pa : Nat → Nat} {H : Heap} {locs : List Loc}
    (h : sS D A s cI cR o z u ((o2, .inr (2, [.int u.2.2, .ref r2, .ref c2, .ref a2, .null])) :: (r2, .inl (cI, 5, .inl (u.1 7))) :: (c2, .inl (cI, 3, .inl (u.1 8))) :: (a2, .inl (cR, u.2.1, .inr (.inr (.inr (.inr (fun k => if k < u.2.1 then some (pa k) else none)))))) :: fam u.2.1 (fun k => (pa k, .inr (1, rq_f u k)))) H locs) :
    sS D A s cI cR o z u (rs_w cI cR o2 (fun k => if k = 0 then r2 else if k = 1 then c2 else a2, pa, none) u) H locs := by
  obtain ⟨hP, hD, hS⟩ := h
  have e : ∀ f : Nat → Option Nat, rs_w cI cR o z u ++ ((o2, .inr (2, [.int u.2.2, .ref r2, .ref c2, .ref a2, .null])) :: (r2, .inl (cI, 5, .inl (u.1 7))) :: (c2, .inl (cI, 3, .inl (u.1 8))) :: (a2, .inl (cR, u.2.1, .inr (.inr (.inr (.inr f))))) :: fam u.2.1 (fun k => (pa k, (.inr (1, rq_f u k) : va_E)))) = (rs_w cI cR o z u ++ [(o2, .inr (2, [.int u.2.2, .ref r2, .ref c2, .ref a2, .null])), (r2, .inl (cI, 5, .inl (u.1 7))), (c2, .inl (cI, 3, .inl (u.1 8)))]) ++ ((a2, .inl (cR, u.2.1, .inr (.inr (.inr (.inr f))))) :: fam u.2.1 (fun k => (pa k, (.inr (1, rq_f u k) : va_E)))) := fun f => by
    rw [List.append_assoc]
    rfl
  rw [e] at hP
  have hP := va_P.ren (g := fun k => some (pa k)) hP (fun k hk => if_pos hk)
  rw [← e] at hP
  refine ⟨hP, rd_map hD ?_, hS⟩
  rw [List.map_append, List.map_append]
  rfl
theorem kd_X1_init : yX1_init.cls = yX1_init.cls ∧ yX1_init.cls ≠ "java/lang/invoke/MethodHandle" ∧ yX1_init.cls ≠ "java/lang/invoke/VarHandle" ∧ (parseMethodDescriptor yX1_init.desc).map (fun d => d.parameters.length) = some 0 := by decide +kernel
theorem kd_X2_init : yX2_init.cls = yX2_init.cls ∧ yX2_init.cls ≠ "java/lang/invoke/MethodHandle" ∧ yX2_init.cls ≠ "java/lang/invoke/VarHandle" ∧ (parseMethodDescriptor yX2_init.desc).map (fun d => d.parameters.length) = some 0 := by decide +kernel
theorem kd_X1_copy : yX1_copy.cls = yX1_copy.cls ∧ yX1_copy.cls ≠ "java/lang/invoke/MethodHandle" ∧ yX1_copy.cls ≠ "java/lang/invoke/VarHandle" ∧ (parseMethodDescriptor yX1_copy.desc).map (fun d => d.parameters.length) = some 0 := by decide +kernel
theorem kd_X2_copy : yX2_copy.cls = yX2_copy.cls ∧ yX2_copy.cls ≠ "java/lang/invoke/MethodHandle" ∧ yX2_copy.cls ≠ "java/lang/invoke/VarHandle" ∧ (parseMethodDescriptor yX2_copy.desc).map (fun d => d.parameters.length) = some 0 := by decide +kernel
set_option maxHeartbeats 4000000 in
set_option maxRecDepth 100000 in
theorem mX1_init (l : Launch) (D : va_G) (t : Nat → Nat) (cI cR cB : ClassId) (o : Nat) (sz : Nat) (fs : List Value) : gMv l yX1_init (rw_ yX1_init cX1_init 1 none) (rm_ 1 0 0 40) [.ref o] D (ty3 cI cR cB) t (([(o, .inr (1, fs))] : va_W)) sz (fun w' => w' = [(o, .inr (1, fs))]) := by
  refine g_of (cc := cX1_init) (nL := 1) (rt := none) (Q := fun A => va_Qv _ (fun w' U => gQ D A w' U) A) (by decide) (Nat.le_of_ble_eq_true rfl) (fun p e s m args below meth c A ls H C hrt hnm hS hP hD hl => ?_)
  have hx := C.1
  have hb := C.2.1
  have hown := C.2.2.2.1
  have hts := C.2.2.2.2.1
  have hl : lv_has ls 1 [(0, .ref o)] := hl
  refine lv_aload_n hx hb dX1_init_0 rfl (lv_at hl 0 rfl) ?_
  refine W.objInit hx hb hown (hts _ q61) (hts _ q9) (hts _ q10) rfl (by rw [C.2.2.1]; exact hl.1) rfl dX1_init_1 (Nat.le_of_ble_eq_true rfl) (Nat.le_of_ble_eq_true rfl) ?_
  refine W.eq (g2 := F0 m 4 ls []) rfl ?_
  exact g_vret C hrt hP hD hS dX1_init_4 rfl
set_option maxHeartbeats 4000000 in
set_option maxRecDepth 100000 in
theorem mX2_init (l : Launch) (D : va_G) (t : Nat → Nat) (cI cR cB : ClassId) (o : Nat) (sz : Nat)  : gMv l yX2_init (rw_ yX2_init cX2_init 1 none) (rm_ 1 3 8 60) [.ref o] D (ty3 cI cR cB) t (([(o, .inr (2, [.int 0, .null, .null, .null, .null]))] : va_W)) sz (fun w' => ∃ z : SA, z.2.2 = none ∧ w' = rs_w cI cR o z ra_u0) := by
  refine g_of (cc := cX2_init) (nL := 1) (rt := none) (Q := fun A => va_Qv _ (fun w' U => gQ D A w' U) A) (by decide) (Nat.le_of_ble_eq_true rfl) (fun p e s m args below meth c A ls H C hrt hnm hS hP hD hl => ?_)
  have hx := C.1
  have hb := C.2.1
  have hown := C.2.2.2.1
  have hts := C.2.2.2.2.1
  have hl : lv_has ls 1 [(0, .ref o)] := hl
  refine lv_aload_n hx hb dX2_init_0 rfl (lv_at hl 0 rfl) ?_
  refine W.objInit hx hb hown (hts _ q32) (hts _ q9) (hts _ q10) rfl (by rw [C.2.2.1]; exact hl.1) rfl dX2_init_1 (Nat.le_of_ble_eq_true rfl) (Nat.le_of_ble_eq_true rfl) ?_
  refine W.eq (g2 := F0 m 4 ls []) rfl ?_
  refine lv_aload_n hx hb dX2_init_4 rfl (lv_at hl 0 rfl) ?_
  refine lv_iconst (v := 5) hx hb dX2_init_5 (by decide) ?_
  refine n_new rfl C hP hD hS (N := 5) rfl (by decide) q4 (cells' := 1) (slots' := 5) rfl rfl (Nat.le_of_ble_eq_true rfl) (Nat.le_of_ble_eq_true rfl) dX2_init_6 (fun qa0 H hP hD hS => ?_)
  have hP : va_P D vwCl ([(o, .inr (2, [.int 0, .null, .null, .null, .null])), (qa0, .inl (cI, 5, .inl (fun _ => 0)))] : va_W) H := hP
  have hD : va_D A ([(o, .inr (2, [.int 0, .null, .null, .null, .null])), (qa0, .inl (cI, 5, .inl (fun _ => 0)))] : va_W) := hD
  refine lv_dup hx hb dX2_init_8 rfl ?_
  refine lv_iconst (v := 0) hx hb dX2_init_9 (by decide) ?_
  refine lv_bipush (v := 12) hx hb dX2_init_10 (by decide) ?_
  refine n_st rfl C hP hD hS 1 (i := 0) rfl (by decide) (by decide) rfl dX2_init_12 (fun H locs hP hD hS => ?_)
  have hP : va_P D vwCl ([(o, .inr (2, [.int 0, .null, .null, .null, .null])), (qa0, .inl (cI, 5, .inl (upd (fun _ => 0) 0 12)))] : va_W) H := hP
  have hD : va_D A ([(o, .inr (2, [.int 0, .null, .null, .null, .null])), (qa0, .inl (cI, 5, .inl (upd (fun _ => 0) 0 12)))] : va_W) := hD
  refine lv_dup hx hb dX2_init_13 rfl ?_
  refine lv_iconst (v := 1) hx hb dX2_init_14 (by decide) ?_
  refine lv_bipush (v := 20) hx hb dX2_init_15 (by decide) ?_
  refine n_st rfl C hP hD hS 1 (i := 1) rfl (by decide) (by decide) rfl dX2_init_17 (fun H locs hP hD hS => ?_)
  have hP : va_P D vwCl ([(o, .inr (2, [.int 0, .null, .null, .null, .null])), (qa0, .inl (cI, 5, .inl (upd (upd (fun _ => 0) 0 12) 1 20)))] : va_W) H := hP
  have hD : va_D A ([(o, .inr (2, [.int 0, .null, .null, .null, .null])), (qa0, .inl (cI, 5, .inl (upd (upd (fun _ => 0) 0 12) 1 20)))] : va_W) := hD
  refine lv_dup hx hb dX2_init_18 rfl ?_
  refine lv_iconst (v := 2) hx hb dX2_init_19 (by decide) ?_
  refine lv_sipush (v := 400) hx hb dX2_init_20 (by decide) ?_
  refine n_st rfl C hP hD hS 1 (i := 2) rfl (by decide) (by decide) rfl dX2_init_23 (fun H locs hP hD hS => ?_)
  have hP : va_P D vwCl ([(o, .inr (2, [.int 0, .null, .null, .null, .null])), (qa0, .inl (cI, 5, .inl (upd (upd (upd (fun _ => 0) 0 12) 1 20) 2 400)))] : va_W) H := hP
  have hD : va_D A ([(o, .inr (2, [.int 0, .null, .null, .null, .null])), (qa0, .inl (cI, 5, .inl (upd (upd (upd (fun _ => 0) 0 12) 1 20) 2 400)))] : va_W) := hD
  refine lv_dup hx hb dX2_init_24 rfl ?_
  refine lv_iconst (v := 3) hx hb dX2_init_25 (by decide) ?_
  refine lv_bipush (v := 25) hx hb dX2_init_26 (by decide) ?_
  refine n_st rfl C hP hD hS 1 (i := 3) rfl (by decide) (by decide) rfl dX2_init_28 (fun H locs hP hD hS => ?_)
  have hP : va_P D vwCl ([(o, .inr (2, [.int 0, .null, .null, .null, .null])), (qa0, .inl (cI, 5, .inl (upd (upd (upd (upd (fun _ => 0) 0 12) 1 20) 2 400) 3 25)))] : va_W) H := hP
  have hD : va_D A ([(o, .inr (2, [.int 0, .null, .null, .null, .null])), (qa0, .inl (cI, 5, .inl (upd (upd (upd (upd (fun _ => 0) 0 12) 1 20) 2 400) 3 25)))] : va_W) := hD
  refine lv_dup hx hb dX2_init_29 rfl ?_
  refine lv_iconst (v := 4) hx hb dX2_init_30 (by decide) ?_
  refine lv_iconst (v := 4) hx hb dX2_init_31 (by decide) ?_
  refine n_st rfl C hP hD hS 1 (i := 4) rfl (by decide) (by decide) rfl dX2_init_32 (fun H locs hP hD hS => ?_)
  have hP : va_P D vwCl ([(o, .inr (2, [.int 0, .null, .null, .null, .null])), (qa0, .inl (cI, 5, .inl (upd (upd (upd (upd (upd (fun _ => 0) 0 12) 1 20) 2 400) 3 25) 4 4)))] : va_W) H := hP
  have hD : va_D A ([(o, .inr (2, [.int 0, .null, .null, .null, .null])), (qa0, .inl (cI, 5, .inl (upd (upd (upd (upd (upd (fun _ => 0) 0 12) 1 20) 2 400) 3 25) 4 4)))] : va_W) := hD
  refine va_put (D := D) (ci := 2) (v := .ref qa0) (ty := .array .int) (C := RX2) (T := TX2) (N := 5) hx hb hts inlX2 tyX2 tyX2_ok nmX2 hown C.2.2.2.2.2.1 hP hD hS 0 rfl rfl 1 (by decide) (hts _ q33) (fun x h => h) rfl (by decide +kernel) rfl rfl (Nat.le_of_ble_eq_true rfl) dX2_init_33 (fun H locs hP hD hS => ?_)
  have hP : va_P D vwCl ([(o, .inr (2, [.int 0, .ref qa0, .null, .null, .null])), (qa0, .inl (cI, 5, .inl (upd (upd (upd (upd (upd (fun _ => 0) 0 12) 1 20) 2 400) 3 25) 4 4)))] : va_W) H := hP
  have hD : va_D A ([(o, .inr (2, [.int 0, .ref qa0, .null, .null, .null])), (qa0, .inl (cI, 5, .inl (upd (upd (upd (upd (upd (fun _ => 0) 0 12) 1 20) 2 400) 3 25) 4 4)))] : va_W) := hD
  refine lv_aload_n hx hb dX2_init_36 rfl (lv_at hl 0 rfl) ?_
  refine lv_iconst (v := 3) hx hb dX2_init_37 (by decide) ?_
  refine n_new rfl C hP hD hS (N := 3) rfl (by decide) q4 (cells' := 2) (slots' := 8) rfl rfl (Nat.le_of_ble_eq_true rfl) (Nat.le_of_ble_eq_true rfl) dX2_init_38 (fun qa1 H hP hD hS => ?_)
  have hP : va_P D vwCl ([(o, .inr (2, [.int 0, .ref qa0, .null, .null, .null])), (qa0, .inl (cI, 5, .inl (upd (upd (upd (upd (upd (fun _ => 0) 0 12) 1 20) 2 400) 3 25) 4 4))), (qa1, .inl (cI, 3, .inl (fun _ => 0)))] : va_W) H := hP
  have hD : va_D A ([(o, .inr (2, [.int 0, .ref qa0, .null, .null, .null])), (qa0, .inl (cI, 5, .inl (upd (upd (upd (upd (upd (fun _ => 0) 0 12) 1 20) 2 400) 3 25) 4 4))), (qa1, .inl (cI, 3, .inl (fun _ => 0)))] : va_W) := hD
  refine va_put (D := D) (ci := 2) (v := .ref qa1) (ty := .array .int) (C := RX2) (T := TX2) (N := 5) hx hb hts inlX2 tyX2 tyX2_ok nmX2 hown C.2.2.2.2.2.1 hP hD hS 0 rfl rfl 2 (by decide) (hts _ q34) (fun x h => h) rfl (by decide +kernel) rfl rfl (Nat.le_of_ble_eq_true rfl) dX2_init_40 (fun H locs hP hD hS => ?_)
  have hP : va_P D vwCl ([(o, .inr (2, [.int 0, .ref qa0, .ref qa1, .null, .null])), (qa0, .inl (cI, 5, .inl (upd (upd (upd (upd (upd (fun _ => 0) 0 12) 1 20) 2 400) 3 25) 4 4))), (qa1, .inl (cI, 3, .inl (fun _ => 0)))] : va_W) H := hP
  have hD : va_D A ([(o, .inr (2, [.int 0, .ref qa0, .ref qa1, .null, .null])), (qa0, .inl (cI, 5, .inl (upd (upd (upd (upd (upd (fun _ => 0) 0 12) 1 20) 2 400) 3 25) 4 4))), (qa1, .inl (cI, 3, .inl (fun _ => 0)))] : va_W) := hD
  refine lv_aload_n hx hb dX2_init_43 rfl (lv_at hl 0 rfl) ?_
  refine lv_iconst (v := 0) hx hb dX2_init_44 (by decide) ?_
  refine va_newq (D := D) C.1 C.2.1 C.2.2.2.1 (C.2.2.2.2.1 _ q35) (C.2.2.2.2.2.2.2.1.2.2.2.2.2.2.2.2.2.1) C.2.2.2.2.2.1 hP hD hS C.2.2.2.2.2.2.1 (n := 0) (N' := 0) (by decide) (by decide) (by decide) (Nat.le_of_ble_eq_true rfl) (Nat.le_of_ble_eq_true rfl) dX2_init_45 (fun qa2 cA H hK1 hP hD hS => ?_)
  obtain ⟨kA, comp, k1, k2, k3, k4⟩ := (C.2.2.2.2.2.1.2 1 (cR, .object RX1) rfl).2
  obtain ⟨kB, comp', k1', k2', k3', k4'⟩ := (hK1.2 3 (cA, .object RX1) rfl).2
  have e3 : cR = cA := Option.some.inj (k4.symm.trans k4')
  subst e3
  have hP : va_P D vwCl ([(o, .inr (2, [.int 0, .ref qa0, .ref qa1, .null, .null])), (qa0, .inl (cI, 5, .inl (upd (upd (upd (upd (upd (fun _ => 0) 0 12) 1 20) 2 400) 3 25) 4 4))), (qa1, .inl (cI, 3, .inl (fun _ => 0))), (qa2, .inl (cR, 0, .inr (.inr (.inr (.inr (fun _ => none))))))] : va_W) H := hP
  have hD : va_D A ([(o, .inr (2, [.int 0, .ref qa0, .ref qa1, .null, .null])), (qa0, .inl (cI, 5, .inl (upd (upd (upd (upd (upd (fun _ => 0) 0 12) 1 20) 2 400) 3 25) 4 4))), (qa1, .inl (cI, 3, .inl (fun _ => 0))), (qa2, .inl (cR, 0, .inr (.inr (.inr (.inr (fun _ => none))))))] : va_W) := hD
  refine va_put (D := D) (ci := 2) (v := .ref qa2) (ty := .array (.object RX1)) (C := RX2) (T := TX2) (N := 5) hx hb hts inlX2 tyX2 tyX2_ok nmX2 hown C.2.2.2.2.2.1 hP hD hS 0 rfl rfl 3 (by decide) (hts _ q36) (fun x h => h) rfl (by decide +kernel) rfl rfl (Nat.le_of_ble_eq_true rfl) dX2_init_48 (fun H locs hP hD hS => ?_)
  have hP : va_P D vwCl ([(o, .inr (2, [.int 0, .ref qa0, .ref qa1, .ref qa2, .null])), (qa0, .inl (cI, 5, .inl (upd (upd (upd (upd (upd (fun _ => 0) 0 12) 1 20) 2 400) 3 25) 4 4))), (qa1, .inl (cI, 3, .inl (fun _ => 0))), (qa2, .inl (cR, 0, .inr (.inr (.inr (.inr (fun _ => none))))))] : va_W) H := hP
  have hD : va_D A ([(o, .inr (2, [.int 0, .ref qa0, .ref qa1, .ref qa2, .null])), (qa0, .inl (cI, 5, .inl (upd (upd (upd (upd (upd (fun _ => 0) 0 12) 1 20) 2 400) 3 25) 4 4))), (qa1, .inl (cI, 3, .inl (fun _ => 0))), (qa2, .inl (cR, 0, .inr (.inr (.inr (.inr (fun _ => none))))))] : va_W) := hD
  have hP := va_P.ren (a := [(o, .inr (2, [.int 0, .ref qa0, .ref qa1, .ref qa2, .null])), (qa0, .inl (cI, 5, .inl (upd (upd (upd (upd (upd (fun _ => 0) 0 12) 1 20) 2 400) 3 25) 4 4))), (qa1, .inl (cI, 3, .inl (fun _ => 0)))]) (b := []) (g := fun _ => some 0) hP (fun k hk => absurd hk (Nat.not_lt_zero k))
  have hP : va_P D vwCl (rs_w cI cR o (fun k => if k = 0 then qa0 else if k = 1 then qa1 else qa2, fun _ => 0, none) ra_u0) H := hP
  have hD : va_D A (rs_w cI cR o (fun k => if k = 0 then qa0 else if k = 1 then qa1 else qa2, fun _ => 0, none) ra_u0) := rd_map hD rfl
  exact g_vret C hrt hP hD hS dX2_init_51 ⟨_, rfl, rfl⟩
set_option maxHeartbeats 4000000 in
set_option maxRecDepth 100000 in
theorem mX1_copy (l : Launch) (D : va_G) (t : Nat → Nat) (cI cR cB : ClassId) (o : Nat) (z : SA) (sz : Nat) (u : S0) (k : Nat) (hk : k < u.2.1) : gMr l yX1_copy (rw_ yX1_copy cX1_copy 2 (some (.object "ReaperWagesLaw$Reaper"))) (rm_ 2 1 7 70) [.ref (z.2.1 k)] D (ty3 cI cR cB) t (rs_w cI cR o z u) sz (fun x => x.2 = rs_w cI cR o z u ++ [(x.1, .inr (1, rq_f u k))]) := by
  refine g_of (cc := cX1_copy) (nL := 2) (rt := (some (.object "ReaperWagesLaw$Reaper"))) (Q := fun A => va_Qr (S := Nat × va_W) _ (fun u a U => u.1 = a ∧ gQ D A u.2 U) A) (by decide) (Nat.le_of_ble_eq_true rfl) (fun p e s m args below meth c A ls H C hrt hnm hS hP hD hl => ?_)
  have hx := C.1
  have hb := C.2.1
  have hown := C.2.2.2.1
  have hts := C.2.2.2.2.1
  have hl : lv_has ls 2 [(0, .ref (z.2.1 k))] := hl
  have S : sS D A s cI cR o z u [] H [] := ⟨by rw [List.append_nil]; exact hP, by rw [List.append_nil]; exact hD, hS⟩
  obtain ⟨locs, elocs⟩ : ∃ z : List Loc, z = [] := ⟨_, rfl⟩
  rw [← elocs] at S ⊢
  refine x_new1 C S q260 q50 q51 (cells' := 1) (slots' := 7) rfl rfl (Nat.le_of_ble_eq_true rfl) (Nat.le_of_ble_eq_true rfl) dX1_copy_0 (fun q H S => ?_)
  refine lv_dup hx hb dX1_copy_3 rfl ?_
  refine m_cv (wa := rs_w cI cR o z u) (wb := [(q, .inr (1, [.int 0, .int 0, .int 0, .int 0, .int 0, .int 0, .int 0]))]) (wd := []) (cells' := 1) (slots' := 7) rfl rfl C S.1 S.2.1 S.2.2 (fun hPb hDb => g_runI (n := 0) (As := []) C (mX1_init l D t cI cR cB q H.size _) q60 q51 q264 q59 rfl kd_X1_init ⟨Nat.le_of_ble_eq_true rfl, Nat.le_of_ble_eq_true rfl⟩ C.2.2.2.2.2.1 hPb hDb S.2.2 hl.1 rfl rfl (Nat.le_of_ble_eq_true rfl) dX1_copy_4 ⟨Nat.le_of_ble_eq_true rfl, Nat.le_of_ble_eq_true rfl⟩) (fun w' H locs hv _ hP9 hD9 hS9 => ?_)
  subst hv
  have S : sS D A s cI cR o z u [(q, .inr (1, [.int 0, .int 0, .int 0, .int 0, .int 0, .int 0, .int 0]))] H locs := ⟨hP9, hD9, hS9⟩
  refine lv_astore_n (lv' := [(1, .ref q), (0, .ref (z.2.1 k))]) hx hb dX1_copy_7 rfl hl (by decide) rfl (fun ls hl => ?_)
  refine lv_aload_n hx hb dX1_copy_8 rfl (lv_at hl 0 rfl) ?_
  refine lv_aload_n hx hb dX1_copy_9 rfl (lv_at hl 1 rfl) ?_
  refine r_gf C S 0 k (by decide) hk (v := .int (u.1 0 k)) rfl rfl q176 dX1_copy_10 ?_
  refine x_p1 C S 0 0 (by decide) (fs := [.int 0, .int 0, .int 0, .int 0, .int 0, .int 0, .int 0]) rfl rfl rfl (by decide +kernel) (Nat.le_of_ble_eq_true rfl) q176 dX1_copy_13 (fun H locs S => ?_)
  have S : sS D A s cI cR o z u [(q, .inr (1, [.int (u.1 0 k), .int 0, .int 0, .int 0, .int 0, .int 0, .int 0]))] H locs := S
  refine lv_aload_n hx hb dX1_copy_16 rfl (lv_at hl 0 rfl) ?_
  refine lv_aload_n hx hb dX1_copy_17 rfl (lv_at hl 1 rfl) ?_
  refine r_gf C S 1 k (by decide) hk (v := .int (u.1 1 k)) rfl rfl q181 dX1_copy_18 ?_
  refine x_p1 C S 0 1 (by decide) (fs := [.int (u.1 0 k), .int 0, .int 0, .int 0, .int 0, .int 0, .int 0]) rfl rfl rfl (by decide +kernel) (Nat.le_of_ble_eq_true rfl) q181 dX1_copy_21 (fun H locs S => ?_)
  have S : sS D A s cI cR o z u [(q, .inr (1, [.int (u.1 0 k), .int (u.1 1 k), .int 0, .int 0, .int 0, .int 0, .int 0]))] H locs := S
  refine lv_aload_n hx hb dX1_copy_24 rfl (lv_at hl 0 rfl) ?_
  refine lv_aload_n hx hb dX1_copy_25 rfl (lv_at hl 1 rfl) ?_
  refine r_gf C S 2 k (by decide) hk (v := .int (u.1 2 k)) rfl rfl q186 dX1_copy_26 ?_
  refine x_p1 C S 0 2 (by decide) (fs := [.int (u.1 0 k), .int (u.1 1 k), .int 0, .int 0, .int 0, .int 0, .int 0]) rfl rfl rfl (by decide +kernel) (Nat.le_of_ble_eq_true rfl) q186 dX1_copy_29 (fun H locs S => ?_)
  have S : sS D A s cI cR o z u [(q, .inr (1, [.int (u.1 0 k), .int (u.1 1 k), .int (u.1 2 k), .int 0, .int 0, .int 0, .int 0]))] H locs := S
  refine lv_aload_n hx hb dX1_copy_32 rfl (lv_at hl 0 rfl) ?_
  refine lv_aload_n hx hb dX1_copy_33 rfl (lv_at hl 1 rfl) ?_
  refine r_gf C S 3 k (by decide) hk (v := .int (u.1 3 k)) rfl rfl q187 dX1_copy_34 ?_
  refine x_p1 C S 0 3 (by decide) (fs := [.int (u.1 0 k), .int (u.1 1 k), .int (u.1 2 k), .int 0, .int 0, .int 0, .int 0]) rfl rfl rfl (by decide +kernel) (Nat.le_of_ble_eq_true rfl) q187 dX1_copy_37 (fun H locs S => ?_)
  have S : sS D A s cI cR o z u [(q, .inr (1, [.int (u.1 0 k), .int (u.1 1 k), .int (u.1 2 k), .int (u.1 3 k), .int 0, .int 0, .int 0]))] H locs := S
  refine lv_aload_n hx hb dX1_copy_40 rfl (lv_at hl 0 rfl) ?_
  refine lv_aload_n hx hb dX1_copy_41 rfl (lv_at hl 1 rfl) ?_
  refine r_gf C S 4 k (by decide) hk (v := .int (u.1 4 k)) rfl rfl q261 dX1_copy_42 ?_
  refine x_p1 C S 0 4 (by decide) (fs := [.int (u.1 0 k), .int (u.1 1 k), .int (u.1 2 k), .int (u.1 3 k), .int 0, .int 0, .int 0]) rfl rfl rfl (by decide +kernel) (Nat.le_of_ble_eq_true rfl) q261 dX1_copy_45 (fun H locs S => ?_)
  have S : sS D A s cI cR o z u [(q, .inr (1, [.int (u.1 0 k), .int (u.1 1 k), .int (u.1 2 k), .int (u.1 3 k), .int (u.1 4 k), .int 0, .int 0]))] H locs := S
  refine lv_aload_n hx hb dX1_copy_48 rfl (lv_at hl 0 rfl) ?_
  refine lv_aload_n hx hb dX1_copy_49 rfl (lv_at hl 1 rfl) ?_
  refine r_gf C S 5 k (by decide) hk (v := .int (u.1 5 k)) rfl rfl q262 dX1_copy_50 ?_
  refine x_p1 C S 0 5 (by decide) (fs := [.int (u.1 0 k), .int (u.1 1 k), .int (u.1 2 k), .int (u.1 3 k), .int (u.1 4 k), .int 0, .int 0]) rfl rfl rfl (by decide +kernel) (Nat.le_of_ble_eq_true rfl) q262 dX1_copy_53 (fun H locs S => ?_)
  have S : sS D A s cI cR o z u [(q, .inr (1, [.int (u.1 0 k), .int (u.1 1 k), .int (u.1 2 k), .int (u.1 3 k), .int (u.1 4 k), .int (u.1 5 k), .int 0]))] H locs := S
  refine lv_aload_n hx hb dX1_copy_56 rfl (lv_at hl 0 rfl) ?_
  refine lv_aload_n hx hb dX1_copy_57 rfl (lv_at hl 1 rfl) ?_
  refine r_gf C S 6 k (by decide) hk (v := .int (u.1 6 k)) rfl rfl q263 dX1_copy_58 ?_
  refine x_p1 C S 0 6 (by decide) (fs := [.int (u.1 0 k), .int (u.1 1 k), .int (u.1 2 k), .int (u.1 3 k), .int (u.1 4 k), .int (u.1 5 k), .int 0]) rfl rfl rfl (by decide +kernel) (Nat.le_of_ble_eq_true rfl) q263 dX1_copy_61 (fun H locs S => ?_)
  have S : sS D A s cI cR o z u [(q, .inr (1, [.int (u.1 0 k), .int (u.1 1 k), .int (u.1 2 k), .int (u.1 3 k), .int (u.1 4 k), .int (u.1 5 k), .int (u.1 6 k)]))] H locs := S
  refine lv_aload_n hx hb dX1_copy_64 rfl (lv_at hl 0 rfl) ?_
  exact g_areto C hrt S.1 S.2.1 S.2.2 dX1_copy_65 rfl
set_option maxHeartbeats 4000000 in
set_option maxRecDepth 100000 in
theorem lpX2_copy {p : Program} {l : Launch} {e : Env} {s : State} {m : MethodId} {args : Array Value} {below : List Frame} {meth : Method} {c : Code} {Q : State → Prop} {D : va_G} {t : Nat → Nat} {A : Nat → Prop} {cI cR cB : ClassId} {o : Nat} {z : SA} {u : S0} {o2 r2 c2 a2 : Nat} (C : gC p s m args meth c cX2_copy 3 RX2 D (ty3 cI cR cB) t A) (hu8 : u.2.1 ≤ 8) (kk : ∀ (pa : Nat → Nat) (H : Heap) (locs : List Loc) (ls : Array Slot), sS D A s cI cR o z u ((o2, .inr (2, [.int u.2.2, .ref r2, .ref c2, .ref a2, .null])) :: (r2, .inl (cI, 5, .inl (u.1 7))) :: (c2, .inl (cI, 3, .inl (u.1 8))) :: (a2, .inl (cR, u.2.1, .inr (.inr (.inr (.inr (fun k => if k < u.2.1 then some (pa k) else none)))))) :: fam u.2.1 (fun k => (pa k, .inr (1, rq_f u k)))) H locs → lv_has ls 3 [(0, .ref o), (1, .ref o2), (2, .int (nI u.2.1))] → W p l e (rm_ 4 16 107 91) s m args below meth c H locs (8 + u.2.1) (51 + 7 * u.2.1) Q (F0 m 88 ls [])) :
    ∀ (n i : Nat), i + n = u.2.1 → ∀ (pa : Nat → Nat) (H : Heap) (locs : List Loc) (ls : Array Slot), sS D A s cI cR o z u ((o2, .inr (2, [.int u.2.2, .ref r2, .ref c2, .ref a2, .null])) :: (r2, .inl (cI, 5, .inl (u.1 7))) :: (c2, .inl (cI, 3, .inl (u.1 8))) :: (a2, .inl (cR, u.2.1, .inr (.inr (.inr (.inr (fun k => if k < i then some (pa k) else none)))))) :: fam i (fun k => (pa k, .inr (1, rq_f u k)))) H locs → lv_has ls 3 [(0, .ref o), (1, .ref o2), (2, .int (nI i))] → W p l e (rm_ 4 16 107 91) s m args below meth c H locs (8 + i) (51 + 7 * i) Q (F0 m 58 ls []) := by
  have hx := C.1
  have hb := C.2.1
  have hown := C.2.2.2.1
  have hts := C.2.2.2.2.1
  intro n
  induction n with
  | zero =>
    intro i hi pa H locs ls S hl
    have hiN : i = u.2.1 := by omega
    refine lv_iload_n hx hb dX2_copy_58 rfl (lv_at hl 2 rfl) ?_
    refine lv_aload_n hx hb dX2_copy_59 rfl (lv_at hl 0 rfl) ?_
    refine s_gf C S 3 (by decide) (v := .ref (z.1 2)) rfl rfl q36 dX2_copy_60 ?_
    refine s_an C S dX2_copy_63 ?_
    refine lv_icmp_ge (tgt := 88) hx hb dX2_copy_64 (by decide) (fun c1 => ?_) (fun c1 => absurd ((nI_leI (a := u.2.1) (b := i) (by omega) (by omega)).mpr (by omega)) c1)
    rw [hiN] at S hl ⊢
    exact kk pa _ _ _ S (lv_sub hl [0, 1, 2] rfl)
  | succ n ih =>
    intro i hi pa H locs ls S hl
    have hin : i < u.2.1 := by omega
    refine lv_iload_n hx hb dX2_copy_58 rfl (lv_at hl 2 rfl) ?_
    refine lv_aload_n hx hb dX2_copy_59 rfl (lv_at hl 0 rfl) ?_
    refine s_gf C S 3 (by decide) (v := .ref (z.1 2)) rfl rfl q36 dX2_copy_60 ?_
    refine s_an C S dX2_copy_63 ?_
    refine lv_icmp_ge (tgt := 88) hx hb dX2_copy_64 (by decide) (fun c1 => absurd c1 (fun h9 => absurd ((nI_leI (a := u.2.1) (b := i) (by omega) (by omega)).mp h9) (by omega))) (fun c1 => ?_)
    refine lv_aload_n hx hb dX2_copy_67 rfl (lv_at hl 1 rfl) ?_
    refine x_g2 C S 0 3 (by decide) (fs := [.int u.2.2, .ref r2, .ref c2, .ref a2, .null]) rfl (v := .ref a2) rfl rfl q36 dX2_copy_68 ?_
    refine lv_iload_n hx hb dX2_copy_71 rfl (lv_at hl 2 rfl) ?_
    refine lv_aload_n hx hb dX2_copy_72 rfl (lv_at hl 0 rfl) ?_
    refine s_gf C S 3 (by decide) (v := .ref (z.1 2)) rfl rfl q36 dX2_copy_73 ?_
    refine lv_iload_n hx hb dX2_copy_76 rfl (lv_at hl 2 rfl) ?_
    refine s_al C S hu8 hin rfl dX2_copy_77 ?_
    refine m_cr (wa := []) (wb := rs_w cI cR o z u) (wd := (o2, .inr (2, [.int u.2.2, .ref r2, .ref c2, .ref a2, .null])) :: (r2, .inl (cI, 5, .inl (u.1 7))) :: (c2, .inl (cI, 3, .inl (u.1 8))) :: (a2, .inl (cR, u.2.1, .inr (.inr (.inr (.inr (fun k => if k < i then some (pa k) else none)))))) :: fam i (fun k => (pa k, .inr (1, rq_f u k)))) (cells' := 8 + i + 1) (slots' := 51 + 7 * i + 7) rfl rfl C S.1 S.2.1 S.2.2 (fun hPb hDb => g_runVj (n := 0) (As := []) C (mX1_copy l D t cI cR cB o z H.size u i hin) (rw_V q256 q257 q258 q51 q259) kd_X1_copy ⟨Nat.le_of_ble_eq_true rfl, Nat.le_of_ble_eq_true rfl⟩ (ci := 1) rfl rfl (4 + i) (rs_rp hin) C.2.2.2.2.2.1 hPb hDb S.2.2 hl.1 rfl rfl (Nat.le_of_ble_eq_true rfl) dX2_copy_78 ⟨(show 8 + i + 1 ≤ 16 by omega), (show 51 + 7 * i + 7 ≤ 107 by omega)⟩) (fun q w' H locs hv _ hP9 hD9 hS9 => ?_)
    have hv : w' = rs_w cI cR o z u ++ [(q, .inr (1, rq_f u i))] := hv
    subst hv
    rw [List.append_assoc] at hP9 hD9
    have S : sS D A s cI cR o z u ([(q, .inr (1, rq_f u i))] ++ ((o2, .inr (2, [.int u.2.2, .ref r2, .ref c2, .ref a2, .null])) :: (r2, .inl (cI, 5, .inl (u.1 7))) :: (c2, .inl (cI, 3, .inl (u.1 8))) :: (a2, .inl (cR, u.2.1, .inr (.inr (.inr (.inr (fun k => if k < i then some (pa k) else none)))))) :: fam i (fun k => (pa k, .inr (1, rq_f u k))))) H locs := ⟨hP9, hD9, hS9⟩
    have S := S.swap
    refine x_ast C S 3 ((rs_w cI cR o z u).length + (4 + i)) (n := u.2.1) (i := i) (f := fun k => if k < i then some (pa k) else none) (v := q) (vs := rq_f u i) rfl (rs_xp (cp_pl _)) (by omega) hin rfl dX2_copy_81 (fun H locs S => ?_)
    have S := cp_norm S
    refine lv_iinc (v := nI (i + 1)) (lv' := [(2, .int (nI (i + 1))), (0, .ref o), (1, .ref o2)]) hx hb dX2_copy_82 hl (k := 2) rfl (nI_1 _) (by decide) rfl (fun ls hl => ?_)
    refine lv_goto (tgt := 58) hx hb dX2_copy_85 (by decide) ?_
    refine W.widen (k := 8 + (i + 1)) (n := 51 + 7 * (i + 1)) (by omega) (by omega) ?_
    exact ih (i + 1) (by omega) _ _ _ _ S (lv_sub hl [1, 2, 0] rfl)
set_option maxHeartbeats 4000000 in
set_option maxRecDepth 100000 in
theorem mX2_copy (l : Launch) (D : va_G) (t : Nat → Nat) (cI cR cB : ClassId) (o : Nat) (z : SA) (sz : Nat) (u : S0) (hu8 : u.2.1 ≤ 8) : gMr l yX2_copy (rw_ yX2_copy cX2_copy 3 (some (.object "ReaperWagesLaw$Sim"))) (rm_ 4 16 107 91) [.ref o] D (ty3 cI cR cB) t (rs_w cI cR o z u) sz (fun x => ∃ z2 : SA, z2.2.2 = none ∧ x.2 = rs_w cI cR o z u ++ rs_w cI cR x.1 z2 u) := by
  refine g_of (cc := cX2_copy) (nL := 3) (rt := (some (.object "ReaperWagesLaw$Sim"))) (Q := fun A => va_Qr (S := Nat × va_W) _ (fun u a U => u.1 = a ∧ gQ D A u.2 U) A) (by decide) (Nat.le_of_ble_eq_true rfl) (fun p e s m args below meth c A ls H C hrt hnm hS hP hD hl => ?_)
  have hx := C.1
  have hb := C.2.1
  have hown := C.2.2.2.1
  have hts := C.2.2.2.2.1
  have hl : lv_has ls 3 [(0, .ref o)] := hl
  have S : sS D A s cI cR o z u [] H [] := ⟨by rw [List.append_nil]; exact hP, by rw [List.append_nil]; exact hD, hS⟩
  obtain ⟨locs, elocs⟩ : ∃ z : List Loc, z = [] := ⟨_, rfl⟩
  rw [← elocs] at S ⊢
  refine x_new2 C S q248 q28 q29 (cells' := 1) (slots' := 5) rfl rfl (Nat.le_of_ble_eq_true rfl) (Nat.le_of_ble_eq_true rfl) dX2_copy_0 (fun o2 H S => ?_)
  refine lv_dup hx hb dX2_copy_3 rfl ?_
  refine m_cv (wa := rs_w cI cR o z u) (wb := [(o2, .inr (2, [.int 0, .null, .null, .null, .null]))]) (wd := []) (cells' := 4) (slots' := 13) rfl rfl C S.1 S.2.1 S.2.2 (fun hPb hDb => g_runI (n := 0) (As := []) C (mX2_init l D t cI cR cB o2 H.size) q31 q29 q255 q30 rfl kd_X2_init ⟨Nat.le_of_ble_eq_true rfl, Nat.le_of_ble_eq_true rfl⟩ C.2.2.2.2.2.1 hPb hDb S.2.2 hl.1 rfl rfl (Nat.le_of_ble_eq_true rfl) dX2_copy_4 ⟨Nat.le_of_ble_eq_true rfl, Nat.le_of_ble_eq_true rfl⟩) (fun w' H locs hv _ hP9 hD9 hS9 => ?_)
  obtain ⟨z0, hz0, rfl⟩ := hv
  have S : sS D A s cI cR o z u [(o2, .inr (2, [.int 0, .ref (z0.1 0), .ref (z0.1 1), .ref (z0.1 2), va_rf z0.2.2]))] H locs := by
    have S9 : sS D A s cI cR o z u ([(o2, .inr (2, [.int 0, .ref (z0.1 0), .ref (z0.1 1), .ref (z0.1 2), va_rf z0.2.2]))] ++ [(z0.1 0, .inl (cI, 5, .inl (ra_u0.1 7))), (z0.1 1, .inl (cI, 3, .inl (ra_u0.1 8))), (z0.1 2, rs_al cR 0 z0)]) H locs := ⟨hP9, hD9, hS9⟩
    exact S9.drop
  rw [hz0] at S
  have S : sS D A s cI cR o z u ([(o2, .inr (2, [.int 0, .ref (z0.1 0), .ref (z0.1 1), .ref (z0.1 2), .null]))] : va_W) H locs := S
  refine lv_astore_n (lv' := [(1, .ref o2), (0, .ref o)]) hx hb dX2_copy_7 rfl hl (by decide) rfl (fun ls hl => ?_)
  refine lv_aload_n hx hb dX2_copy_8 rfl (lv_at hl 0 rfl) ?_
  refine lv_aload_n hx hb dX2_copy_9 rfl (lv_at hl 1 rfl) ?_
  refine s_gf C S 0 (by decide) (v := .int u.2.2) rfl rfl q167 dX2_copy_10 ?_
  refine x_p2 C S 0 0 (by decide) (fs := [.int 0, .ref (z0.1 0), .ref (z0.1 1), .ref (z0.1 2), .null]) rfl (v := .int u.2.2) (ty := .int) rfl rfl (by decide +kernel) rfl rfl (Nat.le_of_ble_eq_true rfl) q167 dX2_copy_13 (fun H locs S => ?_)
  have S : sS D A s cI cR o z u ([(o2, .inr (2, [.int u.2.2, .ref (z0.1 0), .ref (z0.1 1), .ref (z0.1 2), .null]))] : va_W) H locs := S
  refine lv_aload_n hx hb dX2_copy_16 rfl (lv_at hl 0 rfl) ?_
  refine lv_aload_n hx hb dX2_copy_17 rfl (lv_at hl 1 rfl) ?_
  refine s_gf C S 1 (by decide) (v := .ref (z.1 0)) rfl rfl q33 dX2_copy_18 ?_
  refine x_cln C S 1 (n := 5) (f := u.1 7) rfl hl.1 q249 q250 q251 q252 q253 (C.2.2.2.2.2.2.2.1.2.2.2.2.2.2.1) (Nat.le_of_ble_eq_true rfl) (Nat.le_of_ble_eq_true rfl) (cells' := 5) (slots' := 18) rfl rfl (Nat.le_of_ble_eq_true rfl) (Nat.le_of_ble_eq_true rfl) dX2_copy_21 (fun r2 H S => ?_)
  have S : sS D A s cI cR o z u ([(o2, .inr (2, [.int u.2.2, .ref (z0.1 0), .ref (z0.1 1), .ref (z0.1 2), .null])), (r2, .inl (cI, 5, .inl (u.1 7)))] : va_W) H locs := S
  refine x_cst C S 1 rfl q254 dX2_copy_24 ?_
  refine x_p2 C S 0 1 (by decide) (fs := [.int u.2.2, .ref (z0.1 0), .ref (z0.1 1), .ref (z0.1 2), .null]) rfl (v := .ref r2) (ty := .array .int) rfl rfl (by decide +kernel) rfl rfl (Nat.le_of_ble_eq_true rfl) q33 dX2_copy_27 (fun H locs S => ?_)
  have S : sS D A s cI cR o z u ([(o2, .inr (2, [.int u.2.2, .ref r2, .ref (z0.1 1), .ref (z0.1 2), .null])), (r2, .inl (cI, 5, .inl (u.1 7)))] : va_W) H locs := S
  refine lv_aload_n hx hb dX2_copy_30 rfl (lv_at hl 0 rfl) ?_
  refine lv_aload_n hx hb dX2_copy_31 rfl (lv_at hl 1 rfl) ?_
  refine s_gf C S 2 (by decide) (v := .ref (z.1 1)) rfl rfl q34 dX2_copy_32 ?_
  refine x_cln C S 2 (n := 3) (f := u.1 8) rfl hl.1 q249 q250 q251 q252 q253 (C.2.2.2.2.2.2.2.1.2.2.2.2.2.2.1) (Nat.le_of_ble_eq_true rfl) (Nat.le_of_ble_eq_true rfl) (cells' := 6) (slots' := 21) rfl rfl (Nat.le_of_ble_eq_true rfl) (Nat.le_of_ble_eq_true rfl) dX2_copy_35 (fun c2 H S => ?_)
  have S : sS D A s cI cR o z u ([(o2, .inr (2, [.int u.2.2, .ref r2, .ref (z0.1 1), .ref (z0.1 2), .null])), (r2, .inl (cI, 5, .inl (u.1 7))), (c2, .inl (cI, 3, .inl (u.1 8)))] : va_W) H locs := S
  refine x_cst C S 2 rfl q254 dX2_copy_38 ?_
  refine x_p2 C S 0 2 (by decide) (fs := [.int u.2.2, .ref r2, .ref (z0.1 1), .ref (z0.1 2), .null]) rfl (v := .ref c2) (ty := .array .int) rfl rfl (by decide +kernel) rfl rfl (Nat.le_of_ble_eq_true rfl) q34 dX2_copy_41 (fun H locs S => ?_)
  have S : sS D A s cI cR o z u ([(o2, .inr (2, [.int u.2.2, .ref r2, .ref c2, .ref (z0.1 2), .null])), (r2, .inl (cI, 5, .inl (u.1 7))), (c2, .inl (cI, 3, .inl (u.1 8)))] : va_W) H locs := S
  refine lv_aload_n hx hb dX2_copy_44 rfl (lv_at hl 0 rfl) ?_
  refine lv_aload_n hx hb dX2_copy_45 rfl (lv_at hl 1 rfl) ?_
  refine s_gf C S 3 (by decide) (v := .ref (z.1 2)) rfl rfl q36 dX2_copy_46 ?_
  refine s_an C S dX2_copy_49 ?_
  refine x_anw C S (N := u.2.1) rfl (by omega) q35 (C.2.2.2.2.2.2.2.1.2.2.2.2.2.2.2.2.2.1) (cells' := 7) (slots' := 21 + u.2.1) rfl rfl (Nat.le_of_ble_eq_true rfl) (show 21 + u.2.1 ≤ 107 by omega) dX2_copy_50 (fun a2 H S => ?_)
  have S : sS D A s cI cR o z u ([(o2, .inr (2, [.int u.2.2, .ref r2, .ref c2, .ref (z0.1 2), .null])), (r2, .inl (cI, 5, .inl (u.1 7))), (c2, .inl (cI, 3, .inl (u.1 8))), (a2, .inl (cR, u.2.1, .inr (.inr (.inr (.inr (fun _ => none))))))] : va_W) H locs := S
  refine x_p2 C S 0 3 (by decide) (fs := [.int u.2.2, .ref r2, .ref c2, .ref (z0.1 2), .null]) rfl (v := .ref a2) (ty := .array (.object RX1)) rfl rfl (by decide +kernel) rfl rfl (Nat.le_of_ble_eq_true rfl) q36 dX2_copy_53 (fun H locs S => ?_)
  have S : sS D A s cI cR o z u ([(o2, .inr (2, [.int u.2.2, .ref r2, .ref c2, .ref a2, .null])), (r2, .inl (cI, 5, .inl (u.1 7))), (c2, .inl (cI, 3, .inl (u.1 8))), (a2, .inl (cR, u.2.1, .inr (.inr (.inr (.inr (fun _ => none))))))] : va_W) H locs := S
  have S : sS D A s cI cR o z u ((o2, .inr (2, [.int u.2.2, .ref r2, .ref c2, .ref a2, .null])) :: (r2, .inl (cI, 5, .inl (u.1 7))) :: (c2, .inl (cI, 3, .inl (u.1 8))) :: (a2, .inl (cR, u.2.1, .inr (.inr (.inr (.inr (fun k => if k < 0 then some ((fun _ => 0) k) else none)))))) :: fam 0 (fun k => ((fun _ => 0) k, .inr (1, rq_f u k)))) H locs := by
    have e : (fun k : Nat => if k < 0 then some ((fun _ => 0 : Nat → Nat) k) else none) = fun _ => (none : Option Nat) := funext fun k => if_neg (Nat.not_lt_zero k)
    rw [e]; exact S
  refine lv_iconst (v := 0) hx hb dX2_copy_56 (by decide) ?_
  refine lv_istore_n (lv' := [(2, .int (nI 0)), (1, .ref o2), (0, .ref o)]) hx hb dX2_copy_57 rfl hl (by decide) rfl (fun ls hl => ?_)
  refine W.widen (k := 8 + 0) (n := 51 + 7 * 0) (by omega) (by omega) ?_
  refine lpX2_copy C hu8 (fun pa H locs ls S hl => ?_) u.2.1 0 (by omega) _ _ _ _ S (lv_sub hl [2, 1, 0] rfl)
  refine W.widen (k := 16) (n := 107) (by omega) (by omega) ?_
  refine lv_aload_n hx hb dX2_copy_88 rfl (lv_at hl 1 rfl) ?_
  have S := cp_end S
  exact g_areto C hrt S.1 S.2.1 S.2.2 dX2_copy_89 ⟨_, rfl, rfl⟩
