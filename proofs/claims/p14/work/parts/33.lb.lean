/-! THE LAW'S WALK: the class's cells, the reference's, the long row -/
def lS (D : va_G) (A : Nat → Prop) (s : State) (cI cL : ClassId) (o : Nat) (ad : Nat → Nat) (u : S0) (o2 : Nat) (v : S1) (q : Nat) (f : Nat → Int64) (H : Heap) (locs : List Loc) : Prop :=
  va_P D vwCl (ra_w cI o ad u) H ∧ va_P D vwCl (rb_w cI o2 v) H ∧ va_P D vwCl (lo_w cL q f) H ∧ va_D A (ra_w cI o ad u ++ (rb_w cI o2 v ++ lo_w cL q f)) ∧ va_S A s.heap H locs
theorem ld_cut (n : Nat) (hn : n < 2 ^ 31) (x : Int32) : (∃ k, k < n ∧ x = nI k) ∨ (x < 0 ∨ nI n ≤ x) := by
  by_cases h : x < 0
  · exact Or.inr (Or.inl h)
  · obtain ⟨j, hj, rfl⟩ := nI_of h
    by_cases h2 : j < n
    · exact Or.inl ⟨j, h2, rfl⟩
    · exact Or.inr (Or.inr (nI_le (by omega) hj))
theorem ld_sw (y : Int32) : (∃ k, k < 19 ∧ y = nI k) ∨ (y.toInt < 0 ∨ 18 < y.toInt) := by
  by_cases h : y < 0
  · exact Or.inr (Or.inl (Int32.lt_iff_toInt_lt.mp h))
  · obtain ⟨j, hj, rfl⟩ := nI_of h
    by_cases h2 : j < 19
    · exact Or.inl ⟨j, h2, rfl⟩
    · exact Or.inr (Or.inr (by rw [nI_toInt hj]; omega))
theorem ld_bad {x a b : Int32} (h : x < a ∨ ¬ x ≤ b) : x < a ∨ b < x := h.imp id Int32.not_le.mp
theorem ld_ok1 {x a b : Int32} (h : ¬ (x < a ∨ ¬ x ≤ b)) : ¬ x < a := fun h1 => h (Or.inl h1)
theorem ld_ok2 {x a b : Int32} (h : ¬ (x < a ∨ ¬ x ≤ b)) : x ≤ b := Decidable.byContradiction fun h1 => h (Or.inr h1)
theorem ld_ok3 {x a b : Int32} (h : ¬ (x < a ∨ ¬ x ≤ b)) : ¬ b < x := Int32.not_lt.mpr (ld_ok2 h)
theorem ld_least : ∀ k, rt_RX0_LEAST_RATE k = rt_RX1_LOW k := fun _ => rfl
theorem ld_most : ∀ k, rt_RX0_MOST_RATE k = rt_RX1_HIGH k := fun _ => rfl
theorem ld_cmp (x : Int64) : lg_cmp x x = 0 := by
  unfold lg_cmp
  simp
section LAWS
variable {p : Program} {l : Launch} {e : Env} {R : Room} {s : State} {m : MethodId} {args : Array Value} {below : List Frame} {meth : Method} {c : Code} {H : Heap} {locs : List Loc} {cells slots : Nat} {Q : State → Prop}
variable {cc : ByteArray} {nL pc : Nat} {ls : Array Slot} {own : String} {D : va_G} {t : Nat → Nat} {A : Nat → Prop}
variable {y : MethodName} {bytes : ByteArray} {maxL n idx : Nat} {ret : Option FieldType} {F mc ms LO : Nat} {As rest st0 : List Value} {hh : List (Nat × Nat × Nat × Nat)}
variable {cI cL : ClassId} {o o2 q : Nat} {ad : Nat → Nat} {u : S0} {v : S1} {f : Nat → Int64}
theorem g_lawH {P : Int32 → (Nat → Int64) → S0 → Prop} (C : gC p s m args meth c cc nL own D (lT cI cL) t A) (X : lS D A s cI cL o ad u o2 v q f H locs)
    (hM : ∀ sz, gMi l y (rwW_ y bytes maxL ret hh) (rm_ F mc ms LO) As D (lT cI cL) t (lo_w cL q f ++ ra_w cI o ad u) sz (fun r w' => ∃ f' u', P r f' u' ∧ w' = lo_w cL q f' ++ ra_w cI o ad u')) (hG : GoodIn wsL_law (va_wsS own idx y (rwW_ y bytes maxL ret hh)))
    (hd : y.cls ≠ "java/lang/invoke/MethodHandle" ∧ y.cls ≠ "java/lang/invoke/VarHandle" ∧ (parseMethodDescriptor y.desc).map (fun d => d.parameters.length) = some n) (hR : F + 1 ≤ R.frames ∧ 8 + (maxL + 11) + LO ≤ R.locals)
    (hl : ls.size = nL) (hn : As.length = n) (hst : st0 = As.reverse ++ rest) (hrest : (rest.map fun v => v.category).sum ≤ 8) (hdg : decode cc pc = .ok (.invokestatic idx, 3)) (hf : cells + mc ≤ R.cells ∧ slots + ms ≤ R.slots)
    (kk : ∀ (r : Int32) (f' : Nat → Int64) (u' : S0) (H1 : Heap) (locs1 : List Loc), P r f' u' → lS D A s cI cL o ad u' o2 v q f' H1 locs1 → W p l e R s m args below meth c H1 locs1 (cells + mc) (slots + ms) Q (F0 m (pc + 3) ls (.int r :: rest))) : W p l e R s m args below meth c H locs cells slots Q (F0 m pc ls st0) := by
  obtain ⟨hx, hr, ho, hD, hS⟩ := X
  have hD1 := rd_rot hD
  refine g_ci (wr := rb_w cI o2 v) rfl rfl C hr hD1 hS (g_runSW (wr := rb_w cI o2 v) C (hM H.size) hG hd hR C.2.2.2.2.2.1 (va_P.app ho hx) hD1 hS hl hn hst hrest hdg hf) (fun r w' H1 locs1 hv _ hr hw hD hS => ?_)
  obtain ⟨f', u', hp, rfl⟩ := hv
  exact kk r f' u' H1 locs1 hp ⟨hw.sub (ws' := ra_w cI o ad u') [1, 2, 3, 4, 5, 6, 7, 8, 9, 10, 11, 12, 13] rfl, hr, hw.sub (ws' := lo_w cL q f') [0] rfl, rd_rot (rd_rot hD), hS⟩
variable {b : Nat}
theorem g_lawXi {P : Int32 → S0 → Prop} {post : Int32 → va_W → Prop} (C : gC p s m args meth c cc nL own D (lT cI cL) t A) (X : lS D A s cI cL o ad u o2 v q f H locs)
    (hM : gMi l y (rw_ y bytes maxL ret) (rm_ F mc ms LO) (.ref o :: As) D [(cI, .int)] t (ra_w cI o ad u) H.size post) (hpost : ∀ r w', post r w' → ∃ u', P r u' ∧ w' = ra_w cI o ad u') (hG : GoodIn wsL_law (wsV own idx y.cls y (rw_ y bytes maxL ret)))
    (hd : y.cls = y.cls ∧ y.cls ≠ "java/lang/invoke/MethodHandle" ∧ y.cls ≠ "java/lang/invoke/VarHandle" ∧ (parseMethodDescriptor y.desc).map (fun d => d.parameters.length) = some n) (hc0 : RX0 = y.cls) (hR : F + 1 ≤ R.frames ∧ 8 + (maxL + 11) + LO ≤ R.locals)
    (hl : ls.size = nL) (hn : As.length = n) (hst : st0 = As.reverse ++ .ref o :: rest) (hrest : (rest.map fun v => v.category).sum ≤ 8) (hdg : decode cc pc = .ok (.invokevirtual idx, 3)) (hf : cells + mc ≤ R.cells ∧ slots + ms ≤ R.slots)
    (kk : ∀ (r : Int32) (u' : S0) (H1 : Heap) (locs1 : List Loc), P r u' → lS D A s cI cL o ad u' o2 v q f H1 locs1 → W p l e R s m args below meth c H1 locs1 (cells + mc) (slots + ms) Q (F0 m (pc + 3) ls (.int r :: rest))) : W p l e R s m args below meth c H locs cells slots Q (F0 m pc ls st0) := by
  obtain ⟨hx, hr, ho, hD, hS⟩ := X
  have hD1 := rd_swap hD
  refine g_ci (wr := rb_w cI o2 v ++ lo_w cL q f) rfl rfl C (va_P.app hr ho) hD1 hS (g_runV (wr := rb_w cI o2 v ++ lo_w cL q f) C hM hG hd hR (ci := 0) rfl hc0 rfl (C.2.2.2.2.2.1.sub (tys' := [(cI, .int)]) [0] rfl) hx hD1 hS hl hn hst hrest hdg hf) (fun r w' H1 locs1 hv _ hw0 hw hD hS => ?_)
  obtain ⟨u', hp, rfl⟩ := hpost _ _ hv
  exact kk r u' H1 locs1 hp ⟨hw, hw0.sub (ws' := rb_w cI o2 v) [0, 1, 2, 3, 4] rfl, hw0.sub (ws' := lo_w cL q f) [5] rfl, rd_swap hD, hS⟩
theorem g_lawRi {P : Int32 → S1 → Prop} {post : Int32 → va_W → Prop} (C : gC p s m args meth c cc nL own D (lT cI cL) t A) (X : lS D A s cI cL o ad u o2 v q f H locs)
    (hM : gMi l y (rw_ y bytes maxL ret) (rm_ F mc ms LO) (.ref o2 :: As) D [(cI, .int)] t (rb_w cI o2 v) H.size post) (hpost : ∀ r w', post r w' → ∃ v', P r v' ∧ w' = rb_w cI o2 v') (hG : GoodIn wsL_law (wsV own idx y.cls y (rw_ y bytes maxL ret)))
    (hd : y.cls = y.cls ∧ y.cls ≠ "java/lang/invoke/MethodHandle" ∧ y.cls ≠ "java/lang/invoke/VarHandle" ∧ (parseMethodDescriptor y.desc).map (fun d => d.parameters.length) = some n) (hc0 : RX1 = y.cls) (hR : F + 1 ≤ R.frames ∧ 8 + (maxL + 11) + LO ≤ R.locals)
    (hl : ls.size = nL) (hn : As.length = n) (hst : st0 = As.reverse ++ .ref o2 :: rest) (hrest : (rest.map fun v => v.category).sum ≤ 8) (hdg : decode cc pc = .ok (.invokevirtual idx, 3)) (hf : cells + mc ≤ R.cells ∧ slots + ms ≤ R.slots)
    (kk : ∀ (r : Int32) (v' : S1) (H1 : Heap) (locs1 : List Loc), P r v' → lS D A s cI cL o ad u o2 v' q f H1 locs1 → W p l e R s m args below meth c H1 locs1 (cells + mc) (slots + ms) Q (F0 m (pc + 3) ls (.int r :: rest))) : W p l e R s m args below meth c H locs cells slots Q (F0 m pc ls st0) := by
  obtain ⟨hx, hr, ho, hD, hS⟩ := X
  have hD1 := rd_swap (rd_rot hD)
  refine g_ci (wr := lo_w cL q f ++ ra_w cI o ad u) rfl rfl C (va_P.app ho hx) hD1 hS (g_runV (wr := lo_w cL q f ++ ra_w cI o ad u) C hM hG hd hR (ci := 1) rfl hc0 rfl (C.2.2.2.2.2.1.sub (tys' := [(cI, .int)]) [0] rfl) hr hD1 hS hl hn hst hrest hdg hf) (fun r w' H1 locs1 hv _ hw0 hw hD hS => ?_)
  obtain ⟨v', hp, rfl⟩ := hpost _ _ hv
  exact kk r v' H1 locs1 hp ⟨hw0.sub (ws' := ra_w cI o ad u) [1, 2, 3, 4, 5, 6, 7, 8, 9, 10, 11, 12, 13] rfl, hw, hw0.sub (ws' := lo_w cL q f) [0] rfl, rd_rot (rd_rot (rd_swap hD)), hS⟩
theorem g_lawXl {P : Int64 → S0 → Prop} {post : Int64 → va_W → Prop} (C : gC p s m args meth c cc nL own D (lT cI cL) t A) (X : lS D A s cI cL o ad u o2 v q f H locs)
    (hM : gMl l y (rw_ y bytes maxL ret) (rm_ F mc ms LO) (.ref o :: As) D [(cI, .int)] t (ra_w cI o ad u) H.size post) (hpost : ∀ r w', post r w' → ∃ u', P r u' ∧ w' = ra_w cI o ad u') (hG : GoodIn wsL_law (wsV own idx y.cls y (rw_ y bytes maxL ret)))
    (hd : y.cls = y.cls ∧ y.cls ≠ "java/lang/invoke/MethodHandle" ∧ y.cls ≠ "java/lang/invoke/VarHandle" ∧ (parseMethodDescriptor y.desc).map (fun d => d.parameters.length) = some n) (hc0 : RX0 = y.cls) (hR : F + 1 ≤ R.frames ∧ 8 + (maxL + 11) + LO ≤ R.locals)
    (hl : ls.size = nL) (hn : As.length = n) (hst : st0 = As.reverse ++ .ref o :: rest) (hrest : (rest.map fun v => v.category).sum ≤ 8) (hdg : decode cc pc = .ok (.invokevirtual idx, 3)) (hf : cells + mc ≤ R.cells ∧ slots + ms ≤ R.slots)
    (kk : ∀ (r : Int64) (u' : S0) (H1 : Heap) (locs1 : List Loc), P r u' → lS D A s cI cL o ad u' o2 v q f H1 locs1 → W p l e R s m args below meth c H1 locs1 (cells + mc) (slots + ms) Q (F0 m (pc + 3) ls (.long r :: rest))) : W p l e R s m args below meth c H locs cells slots Q (F0 m pc ls st0) := by
  obtain ⟨hx, hr, ho, hD, hS⟩ := X
  have hD1 := rd_swap hD
  refine g_cl (wr := rb_w cI o2 v ++ lo_w cL q f) rfl rfl C (va_P.app hr ho) hD1 hS (g_runV (wr := rb_w cI o2 v ++ lo_w cL q f) C hM hG hd hR (ci := 0) rfl hc0 rfl (C.2.2.2.2.2.1.sub (tys' := [(cI, .int)]) [0] rfl) hx hD1 hS hl hn hst hrest hdg hf) (fun r w' H1 locs1 hv _ hw0 hw hD hS => ?_)
  obtain ⟨u', hp, rfl⟩ := hpost _ _ hv
  exact kk r u' H1 locs1 hp ⟨hw, hw0.sub (ws' := rb_w cI o2 v) [0, 1, 2, 3, 4] rfl, hw0.sub (ws' := lo_w cL q f) [5] rfl, rd_swap hD, hS⟩
theorem g_lawRl {P : Int64 → S1 → Prop} {post : Int64 → va_W → Prop} (C : gC p s m args meth c cc nL own D (lT cI cL) t A) (X : lS D A s cI cL o ad u o2 v q f H locs)
    (hM : gMl l y (rw_ y bytes maxL ret) (rm_ F mc ms LO) (.ref o2 :: As) D [(cI, .int)] t (rb_w cI o2 v) H.size post) (hpost : ∀ r w', post r w' → ∃ v', P r v' ∧ w' = rb_w cI o2 v') (hG : GoodIn wsL_law (wsV own idx y.cls y (rw_ y bytes maxL ret)))
    (hd : y.cls = y.cls ∧ y.cls ≠ "java/lang/invoke/MethodHandle" ∧ y.cls ≠ "java/lang/invoke/VarHandle" ∧ (parseMethodDescriptor y.desc).map (fun d => d.parameters.length) = some n) (hc0 : RX1 = y.cls) (hR : F + 1 ≤ R.frames ∧ 8 + (maxL + 11) + LO ≤ R.locals)
    (hl : ls.size = nL) (hn : As.length = n) (hst : st0 = As.reverse ++ .ref o2 :: rest) (hrest : (rest.map fun v => v.category).sum ≤ 8) (hdg : decode cc pc = .ok (.invokevirtual idx, 3)) (hf : cells + mc ≤ R.cells ∧ slots + ms ≤ R.slots)
    (kk : ∀ (r : Int64) (v' : S1) (H1 : Heap) (locs1 : List Loc), P r v' → lS D A s cI cL o ad u o2 v' q f H1 locs1 → W p l e R s m args below meth c H1 locs1 (cells + mc) (slots + ms) Q (F0 m (pc + 3) ls (.long r :: rest))) : W p l e R s m args below meth c H locs cells slots Q (F0 m pc ls st0) := by
  obtain ⟨hx, hr, ho, hD, hS⟩ := X
  have hD1 := rd_swap (rd_rot hD)
  refine g_cl (wr := lo_w cL q f ++ ra_w cI o ad u) rfl rfl C (va_P.app ho hx) hD1 hS (g_runV (wr := lo_w cL q f ++ ra_w cI o ad u) C hM hG hd hR (ci := 1) rfl hc0 rfl (C.2.2.2.2.2.1.sub (tys' := [(cI, .int)]) [0] rfl) hr hD1 hS hl hn hst hrest hdg hf) (fun r w' H1 locs1 hv _ hw0 hw hD hS => ?_)
  obtain ⟨v', hp, rfl⟩ := hpost _ _ hv
  exact kk r v' H1 locs1 hp ⟨hw0.sub (ws' := ra_w cI o ad u) [1, 2, 3, 4, 5, 6, 7, 8, 9, 10, 11, 12, 13] rfl, hw, hw0.sub (ws' := lo_w cL q f) [0] rfl, rd_rot (rd_rot (rd_swap hD)), hS⟩
theorem g_lawXd {P : UInt64 → S0 → Prop} {post : UInt64 → va_W → Prop} (C : gC p s m args meth c cc nL own D (lT cI cL) t A) (X : lS D A s cI cL o ad u o2 v q f H locs)
    (hM : gMd l y (rw_ y bytes maxL ret) (rm_ F mc ms LO) (.ref o :: As) D [(cI, .int)] t (ra_w cI o ad u) H.size post) (hpost : ∀ r w', post r w' → ∃ u', P r u' ∧ w' = ra_w cI o ad u') (hG : GoodIn wsL_law (wsV own idx y.cls y (rw_ y bytes maxL ret)))
    (hd : y.cls = y.cls ∧ y.cls ≠ "java/lang/invoke/MethodHandle" ∧ y.cls ≠ "java/lang/invoke/VarHandle" ∧ (parseMethodDescriptor y.desc).map (fun d => d.parameters.length) = some n) (hc0 : RX0 = y.cls) (hR : F + 1 ≤ R.frames ∧ 8 + (maxL + 11) + LO ≤ R.locals)
    (hl : ls.size = nL) (hn : As.length = n) (hst : st0 = As.reverse ++ .ref o :: rest) (hrest : (rest.map fun v => v.category).sum ≤ 8) (hdg : decode cc pc = .ok (.invokevirtual idx, 3)) (hf : cells + mc ≤ R.cells ∧ slots + ms ≤ R.slots)
    (kk : ∀ (r : UInt64) (u' : S0) (H1 : Heap) (locs1 : List Loc), P r u' → lS D A s cI cL o ad u' o2 v q f H1 locs1 → W p l e R s m args below meth c H1 locs1 (cells + mc) (slots + ms) Q (F0 m (pc + 3) ls (.double r :: rest))) : W p l e R s m args below meth c H locs cells slots Q (F0 m pc ls st0) := by
  obtain ⟨hx, hr, ho, hD, hS⟩ := X
  have hD1 := rd_swap hD
  refine g_cd (wr := rb_w cI o2 v ++ lo_w cL q f) rfl rfl C (va_P.app hr ho) hD1 hS (g_runV (wr := rb_w cI o2 v ++ lo_w cL q f) C hM hG hd hR (ci := 0) rfl hc0 rfl (C.2.2.2.2.2.1.sub (tys' := [(cI, .int)]) [0] rfl) hx hD1 hS hl hn hst hrest hdg hf) (fun r w' H1 locs1 hv _ hw0 hw hD hS => ?_)
  obtain ⟨u', hp, rfl⟩ := hpost _ _ hv
  exact kk r u' H1 locs1 hp ⟨hw, hw0.sub (ws' := rb_w cI o2 v) [0, 1, 2, 3, 4] rfl, hw0.sub (ws' := lo_w cL q f) [5] rfl, rd_swap hD, hS⟩
theorem g_lawRd {P : UInt64 → S1 → Prop} {post : UInt64 → va_W → Prop} (C : gC p s m args meth c cc nL own D (lT cI cL) t A) (X : lS D A s cI cL o ad u o2 v q f H locs)
    (hM : gMd l y (rw_ y bytes maxL ret) (rm_ F mc ms LO) (.ref o2 :: As) D [(cI, .int)] t (rb_w cI o2 v) H.size post) (hpost : ∀ r w', post r w' → ∃ v', P r v' ∧ w' = rb_w cI o2 v') (hG : GoodIn wsL_law (wsV own idx y.cls y (rw_ y bytes maxL ret)))
    (hd : y.cls = y.cls ∧ y.cls ≠ "java/lang/invoke/MethodHandle" ∧ y.cls ≠ "java/lang/invoke/VarHandle" ∧ (parseMethodDescriptor y.desc).map (fun d => d.parameters.length) = some n) (hc0 : RX1 = y.cls) (hR : F + 1 ≤ R.frames ∧ 8 + (maxL + 11) + LO ≤ R.locals)
    (hl : ls.size = nL) (hn : As.length = n) (hst : st0 = As.reverse ++ .ref o2 :: rest) (hrest : (rest.map fun v => v.category).sum ≤ 8) (hdg : decode cc pc = .ok (.invokevirtual idx, 3)) (hf : cells + mc ≤ R.cells ∧ slots + ms ≤ R.slots)
    (kk : ∀ (r : UInt64) (v' : S1) (H1 : Heap) (locs1 : List Loc), P r v' → lS D A s cI cL o ad u o2 v' q f H1 locs1 → W p l e R s m args below meth c H1 locs1 (cells + mc) (slots + ms) Q (F0 m (pc + 3) ls (.double r :: rest))) : W p l e R s m args below meth c H locs cells slots Q (F0 m pc ls st0) := by
  obtain ⟨hx, hr, ho, hD, hS⟩ := X
  have hD1 := rd_swap (rd_rot hD)
  refine g_cd (wr := lo_w cL q f ++ ra_w cI o ad u) rfl rfl C (va_P.app ho hx) hD1 hS (g_runV (wr := lo_w cL q f ++ ra_w cI o ad u) C hM hG hd hR (ci := 1) rfl hc0 rfl (C.2.2.2.2.2.1.sub (tys' := [(cI, .int)]) [0] rfl) hr hD1 hS hl hn hst hrest hdg hf) (fun r w' H1 locs1 hv _ hw0 hw hD hS => ?_)
  obtain ⟨v', hp, rfl⟩ := hpost _ _ hv
  exact kk r v' H1 locs1 hp ⟨hw0.sub (ws' := ra_w cI o ad u) [1, 2, 3, 4, 5, 6, 7, 8, 9, 10, 11, 12, 13] rfl, hw, hw0.sub (ws' := lo_w cL q f) [0] rfl, rd_rot (rd_rot (rd_swap hD)), hS⟩
end LAWS
section LAWE
variable {p : Program} {l : Launch} {e : Env} {R : Room} {s : State} {m : MethodId} {args : Array Value} {below : List Frame} {meth : Method} {c : Code} {H : Heap} {locs : List Loc} {cells slots : Nat} {Q : State → Prop}
variable {cc : ByteArray} {nL pc : Nat} {ls : Array Slot} {own : String} {D : va_G} {t : Nat → Nat} {A : Nat → Prop}
variable {y : MethodName} {bytes : ByteArray} {maxL n idx : Nat} {ret : Option FieldType} {F mc ms LO : Nat} {As rest st0 : List Value}
variable {cI cL : ClassId} {o o2 q : Nat} {ad : Nat → Nat} {u : S0} {v : S1} {f : Nat → Int64}
theorem g_lawXie {val : Int32} {u2 : S0} (C : gC p s m args meth c cc nL own D (lT cI cL) t A) (X : lS D A s cI cL o ad u o2 v q f H locs)
    (hM : gMi l y (rw_ y bytes maxL ret) (rm_ F mc ms LO) (.ref o :: As) D [(cI, .int)] t (ra_w cI o ad u) H.size (fun r w' => r = val ∧ w' = ra_w cI o ad u2)) (hG : GoodIn wsL_law (wsV own idx y.cls y (rw_ y bytes maxL ret)))
    (hd : y.cls = y.cls ∧ y.cls ≠ "java/lang/invoke/MethodHandle" ∧ y.cls ≠ "java/lang/invoke/VarHandle" ∧ (parseMethodDescriptor y.desc).map (fun d => d.parameters.length) = some n) (hc0 : RX0 = y.cls) (hR : F + 1 ≤ R.frames ∧ 8 + (maxL + 11) + LO ≤ R.locals)
    (hl : ls.size = nL) (hn : As.length = n) (hst : st0 = As.reverse ++ .ref o :: rest) (hrest : (rest.map fun v => v.category).sum ≤ 8) (hdg : decode cc pc = .ok (.invokevirtual idx, 3)) (hf : cells + mc ≤ R.cells ∧ slots + ms ≤ R.slots)
    (kk : ∀ (H1 : Heap) (locs1 : List Loc), lS D A s cI cL o ad u2 o2 v q f H1 locs1 → W p l e R s m args below meth c H1 locs1 (cells + mc) (slots + ms) Q (F0 m (pc + 3) ls (.int val :: rest))) : W p l e R s m args below meth c H locs cells slots Q (F0 m pc ls st0) :=
  g_lawXi (P := fun r u' => r = val ∧ u' = u2) C X hM (fun r w' h => ⟨u2, ⟨h.1, rfl⟩, h.2⟩) hG hd hc0 hR hl hn hst hrest hdg hf (fun r u' H1 locs1 h X => by obtain ⟨rfl, rfl⟩ := h; exact kk H1 locs1 X)
theorem g_lawRie {val : Int32} {v2 : S1} (C : gC p s m args meth c cc nL own D (lT cI cL) t A) (X : lS D A s cI cL o ad u o2 v q f H locs)
    (hM : gMi l y (rw_ y bytes maxL ret) (rm_ F mc ms LO) (.ref o2 :: As) D [(cI, .int)] t (rb_w cI o2 v) H.size (fun r w' => r = val ∧ w' = rb_w cI o2 v2)) (hG : GoodIn wsL_law (wsV own idx y.cls y (rw_ y bytes maxL ret)))
    (hd : y.cls = y.cls ∧ y.cls ≠ "java/lang/invoke/MethodHandle" ∧ y.cls ≠ "java/lang/invoke/VarHandle" ∧ (parseMethodDescriptor y.desc).map (fun d => d.parameters.length) = some n) (hc0 : RX1 = y.cls) (hR : F + 1 ≤ R.frames ∧ 8 + (maxL + 11) + LO ≤ R.locals)
    (hl : ls.size = nL) (hn : As.length = n) (hst : st0 = As.reverse ++ .ref o2 :: rest) (hrest : (rest.map fun v => v.category).sum ≤ 8) (hdg : decode cc pc = .ok (.invokevirtual idx, 3)) (hf : cells + mc ≤ R.cells ∧ slots + ms ≤ R.slots)
    (kk : ∀ (H1 : Heap) (locs1 : List Loc), lS D A s cI cL o ad u o2 v2 q f H1 locs1 → W p l e R s m args below meth c H1 locs1 (cells + mc) (slots + ms) Q (F0 m (pc + 3) ls (.int val :: rest))) : W p l e R s m args below meth c H locs cells slots Q (F0 m pc ls st0) :=
  g_lawRi (P := fun r v' => r = val ∧ v' = v2) C X hM (fun r w' h => ⟨v2, ⟨h.1, rfl⟩, h.2⟩) hG hd hc0 hR hl hn hst hrest hdg hf (fun r v' H1 locs1 h X => by obtain ⟨rfl, rfl⟩ := h; exact kk H1 locs1 X)
theorem g_lawXle {val : Int64} {u2 : S0} (C : gC p s m args meth c cc nL own D (lT cI cL) t A) (X : lS D A s cI cL o ad u o2 v q f H locs)
    (hM : gMl l y (rw_ y bytes maxL ret) (rm_ F mc ms LO) (.ref o :: As) D [(cI, .int)] t (ra_w cI o ad u) H.size (fun r w' => r = val ∧ w' = ra_w cI o ad u2)) (hG : GoodIn wsL_law (wsV own idx y.cls y (rw_ y bytes maxL ret)))
    (hd : y.cls = y.cls ∧ y.cls ≠ "java/lang/invoke/MethodHandle" ∧ y.cls ≠ "java/lang/invoke/VarHandle" ∧ (parseMethodDescriptor y.desc).map (fun d => d.parameters.length) = some n) (hc0 : RX0 = y.cls) (hR : F + 1 ≤ R.frames ∧ 8 + (maxL + 11) + LO ≤ R.locals)
    (hl : ls.size = nL) (hn : As.length = n) (hst : st0 = As.reverse ++ .ref o :: rest) (hrest : (rest.map fun v => v.category).sum ≤ 8) (hdg : decode cc pc = .ok (.invokevirtual idx, 3)) (hf : cells + mc ≤ R.cells ∧ slots + ms ≤ R.slots)
    (kk : ∀ (H1 : Heap) (locs1 : List Loc), lS D A s cI cL o ad u2 o2 v q f H1 locs1 → W p l e R s m args below meth c H1 locs1 (cells + mc) (slots + ms) Q (F0 m (pc + 3) ls (.long val :: rest))) : W p l e R s m args below meth c H locs cells slots Q (F0 m pc ls st0) :=
  g_lawXl (P := fun r u' => r = val ∧ u' = u2) C X hM (fun r w' h => ⟨u2, ⟨h.1, rfl⟩, h.2⟩) hG hd hc0 hR hl hn hst hrest hdg hf (fun r u' H1 locs1 h X => by obtain ⟨rfl, rfl⟩ := h; exact kk H1 locs1 X)
theorem g_lawRle {val : Int64} {v2 : S1} (C : gC p s m args meth c cc nL own D (lT cI cL) t A) (X : lS D A s cI cL o ad u o2 v q f H locs)
    (hM : gMl l y (rw_ y bytes maxL ret) (rm_ F mc ms LO) (.ref o2 :: As) D [(cI, .int)] t (rb_w cI o2 v) H.size (fun r w' => r = val ∧ w' = rb_w cI o2 v2)) (hG : GoodIn wsL_law (wsV own idx y.cls y (rw_ y bytes maxL ret)))
    (hd : y.cls = y.cls ∧ y.cls ≠ "java/lang/invoke/MethodHandle" ∧ y.cls ≠ "java/lang/invoke/VarHandle" ∧ (parseMethodDescriptor y.desc).map (fun d => d.parameters.length) = some n) (hc0 : RX1 = y.cls) (hR : F + 1 ≤ R.frames ∧ 8 + (maxL + 11) + LO ≤ R.locals)
    (hl : ls.size = nL) (hn : As.length = n) (hst : st0 = As.reverse ++ .ref o2 :: rest) (hrest : (rest.map fun v => v.category).sum ≤ 8) (hdg : decode cc pc = .ok (.invokevirtual idx, 3)) (hf : cells + mc ≤ R.cells ∧ slots + ms ≤ R.slots)
    (kk : ∀ (H1 : Heap) (locs1 : List Loc), lS D A s cI cL o ad u o2 v2 q f H1 locs1 → W p l e R s m args below meth c H1 locs1 (cells + mc) (slots + ms) Q (F0 m (pc + 3) ls (.long val :: rest))) : W p l e R s m args below meth c H locs cells slots Q (F0 m pc ls st0) :=
  g_lawRl (P := fun r v' => r = val ∧ v' = v2) C X hM (fun r w' h => ⟨v2, ⟨h.1, rfl⟩, h.2⟩) hG hd hc0 hR hl hn hst hrest hdg hf (fun r v' H1 locs1 h X => by obtain ⟨rfl, rfl⟩ := h; exact kk H1 locs1 X)
theorem g_lawXde {val : UInt64} {u2 : S0} (C : gC p s m args meth c cc nL own D (lT cI cL) t A) (X : lS D A s cI cL o ad u o2 v q f H locs)
    (hM : gMd l y (rw_ y bytes maxL ret) (rm_ F mc ms LO) (.ref o :: As) D [(cI, .int)] t (ra_w cI o ad u) H.size (fun r w' => r = val ∧ w' = ra_w cI o ad u2)) (hG : GoodIn wsL_law (wsV own idx y.cls y (rw_ y bytes maxL ret)))
    (hd : y.cls = y.cls ∧ y.cls ≠ "java/lang/invoke/MethodHandle" ∧ y.cls ≠ "java/lang/invoke/VarHandle" ∧ (parseMethodDescriptor y.desc).map (fun d => d.parameters.length) = some n) (hc0 : RX0 = y.cls) (hR : F + 1 ≤ R.frames ∧ 8 + (maxL + 11) + LO ≤ R.locals)
    (hl : ls.size = nL) (hn : As.length = n) (hst : st0 = As.reverse ++ .ref o :: rest) (hrest : (rest.map fun v => v.category).sum ≤ 8) (hdg : decode cc pc = .ok (.invokevirtual idx, 3)) (hf : cells + mc ≤ R.cells ∧ slots + ms ≤ R.slots)
    (kk : ∀ (H1 : Heap) (locs1 : List Loc), lS D A s cI cL o ad u2 o2 v q f H1 locs1 → W p l e R s m args below meth c H1 locs1 (cells + mc) (slots + ms) Q (F0 m (pc + 3) ls (.double val :: rest))) : W p l e R s m args below meth c H locs cells slots Q (F0 m pc ls st0) :=
  g_lawXd (P := fun r u' => r = val ∧ u' = u2) C X hM (fun r w' h => ⟨u2, ⟨h.1, rfl⟩, h.2⟩) hG hd hc0 hR hl hn hst hrest hdg hf (fun r u' H1 locs1 h X => by obtain ⟨rfl, rfl⟩ := h; exact kk H1 locs1 X)
theorem g_lawRde {val : UInt64} {v2 : S1} (C : gC p s m args meth c cc nL own D (lT cI cL) t A) (X : lS D A s cI cL o ad u o2 v q f H locs)
    (hM : gMd l y (rw_ y bytes maxL ret) (rm_ F mc ms LO) (.ref o2 :: As) D [(cI, .int)] t (rb_w cI o2 v) H.size (fun r w' => r = val ∧ w' = rb_w cI o2 v2)) (hG : GoodIn wsL_law (wsV own idx y.cls y (rw_ y bytes maxL ret)))
    (hd : y.cls = y.cls ∧ y.cls ≠ "java/lang/invoke/MethodHandle" ∧ y.cls ≠ "java/lang/invoke/VarHandle" ∧ (parseMethodDescriptor y.desc).map (fun d => d.parameters.length) = some n) (hc0 : RX1 = y.cls) (hR : F + 1 ≤ R.frames ∧ 8 + (maxL + 11) + LO ≤ R.locals)
    (hl : ls.size = nL) (hn : As.length = n) (hst : st0 = As.reverse ++ .ref o2 :: rest) (hrest : (rest.map fun v => v.category).sum ≤ 8) (hdg : decode cc pc = .ok (.invokevirtual idx, 3)) (hf : cells + mc ≤ R.cells ∧ slots + ms ≤ R.slots)
    (kk : ∀ (H1 : Heap) (locs1 : List Loc), lS D A s cI cL o ad u o2 v2 q f H1 locs1 → W p l e R s m args below meth c H1 locs1 (cells + mc) (slots + ms) Q (F0 m (pc + 3) ls (.double val :: rest))) : W p l e R s m args below meth c H locs cells slots Q (F0 m pc ls st0) :=
  g_lawRd (P := fun r v' => r = val ∧ v' = v2) C X hM (fun r w' h => ⟨v2, ⟨h.1, rfl⟩, h.2⟩) hG hd hc0 hR hl hn hst hrest hdg hf (fun r v' H1 locs1 h X => by obtain ⟨rfl, rfl⟩ := h; exact kk H1 locs1 X)
theorem g_ll {rest : List Value} (C : gC p s m args meth c cc nL own D (lT cI cL) t A) (X : lS D A s cI cL o ad u o2 v q f H locs) (hdg : decode cc pc = .ok (.laload, 1)) (kk : W p l e R s m args below meth c H locs cells slots Q (F0 m (pc + 1) ls (.long (f 0) :: rest))) : W p l e R s m args below meth c H locs cells slots Q (F0 m pc ls (.int 0 :: .ref q :: rest)) :=
  va_lald (D := D) C.1 C.2.1 C.2.2.2.2.2.1 X.2.2.1 0 1 (cA := cL) (n := 1) (f := f) rfl rfl (vp_in_nI (n := 0) (N := 1) (by decide) (by decide)) hdg kk
end LAWE
theorem ld_eq {a : Int64} {b x y : Int32} (h1 : a = Int32.toInt64 x) (h2 : b = y) (h3 : x = y) : lg_cmp a (Int32.toInt64 b) = 0 := by
  rw [h1, h2, h3]
  exact ld_cmp _
theorem ld_eqL {a b : Int64} (h : a = b) : lg_cmp a b = 0 := by
  rw [h]
  exact ld_cmp _

