/-! the rest in another order -/
theorem sS.re {D : va_G} {A : Nat → Prop} {s : State} {cI cR : ClassId} {o : Nat} {z : SA} {u : S0} {X Y : va_W} {H : Heap} {locs : List Loc} (h : sS D A s cI cR o z u X H locs) (hm : ∀ q ∈ Y, q ∈ X) (hc : ∀ a : Nat, (Y.map Prod.fst).count a ≤ (X.map Prod.fst).count a) : sS D A s cI cR o z u Y H locs := by
  obtain ⟨hP, hD, hS⟩ := h
  have hm2 : ∀ q ∈ rs_w cI cR o z u ++ Y, q ∈ rs_w cI cR o z u ++ X := fun q hq => by
    rcases List.mem_append.mp hq with h | h
    · exact List.mem_append_left _ h
    · exact List.mem_append_right _ (hm q h)
  refine ⟨rp_mem hP hm2, rd_cnt hD (fun q hq => ⟨q, hm2 q hq, rfl⟩) (fun a => ?_), hS⟩
  rw [List.map_append, List.map_append, List.count_append, List.count_append]
  have := hc a
  omega
theorem hw_p0 {cI cB : ClassId} {h n : Nat} {r : Nat → Nat} {g : Nat → Nat → Int32} {k : Nat} (hk : k < n) : (hw_w cI cB h n r g)[1 + k]? = some (hw_e cI r g k) := by
  have := hw_p (Y := []) (cI := cI) (cB := cB) (h := h) (r := r) (g := g) hk
  rwa [List.append_nil] at this
section GTD
variable {p : Program} {l : Launch} {e : Env} {R : Room} {s : State} {m : MethodId} {args : Array Value} {below : List Frame} {meth : Method} {c : Code} {H : Heap} {locs : List Loc} {cells slots : Nat} {pc : Nat} {ls : Array Slot}
theorem g_topd {x y : UInt64} {rest : List Value} {Q : State → Prop} (h : x = y) (k : W p l e R s m args below meth c H locs cells slots Q (F0 m pc ls (.double y :: rest))) : W p l e R s m args below meth c H locs cells slots Q (F0 m pc ls (.double x :: rest)) := h ▸ k
theorem m_cd {cc : ByteArray} {nL : Nat} {own : String} {D : va_G} {ty : List (ClassId × FieldType)} {t : Nat → Nat} {A : Nat → Prop} {wa wb wd : va_W} {rest st0 : List Value} {mc ms : Nat} {av : Array Value} {Q : State → Prop} {post : UInt64 → va_W → Prop} {cells' slots' : Nat} (hc : cells + mc = cells') (hs : slots + ms = slots') (C : gC p s m args meth c cc nL own D ty t A) (hP : va_P D vwCl (wa ++ (wb ++ wd)) H) (hD : va_D A (wa ++ (wb ++ wd))) (hS : va_S A s.heap H locs)
    (hr : va_P D vwCl wb H → va_D A ((wd ++ wa) ++ wb) → va_Run p l e R s m args below meth c H locs cells slots mc ms (F0 m pc ls st0) rest (va_Qd post (fun w' U => gQ D (va_A wb H.size) w' U) (va_A wb H.size) av) (va_A wb H.size))
    (kk : ∀ (r : UInt64) (w' : va_W) (H1 : Heap) (locs1 : List Loc), post r w' → H.size ≤ H1.size → va_P D vwCl (wa ++ (w' ++ wd)) H1 → va_D A (wa ++ (w' ++ wd)) → va_S A s.heap H1 locs1 → W p l e R s m args below meth c H1 locs1 cells' slots' Q (F0 m (pc + 3) ls (.double r :: rest))) : W p l e R s m args below meth c H locs cells slots Q (F0 m pc ls st0) :=
  g_cd (wr := wd ++ wa) hc hs C (va_P.app (rp_right (rp_right hP)) (rp_left hP)) (md_in hD) hS (hr (rp_left (rp_right hP)) (md_in hD)) (fun r w' H1 locs1 hv hz h1 h2 h3 h4 => kk r w' H1 locs1 hv hz (md_P h1 h2) (md_out h3) h4)
end GTD
theorem is_4 (a b c : Int32) : rf_sm (fun k => (fun k => if k = 0 then a else if k = 1 then b else c) k * rt_RX0_COIN_WORTH k) 3 = 4 * (30 * a + 12 * b + c) := by
  show ((0 + a * 120) + b * 48) + c * 4 = _
  grind
theorem is_c4 {u : S0} : rf_sm (fun k => u.1 8 k * rt_RX0_COIN_WORTH k) 3 = 4 * (30 * u.1 8 0 + 12 * u.1 8 1 + u.1 8 2) := is_4 (u.1 8 0) (u.1 8 1) (u.1 8 2)
theorem is_m0 {u : S0} (hn : u.2.1 = 0) (op : CmpOp) : Op.cmpValue (FP.dcmp (rf_mn u) FP.dconst0) op = 0 := by
  have e : rf_mn u = FP.dconst0 := if_pos hn
  rw [e]
  cases op <;> decide +kernel
theorem is_m1 {u : S0} (h8 : u.2.1 ≤ 8) (hn : ¬ u.2.1 = 0) (op : CmpOp) : Op.cmpValue (FP.dcmp (rf_mn u) (FP.ddiv (FP.i2d (rf_sm (rf_ww u 7) u.2.1)) (FP.i2d (nI u.2.1)))) op = 0 := by
  have e : rf_mn u = FP.ddiv (FP.i2d (rf_sm (rf_ww u 7) u.2.1)) (FP.i2d (nI u.2.1)) := if_neg hn
  rw [e]
  exact mn_cmp _ (nI_ne0 (by omega) (by omega)) op
