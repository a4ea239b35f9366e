theorem hw_q {cI cB : ClassId} {h n : Nat} {r : Nat → Nat} {g : Nat → Nat → Int32} {q : Nat × va_E} {Y : va_W} : (hw_w cI cB h n r g ++ (q :: Y))[1 + n]? = some q := by
  have hl : (hw_w cI cB h n r g).length = 1 + n := by
    show ((h, _) :: fam n (hw_e cI r g)).length = _
    rw [List.length_cons, fam_len]
    omega
  rw [List.getElem?_append_right (by omega), hl, Nat.sub_self]
  rfl
theorem i32_d (a w : Int32) (j : Nat) : a + nI j * w + w = a + nI (j + 1) * w := by
  rw [nI_succ]
  grind
theorem i32_e (a : Int32) (j : Nat) : a - nI j - 1 = a - nI (j + 1) := by
  rw [nI_succ]
  grind
theorem i32_f (a w : Int32) (j : Nat) : a - nI j * w - w = a - nI (j + 1) * w := by
  rw [nI_succ]
  grind
section PW
variable {L p w : Int32} {M j : Nat}
theorem pw_f (hL : 0 ≤ L.toInt) (hp : 0 ≤ p.toInt) (hw : 4 ≤ w.toInt ∧ w.toInt ≤ 120) (hM : (M : Int) = min (L.toInt / w.toInt) p.toInt) (hj : j ≤ M) : (L - nI j * w).toInt = L.toInt - j * w.toInt ∧ (p - nI j).toInt = p.toInt - j ∧ (j : Int) * w.toInt ≤ L.toInt := by
  have rL := tI_rng L
  have rp := tI_rng p
  have d1 : L.toInt / w.toInt ≤ L.toInt := Int.ediv_le_self _ hL
  have hj' : (j : Int) ≤ L.toInt / w.toInt := by omega
  have e1 : (nI j).toInt = j := tI_nI (by omega)
  have h1 : (j : Int) * w.toInt ≤ L.toInt / w.toInt * w.toInt := Int.mul_le_mul_of_nonneg_right hj' (by omega)
  have h2 := mul_div_le hL (show 0 < w.toInt by omega)
  have h3 : 0 ≤ (j : Int) * w.toInt := Int.mul_nonneg (by omega) (by omega)
  have e2 : (nI j * w).toInt = j * w.toInt := by rw [tI_mul (by rw [e1]; omega) (by rw [e1]; omega), e1]
  refine ⟨?_, ?_, by omega⟩
  · rw [tI_sub (by rw [e2]; omega) (by rw [e2]; omega), e2]
  · rw [tI_sub (by rw [e1]; omega) (by rw [e1]; omega), e1]
theorem pw_go (hL : 0 ≤ L.toInt) (hp : 0 ≤ p.toInt) (hw : 4 ≤ w.toInt ∧ w.toInt ≤ 120) (hM : (M : Int) = min (L.toInt / w.toInt) p.toInt) (hj : j < M) : ¬ (L - nI j * w < w) ∧ ¬ (p - nI j ≤ 0) := by
  obtain ⟨a1, a2, a3⟩ := pw_f hL hp hw hM (Nat.le_of_lt hj)
  obtain ⟨b1, b2, b3⟩ := pw_f hL hp hw hM (show j + 1 ≤ M from hj)
  rw [show ((j + 1 : Nat) : Int) = (j : Int) + 1 by omega, Int.add_mul, Int.one_mul] at b3
  rw [tI_lt, tI_le, a1, a2]
  show ¬ _ ∧ ¬ p.toInt - j ≤ 0
  omega
theorem pw_st (hL : 0 ≤ L.toInt) (hp : 0 ≤ p.toInt) (hw : 4 ≤ w.toInt ∧ w.toInt ≤ 120) (hM : (M : Int) = min (L.toInt / w.toInt) p.toInt) (hj : j = M) : L - nI j * w < w ∨ p - nI j ≤ 0 := by
  subst hj
  obtain ⟨a1, a2, a3⟩ := pw_f hL hp hw hM (Nat.le_refl j)
  rw [tI_lt, tI_le, a1, a2]
  show _ ∨ p.toInt - j ≤ 0
  by_cases h : (j : Int) = p.toInt
  · omega
  · left
    have e : (j : Int) = L.toInt / w.toInt := by omega
    have := Int.lt_ediv_add_one_mul_self L.toInt (show 0 < w.toInt by omega)
    rw [← e, Int.add_mul, Int.one_mul] at this
    omega
end PW
set_option maxHeartbeats 4000000 in
set_option maxRecDepth 100000 in
theorem lpX2_payw {p : Program} {l : Launch} {e : Env} {s : State} {m : MethodId} {args : Array Value} {below : List Frame} {meth : Method} {c : Code} {Q : State → Prop} {D : va_G} {t : Nat → Nat} {A : Nat → Prop} {cI cR cB : ClassId} {o : Nat} {z : SA} {u : S0} {y : S0} {L S9 its : Int32} {ci rr h wq M : Nat} {r : Nat → Nat} {g : Nat → Nat → Int32} {wf : Nat → Int32} {kc nc KC NC FF LL : Nat} (C : gC p s m args meth c cX2_pay 8 RX2 D (ty3 cI cR cB) t A) (hz : z.2.2 = some h) (hu8 : y.2.1 ≤ 8) (hrr : rr < y.2.1) (hci : ci < 3) (hw : 4 ≤ (wf ci).toInt ∧ (wf ci).toInt ≤ 120) (hL : 0 ≤ L.toInt) (hp : 0 ≤ (y.1 8 ci).toInt) (hM : (M : Int) = min (L.toInt / (wf ci).toInt) (y.1 8 ci).toInt) (kk : ∀ (H : Heap) (locs : List Loc) (ls : Array Slot), sS D A s cI cR o z (sw y rr ci (y.1 8 ci - nI M) (y.1 6 rr + nI M * wf ci)) (hw_w cI cB h y.2.1 r (gw g rr ci (nI M)) ++ [(wq, .inl (cI, 3, .inl wf))]) H locs → lv_has ls 8 [(0, .ref o), (1, .int (S9 + nI M * wf ci)), (2, .int (nI rr)), (3, .ref (z.2.1 rr)), (4, .int its), (5, .int (L - nI M * wf ci)), (6, .ref wq), (7, .int (nI ci))] → W p l e (rm_ FF KC NC LL) s m args below meth c H locs kc nc Q (F0 m 177 ls [])) :
    ∀ (n i : Nat), i + n = M → ∀ (H : Heap) (locs : List Loc) (ls : Array Slot), sS D A s cI cR o z (sw y rr ci (y.1 8 ci - nI i) (y.1 6 rr + nI i * wf ci)) (hw_w cI cB h y.2.1 r (gw g rr ci (nI i)) ++ [(wq, .inl (cI, 3, .inl wf))]) H locs → lv_has ls 8 [(0, .ref o), (1, .int (S9 + nI i * wf ci)), (2, .int (nI rr)), (3, .ref (z.2.1 rr)), (4, .int its), (5, .int (L - nI i * wf ci)), (6, .ref wq), (7, .int (nI ci))] → W p l e (rm_ FF KC NC LL) s m args below meth c H locs kc nc Q (F0 m 98 ls []) := by
  have hx := C.1
  have hb := C.2.1
  have hown := C.2.2.2.1
  have hts := C.2.2.2.2.1
  intro n
  induction n with
  | zero =>
    intro i hi H locs ls S hl
    have hiN : i = M := by omega
    refine lv_iload hx hb dX2_pay_98 (lv_at hl 5 rfl) ?_
    refine lv_aload hx hb dX2_pay_100 (lv_at hl 6 rfl) ?_
    refine lv_iload hx hb dX2_pay_102 (lv_at hl 7 rfl) ?_
    refine x_ld C S (1 + y.2.1) (n := 3) (f := wf) (i := ci) hw_q (by omega) hci rfl dX2_pay_104 ?_
    refine lv_icmp_lt (tgt := 177) hx hb dX2_pay_105 (by decide) (fun c1 => ?_) (fun c1 => ?_)
    · rw [hiN] at S hl
      exact kk _ _ _ S (lv_sub hl [0, 1, 2, 3, 4, 5, 6, 7] rfl)
    · refine lv_aload_n hx hb dX2_pay_108 rfl (lv_at hl 0 rfl) ?_
      refine s_gf C S 2 (by decide) (v := .ref (z.1 1)) rfl rfl q34 dX2_pay_109 ?_
      refine lv_iload hx hb dX2_pay_112 (lv_at hl 7 rfl) ?_
      refine s_l8 C S (i := ci) hci rfl dX2_pay_114 ?_
      refine g_top (y := y.1 8 ci - nI i) sw_8 ?_
      refine lv_if_le (tgt := 177) hx hb dX2_pay_115 (by decide) (fun c2 => ?_) (fun c2 => absurd ((pw_st hL hp hw hM hiN).resolve_left c1) c2)
      rw [hiN] at S hl
      exact kk _ _ _ S (lv_sub hl [0, 1, 2, 3, 4, 5, 6, 7] rfl)
  | succ n ih =>
    intro i hi H locs ls S hl
    have hin : i < M := by omega
    refine lv_iload hx hb dX2_pay_98 (lv_at hl 5 rfl) ?_
    refine lv_aload hx hb dX2_pay_100 (lv_at hl 6 rfl) ?_
    refine lv_iload hx hb dX2_pay_102 (lv_at hl 7 rfl) ?_
    refine x_ld C S (1 + y.2.1) (n := 3) (f := wf) (i := ci) hw_q (by omega) hci rfl dX2_pay_104 ?_
    refine lv_icmp_lt (tgt := 177) hx hb dX2_pay_105 (by decide) (fun c1 => absurd c1 (fun h9 => (pw_go hL hp hw hM hin).1 h9)) (fun c1 => ?_)
    refine lv_aload_n hx hb dX2_pay_108 rfl (lv_at hl 0 rfl) ?_
    refine s_gf C S 2 (by decide) (v := .ref (z.1 1)) rfl rfl q34 dX2_pay_109 ?_
    refine lv_iload hx hb dX2_pay_112 (lv_at hl 7 rfl) ?_
    refine s_l8 C S (i := ci) hci rfl dX2_pay_114 ?_
    refine g_top (y := y.1 8 ci - nI i) sw_8 ?_
    refine lv_if_le (tgt := 177) hx hb dX2_pay_115 (by decide) (fun c2 => absurd c2 (fun h9 => (pw_go hL hp hw hM hin).2 h9)) (fun c2 => ?_)
    refine lv_iload hx hb dX2_pay_118 (lv_at hl 5 rfl) ?_
    refine lv_aload hx hb dX2_pay_120 (lv_at hl 6 rfl) ?_
    refine lv_iload hx hb dX2_pay_122 (lv_at hl 7 rfl) ?_
    refine x_ld C S (1 + y.2.1) (n := 3) (f := wf) (i := ci) hw_q (by omega) hci rfl dX2_pay_124 ?_
    refine lv_isub hx hb dX2_pay_125 ?_
    refine lv_istore (lv' := [(5, .int ((L - nI i * wf ci) - (wf ci))), (0, .ref o), (1, .int (S9 + nI i * wf ci)), (2, .int (nI rr)), (3, .ref (z.2.1 rr)), (4, .int its), (6, .ref wq), (7, .int (nI ci))]) hx hb dX2_pay_126 hl (by decide) rfl (fun ls hl => ?_)
    refine lv_aload_n hx hb dX2_pay_128 rfl (lv_at hl 1 rfl) ?_
    refine s_gf C S 2 (by decide) (v := .ref (z.1 1)) rfl rfl q34 dX2_pay_129 ?_
    refine lv_iload hx hb dX2_pay_132 (lv_at hl 7 rfl) ?_
    refine lv_dup2_11 hx hb dX2_pay_134 rfl rfl ?_
    refine s_l8 C S (i := ci) hci rfl dX2_pay_135 ?_
    refine g_top (y := y.1 8 ci - nI i) sw_8 ?_
    refine lv_iconst (v := 1) hx hb dX2_pay_136 (by decide) ?_
    refine lv_isub hx hb dX2_pay_137 ?_
    refine s_t8 C S (i := ci) hci rfl dX2_pay_138 (fun H locs S => ?_)
    rw [sw_1] at S
    refine lv_aload_n hx hb dX2_pay_139 rfl (lv_at hl 1 rfl) ?_
    refine s_gf C S 4 (by decide) (v := .ref h) (congrArg (fun q => some (va_rf q)) hz) rfl q160 dX2_pay_140 ?_
    refine lv_iload_n hx hb dX2_pay_143 rfl (lv_at hl 3 rfl) ?_
    refine x_al C S 0 (n := y.2.1) (f := fun k => some (r k)) (i := rr) rfl (by omega) hrr rfl dX2_pay_144 ?_
    refine lv_iload hx hb dX2_pay_145 (lv_at hl 7 rfl) ?_
    refine lv_dup2_11 hx hb dX2_pay_147 rfl rfl ?_
    refine x_ld C S (1 + rr) (n := 3) (f := gw g rr ci (nI i) rr) (i := ci) (hw_p hrr) (by omega) hci rfl dX2_pay_148 ?_
    refine g_top (y := nI i) gw_s ?_
    refine lv_iconst (v := 1) hx hb dX2_pay_149 (by decide) ?_
    refine lv_iadd hx hb dX2_pay_150 ?_
    refine x_st C S (1 + rr) (n := 3) (f := gw g rr ci (nI i) rr) (i := ci) (hw_p hrr) (by omega) hci rfl dX2_pay_151 (fun H locs S => ?_)
    rw [hw_s hrr, gw_1] at S
    refine lv_aload_n hx hb dX2_pay_152 rfl (lv_at hl 4 rfl) ?_
    refine lv_dup hx hb dX2_pay_153 rfl ?_
    refine r_gf C S 6 rr (by decide) hrr (v := .int ((sw y rr ci (y.1 8 ci - nI i - 1) (y.1 6 rr + nI i * wf ci)).1 6 rr)) rfl rfl q163 dX2_pay_154 ?_
    refine g_top (y := y.1 6 rr + nI i * wf ci) sw_6 ?_
    refine lv_aload hx hb dX2_pay_157 (lv_at hl 6 rfl) ?_
    refine lv_iload hx hb dX2_pay_159 (lv_at hl 7 rfl) ?_
    refine x_ld C S (1 + y.2.1) (n := 3) (f := wf) (i := ci) hw_q (by omega) hci rfl dX2_pay_161 ?_
    refine lv_iadd hx hb dX2_pay_162 ?_
    refine r_pf C S 6 rr (by decide) hrr rfl rfl (by decide +kernel) q163 dX2_pay_163 (fun H locs S => ?_)
    rw [sw_2] at S
    refine lv_iload_n hx hb dX2_pay_166 rfl (lv_at hl 2 rfl) ?_
    refine lv_aload hx hb dX2_pay_167 (lv_at hl 6 rfl) ?_
    refine lv_iload hx hb dX2_pay_169 (lv_at hl 7 rfl) ?_
    refine x_ld C S (1 + y.2.1) (n := 3) (f := wf) (i := ci) hw_q (by omega) hci rfl dX2_pay_171 ?_
    refine lv_iadd hx hb dX2_pay_172 ?_
    refine lv_istore_n (lv' := [(1, .int ((S9 + nI i * wf ci) + (wf ci))), (5, .int ((L - nI i * wf ci) - (wf ci))), (0, .ref o), (2, .int (nI rr)), (3, .ref (z.2.1 rr)), (4, .int its), (6, .ref wq), (7, .int (nI ci))]) hx hb dX2_pay_173 rfl hl (by decide) rfl (fun ls hl => ?_)
    refine lv_goto (tgt := 98) hx hb dX2_pay_174 (by decide) ?_
    rw [i32_d, i32_e, nI_1] at S
    have hl : lv_has ls 8 [(1, .int (S9 + nI (i + 1) * wf ci)), (5, .int (L - nI (i + 1) * wf ci)), (0, .ref o), (2, .int (nI rr)), (3, .ref (z.2.1 rr)), (4, .int its), (6, .ref wq), (7, .int (nI ci))] := by rw [← i32_d, ← i32_f]; exact hl
    exact ih (i + 1) (by omega) _ _ _ S (lv_sub hl [2, 0, 3, 4, 5, 1, 6, 7] rfl)
