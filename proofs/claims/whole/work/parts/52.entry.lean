/-! the law: its entry, its script -/
theorem arr_prim {args : Array Value} {s : State} {ty : FieldType} (h : (Cond.arrayClass ty).before args s = true) : ∃ cA : ClassId, ArrOfT s cA ty ∧ s.vm.findClass ("[" ++ ty.toString) = some cA := by
  obtain ⟨c, k, comp, h1, h2, h3⟩ := Cond.arrayClass_spec h
  exact ⟨c, fun n z => ⟨fun k h => (by cases h), k, h2, comp, h3⟩, h1⟩
theorem arr_obj {s : State} {n : String} (h : va_AO n s) : ∃ cA : ClassId, ArrOfT s cA (.object n) ∧ va_RA s cA (.object n) := by
  obtain ⟨comp, c, k, f1, -, f2, f3, f4⟩ := Cond.arrayOver_spec h
  exact ⟨c, fun N z => ⟨fun k h => (by cases h), k, f2, comp, f3⟩, k, comp, f2, f3, f1, f4⟩
theorem KK_start {args : Array Value} {s : State} (l : Launch) (hts : ∀ w ∈ lw_tbl, w.before args s = true) : ∃ G : TG, gl G = l ∧ KK G s := by
  have h0 : ∀ w ∈ W0, w.before args s = true := fun w hw => hts w (W0_in hw)
  obtain ⟨c0, i0, k0⟩ := u_known (n := 9) h0 inX0 (h0 _ kw1_26)
  obtain ⟨c1, i1, k1⟩ := u_known (n := 9) h0 inX1 (h0 _ kw1_141)
  obtain ⟨c2, i2, k2⟩ := u_known (n := 2) h0 inX2 (h0 _ kw1_66)
  obtain ⟨c3, i3, k3⟩ := u_known (n := 6) h0 inX3 (h0 _ kw2_55)
  obtain ⟨c4, i4, k4⟩ := u_known (n := 18) h0 inX4 (h0 _ kw1_12)
  obtain ⟨c5, i5, k5⟩ := u_known (n := 33) h0 inX5 (h0 _ kw3_20)
  have o0 : va_AO "CodeQuiz$Program" s := va_AO.of (hts _ ao_0)
  have o1 : va_AO "CodeQuiz$Question" s := va_AO.of (hts _ ao_1)
  have o2 : va_AO "CodeQuiz$Pupil" s := va_AO.of (hts _ ao_2)
  obtain ⟨a0, p0, q0⟩ := arr_prim (h0 _ kw1_64)
  obtain ⟨a1, p1, q1⟩ := arr_prim (h0 _ kw1_65)
  obtain ⟨a2, p2, q2⟩ := arr_prim (h0 _ kw3_125)
  obtain ⟨a3, p3, q3⟩ := arr_obj o0
  obtain ⟨a4, p4, q4⟩ := arr_obj o1
  obtain ⟨a5, p5, q5⟩ := arr_obj o2
  refine ⟨(l, (fun k => [c0, c1, c2, c3, c4, c5].getD k c0, fun k => [i0, i1, i2, i3, i4, i5].getD k i0), fun k => [a0, a1, a2, a3, a4, a5].getD k a0), rfl, ⟨fun k q hq => ?_, fun k q hq => ?_⟩, fun w hw => va_Nw.of (nest_on (nestL_is w hw)) (hts w (nestL_in w hw)), o0, o1, o2⟩
  · match k, hq with
    | 0, hq => cases hq; exact k0
    | 1, hq => cases hq; exact k1
    | 2, hq => cases hq; exact k2
    | 3, hq => cases hq; exact k3
    | 4, hq => cases hq; exact k4
    | 5, hq => cases hq; exact k5
    | k + 6, hq => simp [vwCl] at hq
  · match k, hq with
    | 0, hq => cases hq; exact ⟨p0, q0⟩
    | 1, hq => cases hq; exact ⟨p1, q1⟩
    | 2, hq => cases hq; exact ⟨p2, q2⟩
    | 3, hq => cases hq; exact ⟨p3, q3⟩
    | 4, hq => cases hq; exact ⟨p4, q4⟩
    | 5, hq => cases hq; exact ⟨p5, q5⟩
    | k + 6, hq => simp [tysOf] at hq
section VS
variable {G : TG} {X : TX} {cc : ByteArray} {own : String} {nL : Nat} {ret : Option FieldType} {R : Room} {Q : State → Prop} {cells slots pc : Nat} {lv : Nat → Option Value} {st : List Value} {ws : va_W}
theorem v_sld (C : OK G X cc own nL ret) {b L : Nat} {sc : Nat → Int32} (hX : va_X b L sc (xs X) (xs X).heap) (hbl : b < (xs X).heap.size) (hbA : ¬ (xA X) b) (hL : L < 2 ^ 31) {i : Nat} (hin : i < L) (hd : decode cc pc = .ok (.iaload, 1)) (kk : V G X cc nL R Q cells slots (pc + 1) lv (.int (sc i) :: st) ws) : V G X cc nL R Q cells slots pc lv (.int (nI i) :: .ref b :: st) ws := fun H locs ls hl hP hD hS => va_sld C.1 C.2.1 hX hbl hbA hS (vp_in_nI hin hL) hd (by rw [nI_clamp (Nat.lt_trans hin hL)]; exact kk H locs ls hl hP hD hS)
theorem v_slen (C : OK G X cc own nL ret) {b L : Nat} {sc : Nat → Int32} (hX : va_X b L sc (xs X) (xs X).heap) (hbl : b < (xs X).heap.size) (hbA : ¬ (xA X) b) (hd : decode cc pc = .ok (.arraylength, 1)) (kk : V G X cc nL R Q cells slots (pc + 1) lv (.int (nI L) :: st) ws) : V G X cc nL R Q cells slots pc lv (.ref b :: st) ws := fun H locs ls hl hP hD hS => va_slen C.1 C.2.1 hX hbl hbA hS hd (kk H locs ls hl hP hD hS)
end VS
theorem lw_gt {k L : Nat} (hL : L ≤ 2560) (hk : 5 * k ≤ 2560) (h : ¬ nI L - 5 < nI (5 * k)) : 5 * k + 5 ≤ L := by
  rw [Int32.lt_iff_toInt_lt, nI_toInt (by omega)] at h
  have e : (nI L - 5).toInt = (L : Int) - 5 := pk_sub_toInt (a := L) (b := 5) (by omega) (by decide)
  rw [e] at h
  omega
theorem lw_5 (k : Nat) : nI (5 * k) + Int32.ofInt 5 = nI (5 * (k + 1)) := by
  rw [show Int32.ofInt 5 = nI 5 from rfl, nI_add, Nat.mul_succ]
