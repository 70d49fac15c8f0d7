/-! the reference: one line -/
theorem updL2 (f : Nat → Int64) (k : Nat) (x y : Int64) : vp_updL (vp_updL f k x) k y = vp_updL f k y := by
  funext j
  by_cases h : j = k <;> simp [vp_updL, h]
theorem pos1 {x : Int32} (h : 0 < x.toInt64) : 0 < x.toInt64 + 1 := by
  have e : x.toInt64.toInt = x.toInt := by simp
  have b1 := x.toInt_lt
  have b2 := x.le_toInt
  rw [Int64.lt_iff_toInt_lt] at h ⊢
  have z : (0 : Int64).toInt = 0 := rfl
  have o1 : (1 : Int64).toInt = 1 := rfl
  rw [Int64.toInt_add, z, o1, e]
  rw [z, e] at h
  rw [Int.bmod_eq_of_le (by omega) (by omega)]
  omega
/-- a run's state over the reference's -/
def putR (S : MS) (s : RS) : MS := sL (sA (sA (sA S 5 s.2.1) 6 s.2.2.1) 7 s.2.2.2.1) s.2.2.2.2
theorem putR5 (S : MS) (n : Nat) (f : Nat → Int32) : sA S 5 f = putR S (n, f, mA S 6, mA S 7, mL S) := by
  show _ = sL (sA (sA (sA S 5 f) 6 (mA (sA S 5 f) 6)) 7 (mA (sA S 5 f) 7)) (mL S)
  rw [sA_self, sA_self]; rfl
theorem putR6 (S : MS) (n : Nat) (f : Nat → Int32) : sA S 6 f = putR S (n, mA S 5, f, mA S 7, mL S) := by
  show _ = sL (sA (sA (sA S 5 (mA S 5)) 6 f) 7 (mA S 7)) (mL S)
  rw [sA_self]
  show _ = sL (sA (sA S 6 f) 7 (mA (sA S 6 f) 7)) (mL S)
  rw [sA_self]; rfl
theorem putR7 (S : MS) (n : Nat) (f : Nat → Int32) : sA S 7 f = putR S (n, mA S 5, mA S 6, f, mL S) := by
  show _ = sL (sA (sA (sA S 5 (mA S 5)) 6 (mA S 6)) 7 f) (mL S)
  rw [sA_self, sA_self]; rfl
theorem putR67 (S : MS) (n : Nat) (f g : Nat → Int32) : sA (sA S 6 f) 7 g = putR S (n, mA S 5, f, g, mL S) := by
  show _ = sL (sA (sA (sA S 5 (mA S 5)) 6 f) 7 g) (mL S)
  rw [sA_self]; rfl
theorem putRL (S : MS) (n : Nat) (f : Nat → Int64) : sL S f = putR S (n, mA S 5, mA S 6, mA S 7, f) := by
  show _ = sL (sA (sA (sA S 5 (mA S 5)) 6 (mA S 6)) 7 (mA S 7)) f
  rw [sA_self, sA_self, sA_self]
theorem putR0 (S : MS) (n : Nat) : S = putR S (n, mA S 5, mA S 6, mA S 7, mL S) := (putRL S n (mL S)).symm ▸ rfl
section ST
variable {O X Y : Nat → Int32} {mk : Int32} {s : RS}
theorem st_0 (h : O s.1 = 0) : stS O X Y mk s = ((s.1 + 1, upd s.2.1 (tn (X s.1)) (Y s.1), s.2.2.1, s.2.2.2.1, s.2.2.2.2)) := by
  unfold stS
  rw [if_pos h]
theorem st_1 (h : O s.1 = 1) : stS O X Y mk s = ((s.1 + 1, (if mk &&& 4 = 0 then upd s.2.1 (tn (X s.1)) (s.2.1 (tn (Y s.1))) else upd s.2.1 (tn (Y s.1)) (s.2.1 (tn (X s.1)))), s.2.2.1, s.2.2.2.1, s.2.2.2.2)) := by
  unfold stS
  rw [if_neg (by rw [h]; decide), if_pos h]
theorem st_2 (h : O s.1 = 2) : stS O X Y mk s = ((s.1 + 1, upd s.2.1 (tn (X s.1)) (s.2.1 (tn (X s.1)) + s.2.1 (tn (Y s.1))), s.2.2.1, s.2.2.2.1, s.2.2.2.2)) := by
  unfold stS
  rw [if_neg (by rw [h]; decide), if_neg (by rw [h]; decide), if_pos h]
theorem st_3 (h : O s.1 = 3) : stS O X Y mk s = ((s.1 + 1, upd s.2.1 (tn (X s.1)) (if mk &&& 16 = 0 then s.2.1 (tn (X s.1)) - s.2.1 (tn (Y s.1)) else s.2.1 (tn (Y s.1)) - s.2.1 (tn (X s.1))), s.2.2.1, s.2.2.2.1, s.2.2.2.2)) := by
  unfold stS
  rw [if_neg (by rw [h]; decide), if_neg (by rw [h]; decide), if_neg (by rw [h]; decide), if_pos h]
theorem st_4 (h : O s.1 = 4) : stS O X Y mk s = (((if 0 < (s.2.1 (tn (X s.1))).toInt64 then s.1 + 1 else mtf O s.1 + 1), s.2.1, s.2.2.1, s.2.2.2.1, vp_updL s.2.2.2.2 s.1 ((s.2.1 (tn (X s.1))).toInt64 + (if 0 < (s.2.1 (tn (X s.1))).toInt64 ∧ ¬ mk &&& 2 = 0 then 1 else 0)))) := by
  unfold stS
  rw [if_neg (by rw [h]; decide), if_neg (by rw [h]; decide), if_neg (by rw [h]; decide), if_neg (by rw [h]; decide), if_pos h]
theorem st_5 (h : O s.1 = 5) : stS O X Y mk s = (((if s.2.1 (tn (X s.1)) < s.2.1 (tn (Y s.1)) ∨ (¬ mk &&& 8 = 0 ∧ s.2.1 (tn (X s.1)) = s.2.1 (tn (Y s.1))) then s.1 + 1 else mtf O s.1 + 1), s.2.1, s.2.2.1, s.2.2.2.1, s.2.2.2.2)) := by
  unfold stS
  rw [if_neg (by rw [h]; decide), if_neg (by rw [h]; decide), if_neg (by rw [h]; decide), if_neg (by rw [h]; decide), if_neg (by rw [h]; decide), if_pos h]
theorem st_6 (h : O s.1 = 6) : stS O X Y mk s = ((if O (mtf O s.1) = 5 then (s.1 + 1, s.2.1, s.2.2.1, s.2.2.2.1, s.2.2.2.2) else ((if 0 < s.2.2.2.2 (mtf O s.1) - 1 then mtf O s.1 + 1 else s.1 + 1), s.2.1, s.2.2.1, s.2.2.2.1, vp_updL s.2.2.2.2 (mtf O s.1) (s.2.2.2.2 (mtf O s.1) - 1)))) := by
  unfold stS
  rw [if_neg (by rw [h]; decide), if_neg (by rw [h]; decide), if_neg (by rw [h]; decide), if_neg (by rw [h]; decide), if_neg (by rw [h]; decide), if_neg (by rw [h]; decide), if_pos h]
theorem st_7 (h : O s.1 = 7) : stS O X Y mk s = ((s.1 + 1, s.2.1, upd s.2.2.1 (4 * tn (s.2.2.2.1 (tn (X s.1) / 4)) + tn (s.2.1 (tn (X s.1) % 4) &&& 3)) (s.2.1 (tn (Y s.1))), s.2.2.2.1, s.2.2.2.2)) := by
  unfold stS
  rw [if_neg (by rw [h]; decide), if_neg (by rw [h]; decide), if_neg (by rw [h]; decide), if_neg (by rw [h]; decide), if_neg (by rw [h]; decide), if_neg (by rw [h]; decide), if_neg (by rw [h]; decide), if_pos h]
theorem st_8 (h : O s.1 = 8) : stS O X Y mk s = ((s.1 + 1, upd s.2.1 (tn (X s.1)) (s.2.2.1 (4 * tn (s.2.2.2.1 (tn (Y s.1) / 4)) + tn ((s.2.1 (tn (Y s.1) % 4) + (if mk &&& 32 = 0 then 0 else 1)) &&& 3))), s.2.2.1, s.2.2.2.1, s.2.2.2.2)) := by
  unfold stS
  rw [if_neg (by rw [h]; decide), if_neg (by rw [h]; decide), if_neg (by rw [h]; decide), if_neg (by rw [h]; decide), if_neg (by rw [h]; decide), if_neg (by rw [h]; decide), if_neg (by rw [h]; decide), if_neg (by rw [h]; decide), if_pos h]
theorem st_9 (h : O s.1 = 9) : stS O X Y mk s = (if mk &&& 1 = 0 then (s.1 + 1, s.2.1, s.2.2.1, upd s.2.2.2.1 (tn (X s.1)) (s.2.2.2.1 (tn (Y s.1))), s.2.2.2.2) else (s.1 + 1, s.2.1, cpk s.2.2.1 (tn (s.2.2.2.1 (tn (Y s.1)))) (if s.2.2.2.1 0 = s.2.2.2.1 1 then 1 - tn (s.2.2.2.1 (tn (Y s.1))) else tn (s.2.2.2.1 (tn (X s.1)))) 4, upd s.2.2.2.1 (tn (X s.1)) (nI (if s.2.2.2.1 0 = s.2.2.2.1 1 then 1 - tn (s.2.2.2.1 (tn (Y s.1))) else tn (s.2.2.2.1 (tn (X s.1))))), s.2.2.2.2)) := by
  unfold stS
  rw [if_neg (by rw [h]; decide), if_neg (by rw [h]; decide), if_neg (by rw [h]; decide), if_neg (by rw [h]; decide), if_neg (by rw [h]; decide), if_neg (by rw [h]; decide), if_neg (by rw [h]; decide), if_neg (by rw [h]; decide), if_neg (by rw [h]; decide)]
end ST
def rmX5_doLine : Room := { frames := 2, cells := 0, slots := 0, locals := 48 }
set_option maxHeartbeats 4000000 in
set_option maxRecDepth 100000 in
theorem kX5_doLine_0 (G : TG) (o : Nat) (a : Nat → Nat) (S : MS) (p l : Nat) (mk : Int32) (hp : p < 10) (hl : l < 20) (x : Nat) (ho : mA S 0 (20 * p + l) = 0) (ex : mA S 1 (20 * p + l) = nI x) (hx : x < 4) (b : Int32) : CT G yX5_doLine cX5_doLine 8 (some .int) rmX5_doLine 0 0 [.ref (o), .int (nI (p)), .int (nI (l)), .int (mk), .int (b)] (MW G o a S) (fun S : MS => MW G o a S) (Ri (fun r S' => r = nI (l + 1) ∧ S' = sA S 5 (upd (mA S 5) x b))) := by
  refine CT.enter (by decide) (Nat.le_of_ble_eq_true rfl) (fun X C hnm => ?_)
  refine V.less [(0, .ref (o)), (1, .int (nI (p))), (2, .int (nI (l))), (3, .int (mk)), (4, .int (b))] ⟨rfl, rfl, rfl, rfl, rfl, trivial⟩ ?_
  refine v_aload_n (pc := 0) C dX5_doLine_0 rfl ?_
  refine v_get (pc := 1) (v := .ref (a 0)) C inX5 0 rfl rfl 0 (by decide) kw3_25 rfl dX5_doLine_1 ?_
  refine v_bipush (pc := 4) (v := 20) C dX5_doLine_4 (by decide) ?_
  refine v_iload_n (pc := 6) C dX5_doLine_6 rfl ?_
  refine v_imulN (pc := 7) C 20 (p) rfl rfl dX5_doLine_7 ?_
  refine v_iload_n (pc := 8) C dX5_doLine_8 rfl ?_
  refine v_iaddN (pc := 9) C (20 * (p)) (l) rfl rfl dX5_doLine_9 ?_
  refine v_ialdN (pc := 10) (i := ((20 * (p)) + (l))) (f := (mA S 0)) C 1 rfl (by omega) (by decide) dX5_doLine_10 ?_
  refine v_cv (y := (0 : Int32)) (ho) ?_
  refine v_istore (pc := 11) C dX5_doLine_11 (by decide) ?_
  refine v_aload_n (pc := 13) C dX5_doLine_13 rfl ?_
  refine v_get (pc := 14) (v := .ref (a 1)) C inX5 0 rfl rfl 1 (by decide) kw3_26 rfl dX5_doLine_14 ?_
  refine v_bipush (pc := 17) (v := 20) C dX5_doLine_17 (by decide) ?_
  refine v_iload_n (pc := 19) C dX5_doLine_19 rfl ?_
  refine v_imulN (pc := 20) C 20 (p) rfl rfl dX5_doLine_20 ?_
  refine v_iload_n (pc := 21) C dX5_doLine_21 rfl ?_
  refine v_iaddN (pc := 22) C (20 * (p)) (l) rfl rfl dX5_doLine_22 ?_
  refine v_ialdN (pc := 23) (i := ((20 * (p)) + (l))) (f := (mA S 1)) C 2 rfl (by omega) (by decide) dX5_doLine_23 ?_
  refine v_cv (y := (nI (x))) (ex) ?_
  refine v_istore (pc := 24) C dX5_doLine_24 (by decide) ?_
  refine v_iload (pc := 26) C dX5_doLine_26 rfl ?_
  refine v_tableIn (pc := 28) (tgt := 72) C dX5_doLine_28 (by decide) (by decide) rfl (by decide) ?_
  refine v_aload_n (pc := 72) C dX5_doLine_72 rfl ?_
  refine v_get (pc := 73) (v := .ref (a 5)) C inX5 0 rfl rfl 5 (by decide) kw3_30 rfl dX5_doLine_73 ?_
  refine v_iload (pc := 76) C dX5_doLine_76 rfl ?_
  refine v_iload (pc := 78) C dX5_doLine_78 rfl ?_
  refine v_iastN (pc := 80) (i := (x)) (f := (mA S 5)) C 5 rfl (by omega) (by decide) dX5_doLine_80 (ws' := (MW G o a (sA S 5 (upd ((mA S 5)) (x) (b))))) rfl ?_
  refine v_iload_n (pc := 81) C dX5_doLine_81 rfl ?_
  refine v_iconst (pc := 82) (v := 1) C dX5_doLine_82 (by decide) ?_
  refine v_iaddN (pc := 83) C (l) 1 rfl rfl dX5_doLine_83 ?_
  exact v_iret (pc := 84) C dX5_doLine_84 (rfl) ((sA S 5 (upd ((mA S 5)) (x) (b)))) rfl (⟨rfl, rfl⟩)
set_option maxHeartbeats 4000000 in
set_option maxRecDepth 100000 in
theorem kX5_doLine_1 (G : TG) (o : Nat) (a : Nat → Nat) (S : MS) (p l : Nat) (mk : Int32) (hp : p < 10) (hl : l < 20) (x : Nat) (ho : mA S 0 (20 * p + l) = 1) (ex : mA S 1 (20 * p + l) = nI x) (hx : x < 4) (y : Nat) (hy : y < 4) : CT G yX5_doLine cX5_doLine 8 (some .int) rmX5_doLine 0 0 [.ref (o), .int (nI (p)), .int (nI (l)), .int (mk), .int (nI (y))] (MW G o a S) (fun S : MS => MW G o a S) (Ri (fun r S' => r = nI (l + 1) ∧ S' = sA S 5 (if mk &&& 4 = 0 then upd (mA S 5) x (mA S 5 y) else upd (mA S 5) y (mA S 5 x)))) := by
  refine CT.enter (by decide) (Nat.le_of_ble_eq_true rfl) (fun X C hnm => ?_)
  refine V.less [(0, .ref (o)), (1, .int (nI (p))), (2, .int (nI (l))), (3, .int (mk)), (4, .int (nI (y)))] ⟨rfl, rfl, rfl, rfl, rfl, trivial⟩ ?_
  refine v_aload_n (pc := 0) C dX5_doLine_0 rfl ?_
  refine v_get (pc := 1) (v := .ref (a 0)) C inX5 0 rfl rfl 0 (by decide) kw3_25 rfl dX5_doLine_1 ?_
  refine v_bipush (pc := 4) (v := 20) C dX5_doLine_4 (by decide) ?_
  refine v_iload_n (pc := 6) C dX5_doLine_6 rfl ?_
  refine v_imulN (pc := 7) C 20 (p) rfl rfl dX5_doLine_7 ?_
  refine v_iload_n (pc := 8) C dX5_doLine_8 rfl ?_
  refine v_iaddN (pc := 9) C (20 * (p)) (l) rfl rfl dX5_doLine_9 ?_
  refine v_ialdN (pc := 10) (i := ((20 * (p)) + (l))) (f := (mA S 0)) C 1 rfl (by omega) (by decide) dX5_doLine_10 ?_
  refine v_cv (y := (1 : Int32)) (ho) ?_
  refine v_istore (pc := 11) C dX5_doLine_11 (by decide) ?_
  refine v_aload_n (pc := 13) C dX5_doLine_13 rfl ?_
  refine v_get (pc := 14) (v := .ref (a 1)) C inX5 0 rfl rfl 1 (by decide) kw3_26 rfl dX5_doLine_14 ?_
  refine v_bipush (pc := 17) (v := 20) C dX5_doLine_17 (by decide) ?_
  refine v_iload_n (pc := 19) C dX5_doLine_19 rfl ?_
  refine v_imulN (pc := 20) C 20 (p) rfl rfl dX5_doLine_20 ?_
  refine v_iload_n (pc := 21) C dX5_doLine_21 rfl ?_
  refine v_iaddN (pc := 22) C (20 * (p)) (l) rfl rfl dX5_doLine_22 ?_
  refine v_ialdN (pc := 23) (i := ((20 * (p)) + (l))) (f := (mA S 1)) C 2 rfl (by omega) (by decide) dX5_doLine_23 ?_
  refine v_cv (y := (nI (x))) (ex) ?_
  refine v_istore (pc := 24) C dX5_doLine_24 (by decide) ?_
  refine v_iload (pc := 26) C dX5_doLine_26 rfl ?_
  refine v_tableIn (pc := 28) (tgt := 85) C dX5_doLine_28 (by decide) (by decide) rfl (by decide) ?_
  refine v_iload_n (pc := 85) C dX5_doLine_85 rfl ?_
  refine v_iconst (pc := 86) (v := 4) C dX5_doLine_86 (by decide) ?_
  refine v_callS0 (pc := 87) (st := []) C (kX5_has G _ mk 4) ykX5_has kw3_174 kw3_173 dX5_doLine_87 rfl rfl rfl (by decide) (Nat.le_of_ble_eq_true rfl) (by decide) rfl (Ri_kk (fun r_87 u_87 h_87 => ?_))
  rcases (has01 h_87) with ⟨q_87, rfl⟩ | ⟨q_87, rfl⟩
  · refine v_if_eqT (pc := 90) (tgt := 110) C (by decide) dX5_doLine_90 (by decide) ?_
    refine v_aload_n (pc := 110) C dX5_doLine_110 rfl ?_
    refine v_get (pc := 111) (v := .ref (a 5)) C inX5 0 rfl rfl 5 (by decide) kw3_30 rfl dX5_doLine_111 ?_
    refine v_iload (pc := 114) C dX5_doLine_114 rfl ?_
    refine v_aload_n (pc := 116) C dX5_doLine_116 rfl ?_
    refine v_get (pc := 117) (v := .ref (a 5)) C inX5 0 rfl rfl 5 (by decide) kw3_30 rfl dX5_doLine_117 ?_
    refine v_iload (pc := 120) C dX5_doLine_120 rfl ?_
    refine v_ialdN (pc := 122) (i := (y)) (f := (mA S 5)) C 5 rfl (by omega) (by decide) dX5_doLine_122 ?_
    refine v_iastN (pc := 123) (i := (x)) (f := (mA S 5)) C 5 rfl (by omega) (by decide) dX5_doLine_123 (ws' := (MW G o a (sA S 5 (upd ((mA S 5)) (x) ((mA S 5) (y)))))) rfl ?_
    refine v_iload_n (pc := 124) C dX5_doLine_124 rfl ?_
    refine v_iconst (pc := 125) (v := 1) C dX5_doLine_125 (by decide) ?_
    refine v_iaddN (pc := 126) C (l) 1 rfl rfl dX5_doLine_126 ?_
    exact v_iret (pc := 127) C dX5_doLine_127 (rfl) ((sA S 5 (upd ((mA S 5)) (x) ((mA S 5) (y))))) rfl (⟨rfl, by rw [if_pos q_87]⟩)
  · refine v_if_eqF (pc := 90) (tgt := 110) C (by decide) dX5_doLine_90 (by decide) ?_
    refine v_aload_n (pc := 93) C dX5_doLine_93 rfl ?_
    refine v_get (pc := 94) (v := .ref (a 5)) C inX5 0 rfl rfl 5 (by decide) kw3_30 rfl dX5_doLine_94 ?_
    refine v_iload (pc := 97) C dX5_doLine_97 rfl ?_
    refine v_aload_n (pc := 99) C dX5_doLine_99 rfl ?_
    refine v_get (pc := 100) (v := .ref (a 5)) C inX5 0 rfl rfl 5 (by decide) kw3_30 rfl dX5_doLine_100 ?_
    refine v_iload (pc := 103) C dX5_doLine_103 rfl ?_
    refine v_ialdN (pc := 105) (i := (x)) (f := (mA S 5)) C 5 rfl (by omega) (by decide) dX5_doLine_105 ?_
    refine v_iastN (pc := 106) (i := (y)) (f := (mA S 5)) C 5 rfl (by omega) (by decide) dX5_doLine_106 (ws' := (MW G o a (sA S 5 (upd ((mA S 5)) (y) ((mA S 5) (x)))))) rfl ?_
    refine v_goto (pc := 107) (tgt := 124) C dX5_doLine_107 (by decide) ?_
    refine v_iload_n (pc := 124) C dX5_doLine_124 rfl ?_
    refine v_iconst (pc := 125) (v := 1) C dX5_doLine_125 (by decide) ?_
    refine v_iaddN (pc := 126) C (l) 1 rfl rfl dX5_doLine_126 ?_
    exact v_iret (pc := 127) C dX5_doLine_127 (rfl) ((sA S 5 (upd ((mA S 5)) (y) ((mA S 5) (x))))) rfl (⟨rfl, by rw [if_neg q_87]⟩)
set_option maxHeartbeats 4000000 in
set_option maxRecDepth 100000 in
theorem kX5_doLine_2 (G : TG) (o : Nat) (a : Nat → Nat) (S : MS) (p l : Nat) (mk : Int32) (hp : p < 10) (hl : l < 20) (x : Nat) (ho : mA S 0 (20 * p + l) = 2) (ex : mA S 1 (20 * p + l) = nI x) (hx : x < 4) (y : Nat) (hy : y < 4) : CT G yX5_doLine cX5_doLine 8 (some .int) rmX5_doLine 0 0 [.ref (o), .int (nI (p)), .int (nI (l)), .int (mk), .int (nI (y))] (MW G o a S) (fun S : MS => MW G o a S) (Ri (fun r S' => r = nI (l + 1) ∧ S' = sA S 5 (upd (mA S 5) x (mA S 5 x + mA S 5 y)))) := by
  refine CT.enter (by decide) (Nat.le_of_ble_eq_true rfl) (fun X C hnm => ?_)
  refine V.less [(0, .ref (o)), (1, .int (nI (p))), (2, .int (nI (l))), (3, .int (mk)), (4, .int (nI (y)))] ⟨rfl, rfl, rfl, rfl, rfl, trivial⟩ ?_
  refine v_aload_n (pc := 0) C dX5_doLine_0 rfl ?_
  refine v_get (pc := 1) (v := .ref (a 0)) C inX5 0 rfl rfl 0 (by decide) kw3_25 rfl dX5_doLine_1 ?_
  refine v_bipush (pc := 4) (v := 20) C dX5_doLine_4 (by decide) ?_
  refine v_iload_n (pc := 6) C dX5_doLine_6 rfl ?_
  refine v_imulN (pc := 7) C 20 (p) rfl rfl dX5_doLine_7 ?_
  refine v_iload_n (pc := 8) C dX5_doLine_8 rfl ?_
  refine v_iaddN (pc := 9) C (20 * (p)) (l) rfl rfl dX5_doLine_9 ?_
  refine v_ialdN (pc := 10) (i := ((20 * (p)) + (l))) (f := (mA S 0)) C 1 rfl (by omega) (by decide) dX5_doLine_10 ?_
  refine v_cv (y := (2 : Int32)) (ho) ?_
  refine v_istore (pc := 11) C dX5_doLine_11 (by decide) ?_
  refine v_aload_n (pc := 13) C dX5_doLine_13 rfl ?_
  refine v_get (pc := 14) (v := .ref (a 1)) C inX5 0 rfl rfl 1 (by decide) kw3_26 rfl dX5_doLine_14 ?_
  refine v_bipush (pc := 17) (v := 20) C dX5_doLine_17 (by decide) ?_
  refine v_iload_n (pc := 19) C dX5_doLine_19 rfl ?_
  refine v_imulN (pc := 20) C 20 (p) rfl rfl dX5_doLine_20 ?_
  refine v_iload_n (pc := 21) C dX5_doLine_21 rfl ?_
  refine v_iaddN (pc := 22) C (20 * (p)) (l) rfl rfl dX5_doLine_22 ?_
  refine v_ialdN (pc := 23) (i := ((20 * (p)) + (l))) (f := (mA S 1)) C 2 rfl (by omega) (by decide) dX5_doLine_23 ?_
  refine v_cv (y := (nI (x))) (ex) ?_
  refine v_istore (pc := 24) C dX5_doLine_24 (by decide) ?_
  refine v_iload (pc := 26) C dX5_doLine_26 rfl ?_
  refine v_tableIn (pc := 28) (tgt := 128) C dX5_doLine_28 (by decide) (by decide) rfl (by decide) ?_
  refine v_aload_n (pc := 128) C dX5_doLine_128 rfl ?_
  refine v_get (pc := 129) (v := .ref (a 5)) C inX5 0 rfl rfl 5 (by decide) kw3_30 rfl dX5_doLine_129 ?_
  refine v_iload (pc := 132) C dX5_doLine_132 rfl ?_
  refine v_aload_n (pc := 134) C dX5_doLine_134 rfl ?_
  refine v_get (pc := 135) (v := .ref (a 5)) C inX5 0 rfl rfl 5 (by decide) kw3_30 rfl dX5_doLine_135 ?_
  refine v_iload (pc := 138) C dX5_doLine_138 rfl ?_
  refine v_ialdN (pc := 140) (i := (x)) (f := (mA S 5)) C 5 rfl (by omega) (by decide) dX5_doLine_140 ?_
  refine v_aload_n (pc := 141) C dX5_doLine_141 rfl ?_
  refine v_get (pc := 142) (v := .ref (a 5)) C inX5 0 rfl rfl 5 (by decide) kw3_30 rfl dX5_doLine_142 ?_
  refine v_iload (pc := 145) C dX5_doLine_145 rfl ?_
  refine v_ialdN (pc := 147) (i := (y)) (f := (mA S 5)) C 5 rfl (by omega) (by decide) dX5_doLine_147 ?_
  refine v_iadd (pc := 148) C dX5_doLine_148 ?_
  refine v_iastN (pc := 149) (i := (x)) (f := (mA S 5)) C 5 rfl (by omega) (by decide) dX5_doLine_149 (ws' := (MW G o a (sA S 5 (upd ((mA S 5)) (x) (((mA S 5) (x)) + ((mA S 5) (y))))))) rfl ?_
  refine v_iload_n (pc := 150) C dX5_doLine_150 rfl ?_
  refine v_iconst (pc := 151) (v := 1) C dX5_doLine_151 (by decide) ?_
  refine v_iaddN (pc := 152) C (l) 1 rfl rfl dX5_doLine_152 ?_
  exact v_iret (pc := 153) C dX5_doLine_153 (rfl) ((sA S 5 (upd ((mA S 5)) (x) (((mA S 5) (x)) + ((mA S 5) (y)))))) rfl (⟨rfl, rfl⟩)
set_option maxHeartbeats 4000000 in
set_option maxRecDepth 100000 in
theorem kX5_doLine_3 (G : TG) (o : Nat) (a : Nat → Nat) (S : MS) (p l : Nat) (mk : Int32) (hp : p < 10) (hl : l < 20) (x : Nat) (ho : mA S 0 (20 * p + l) = 3) (ex : mA S 1 (20 * p + l) = nI x) (hx : x < 4) (y : Nat) (hy : y < 4) : CT G yX5_doLine cX5_doLine 8 (some .int) rmX5_doLine 0 0 [.ref (o), .int (nI (p)), .int (nI (l)), .int (mk), .int (nI (y))] (MW G o a S) (fun S : MS => MW G o a S) (Ri (fun r S' => r = nI (l + 1) ∧ S' = sA S 5 (upd (mA S 5) x (if mk &&& 16 = 0 then mA S 5 x - mA S 5 y else mA S 5 y - mA S 5 x)))) := by
  refine CT.enter (by decide) (Nat.le_of_ble_eq_true rfl) (fun X C hnm => ?_)
  refine V.less [(0, .ref (o)), (1, .int (nI (p))), (2, .int (nI (l))), (3, .int (mk)), (4, .int (nI (y)))] ⟨rfl, rfl, rfl, rfl, rfl, trivial⟩ ?_
  refine v_aload_n (pc := 0) C dX5_doLine_0 rfl ?_
  refine v_get (pc := 1) (v := .ref (a 0)) C inX5 0 rfl rfl 0 (by decide) kw3_25 rfl dX5_doLine_1 ?_
  refine v_bipush (pc := 4) (v := 20) C dX5_doLine_4 (by decide) ?_
  refine v_iload_n (pc := 6) C dX5_doLine_6 rfl ?_
  refine v_imulN (pc := 7) C 20 (p) rfl rfl dX5_doLine_7 ?_
  refine v_iload_n (pc := 8) C dX5_doLine_8 rfl ?_
  refine v_iaddN (pc := 9) C (20 * (p)) (l) rfl rfl dX5_doLine_9 ?_
  refine v_ialdN (pc := 10) (i := ((20 * (p)) + (l))) (f := (mA S 0)) C 1 rfl (by omega) (by decide) dX5_doLine_10 ?_
  refine v_cv (y := (3 : Int32)) (ho) ?_
  refine v_istore (pc := 11) C dX5_doLine_11 (by decide) ?_
  refine v_aload_n (pc := 13) C dX5_doLine_13 rfl ?_
  refine v_get (pc := 14) (v := .ref (a 1)) C inX5 0 rfl rfl 1 (by decide) kw3_26 rfl dX5_doLine_14 ?_
  refine v_bipush (pc := 17) (v := 20) C dX5_doLine_17 (by decide) ?_
  refine v_iload_n (pc := 19) C dX5_doLine_19 rfl ?_
  refine v_imulN (pc := 20) C 20 (p) rfl rfl dX5_doLine_20 ?_
  refine v_iload_n (pc := 21) C dX5_doLine_21 rfl ?_
  refine v_iaddN (pc := 22) C (20 * (p)) (l) rfl rfl dX5_doLine_22 ?_
  refine v_ialdN (pc := 23) (i := ((20 * (p)) + (l))) (f := (mA S 1)) C 2 rfl (by omega) (by decide) dX5_doLine_23 ?_
  refine v_cv (y := (nI (x))) (ex) ?_
  refine v_istore (pc := 24) C dX5_doLine_24 (by decide) ?_
  refine v_iload (pc := 26) C dX5_doLine_26 rfl ?_
  refine v_tableIn (pc := 28) (tgt := 154) C dX5_doLine_28 (by decide) (by decide) rfl (by decide) ?_
  refine v_aload_n (pc := 154) C dX5_doLine_154 rfl ?_
  refine v_get (pc := 155) (v := .ref (a 5)) C inX5 0 rfl rfl 5 (by decide) kw3_30 rfl dX5_doLine_155 ?_
  refine v_iload (pc := 158) C dX5_doLine_158 rfl ?_
  refine v_iload_n (pc := 160) C dX5_doLine_160 rfl ?_
  refine v_bipush (pc := 161) (v := 16) C dX5_doLine_161 (by decide) ?_
  refine v_callS0 (pc := 163) (st := [.int (nI (x)), .ref (a 5)]) C (kX5_has G _ mk 16) ykX5_has kw3_174 kw3_173 dX5_doLine_163 rfl rfl rfl (by decide) (Nat.le_of_ble_eq_true rfl) (by decide) rfl (Ri_kk (fun r_163 u_163 h_163 => ?_))
  rcases (has01 h_163) with ⟨q_163, rfl⟩ | ⟨q_163, rfl⟩
  · refine v_if_eqT (pc := 166) (tgt := 187) C (by decide) dX5_doLine_166 (by decide) ?_
    refine v_aload_n (pc := 187) C dX5_doLine_187 rfl ?_
    refine v_get (pc := 188) (v := .ref (a 5)) C inX5 0 rfl rfl 5 (by decide) kw3_30 rfl dX5_doLine_188 ?_
    refine v_iload (pc := 191) C dX5_doLine_191 rfl ?_
    refine v_ialdN (pc := 193) (i := (x)) (f := (mA S 5)) C 5 rfl (by omega) (by decide) dX5_doLine_193 ?_
    refine v_aload_n (pc := 194) C dX5_doLine_194 rfl ?_
    refine v_get (pc := 195) (v := .ref (a 5)) C inX5 0 rfl rfl 5 (by decide) kw3_30 rfl dX5_doLine_195 ?_
    refine v_iload (pc := 198) C dX5_doLine_198 rfl ?_
    refine v_ialdN (pc := 200) (i := (y)) (f := (mA S 5)) C 5 rfl (by omega) (by decide) dX5_doLine_200 ?_
    refine v_isub (pc := 201) C dX5_doLine_201 ?_
    refine v_iastN (pc := 202) (i := (x)) (f := (mA S 5)) C 5 rfl (by omega) (by decide) dX5_doLine_202 (ws' := (MW G o a (sA S 5 (upd ((mA S 5)) (x) (((mA S 5) (x)) - ((mA S 5) (y))))))) rfl ?_
    refine v_iload_n (pc := 203) C dX5_doLine_203 rfl ?_
    refine v_iconst (pc := 204) (v := 1) C dX5_doLine_204 (by decide) ?_
    refine v_iaddN (pc := 205) C (l) 1 rfl rfl dX5_doLine_205 ?_
    exact v_iret (pc := 206) C dX5_doLine_206 (rfl) ((sA S 5 (upd ((mA S 5)) (x) (((mA S 5) (x)) - ((mA S 5) (y)))))) rfl (⟨rfl, by rw [if_pos q_163]⟩)
  · refine v_if_eqF (pc := 166) (tgt := 187) C (by decide) dX5_doLine_166 (by decide) ?_
    refine v_aload_n (pc := 169) C dX5_doLine_169 rfl ?_
    refine v_get (pc := 170) (v := .ref (a 5)) C inX5 0 rfl rfl 5 (by decide) kw3_30 rfl dX5_doLine_170 ?_
    refine v_iload (pc := 173) C dX5_doLine_173 rfl ?_
    refine v_ialdN (pc := 175) (i := (y)) (f := (mA S 5)) C 5 rfl (by omega) (by decide) dX5_doLine_175 ?_
    refine v_aload_n (pc := 176) C dX5_doLine_176 rfl ?_
    refine v_get (pc := 177) (v := .ref (a 5)) C inX5 0 rfl rfl 5 (by decide) kw3_30 rfl dX5_doLine_177 ?_
    refine v_iload (pc := 180) C dX5_doLine_180 rfl ?_
    refine v_ialdN (pc := 182) (i := (x)) (f := (mA S 5)) C 5 rfl (by omega) (by decide) dX5_doLine_182 ?_
    refine v_isub (pc := 183) C dX5_doLine_183 ?_
    refine v_goto (pc := 184) (tgt := 202) C dX5_doLine_184 (by decide) ?_
    refine v_iastN (pc := 202) (i := (x)) (f := (mA S 5)) C 5 rfl (by omega) (by decide) dX5_doLine_202 (ws' := (MW G o a (sA S 5 (upd ((mA S 5)) (x) (((mA S 5) (y)) - ((mA S 5) (x))))))) rfl ?_
    refine v_iload_n (pc := 203) C dX5_doLine_203 rfl ?_
    refine v_iconst (pc := 204) (v := 1) C dX5_doLine_204 (by decide) ?_
    refine v_iaddN (pc := 205) C (l) 1 rfl rfl dX5_doLine_205 ?_
    exact v_iret (pc := 206) C dX5_doLine_206 (rfl) ((sA S 5 (upd ((mA S 5)) (x) (((mA S 5) (y)) - ((mA S 5) (x)))))) rfl (⟨rfl, by rw [if_neg q_163]⟩)
set_option maxHeartbeats 4000000 in
set_option maxRecDepth 100000 in
theorem kX5_doLine_4 (G : TG) (o : Nat) (a : Nat → Nat) (S : MS) (p l : Nat) (mk : Int32) (hp : p < 10) (hl : l < 20) (x : Nat) (ho : mA S 0 (20 * p + l) = 4) (ex : mA S 1 (20 * p + l) = nI x) (hx : x < 4) (b : Int32) (e : Nat) (hm : Mt (fun k => mA S 0 (20 * p + k)) l e) (he : e < 20) : CT G yX5_doLine cX5_doLine 8 (some .int) rmX5_doLine 0 0 [.ref (o), .int (nI (p)), .int (nI (l)), .int (mk), .int (b)] (MW G o a S) (fun S : MS => MW G o a S) (Ri (fun r S' => r = nI (if 0 < (mA S 5 x).toInt64 then l + 1 else e + 1) ∧ S' = sL S (vp_updL (mL S) l ((mA S 5 x).toInt64 + (if 0 < (mA S 5 x).toInt64 ∧ ¬ mk &&& 2 = 0 then 1 else 0))))) := by
  refine CT.enter (by decide) (Nat.le_of_ble_eq_true rfl) (fun X C hnm => ?_)
  refine V.less [(0, .ref (o)), (1, .int (nI (p))), (2, .int (nI (l))), (3, .int (mk)), (4, .int (b))] ⟨rfl, rfl, rfl, rfl, rfl, trivial⟩ ?_
  refine v_aload_n (pc := 0) C dX5_doLine_0 rfl ?_
  refine v_get (pc := 1) (v := .ref (a 0)) C inX5 0 rfl rfl 0 (by decide) kw3_25 rfl dX5_doLine_1 ?_
  refine v_bipush (pc := 4) (v := 20) C dX5_doLine_4 (by decide) ?_
  refine v_iload_n (pc := 6) C dX5_doLine_6 rfl ?_
  refine v_imulN (pc := 7) C 20 (p) rfl rfl dX5_doLine_7 ?_
  refine v_iload_n (pc := 8) C dX5_doLine_8 rfl ?_
  refine v_iaddN (pc := 9) C (20 * (p)) (l) rfl rfl dX5_doLine_9 ?_
  refine v_ialdN (pc := 10) (i := ((20 * (p)) + (l))) (f := (mA S 0)) C 1 rfl (by omega) (by decide) dX5_doLine_10 ?_
  refine v_cv (y := (4 : Int32)) (ho) ?_
  refine v_istore (pc := 11) C dX5_doLine_11 (by decide) ?_
  refine v_aload_n (pc := 13) C dX5_doLine_13 rfl ?_
  refine v_get (pc := 14) (v := .ref (a 1)) C inX5 0 rfl rfl 1 (by decide) kw3_26 rfl dX5_doLine_14 ?_
  refine v_bipush (pc := 17) (v := 20) C dX5_doLine_17 (by decide) ?_
  refine v_iload_n (pc := 19) C dX5_doLine_19 rfl ?_
  refine v_imulN (pc := 20) C 20 (p) rfl rfl dX5_doLine_20 ?_
  refine v_iload_n (pc := 21) C dX5_doLine_21 rfl ?_
  refine v_iaddN (pc := 22) C (20 * (p)) (l) rfl rfl dX5_doLine_22 ?_
  refine v_ialdN (pc := 23) (i := ((20 * (p)) + (l))) (f := (mA S 1)) C 2 rfl (by omega) (by decide) dX5_doLine_23 ?_
  refine v_cv (y := (nI (x))) (ex) ?_
  refine v_istore (pc := 24) C dX5_doLine_24 (by decide) ?_
  refine v_iload (pc := 26) C dX5_doLine_26 rfl ?_
  refine v_tableIn (pc := 28) (tgt := 207) C dX5_doLine_28 (by decide) (by decide) rfl (by decide) ?_
  refine v_aload_n (pc := 207) C dX5_doLine_207 rfl ?_
  refine v_get (pc := 208) (v := .ref (a 8)) C inX5 0 rfl rfl 8 (by decide) kw3_33 rfl dX5_doLine_208 ?_
  refine v_iload_n (pc := 211) C dX5_doLine_211 rfl ?_
  refine v_aload_n (pc := 212) C dX5_doLine_212 rfl ?_
  refine v_get (pc := 213) (v := .ref (a 5)) C inX5 0 rfl rfl 5 (by decide) kw3_30 rfl dX5_doLine_213 ?_
  refine v_iload (pc := 216) C dX5_doLine_216 rfl ?_
  refine v_ialdN (pc := 218) (i := (x)) (f := (mA S 5)) C 5 rfl (by omega) (by decide) dX5_doLine_218 ?_
  refine v_i2l (pc := 219) C dX5_doLine_219 ?_
  refine v_lastN (pc := 220) (i := (l)) (f := (mL S)) C 8 rfl (by omega) (by decide) dX5_doLine_220 (ws' := (MW G o a (sL S (vp_updL ((mL S)) (l) (((mA S 5) (x)).toInt64))))) rfl ?_
  refine v_aload_n (pc := 221) C dX5_doLine_221 rfl ?_
  refine v_get (pc := 222) (v := .ref (a 8)) C inX5 0 rfl rfl 8 (by decide) kw3_33 rfl dX5_doLine_222 ?_
  refine v_iload_n (pc := 225) C dX5_doLine_225 rfl ?_
  refine v_dup2_11 (pc := 226) C dX5_doLine_226 rfl rfl ?_
  refine v_laldN (pc := 227) (i := (l)) (f := (vp_updL ((mL S)) (l) (((mA S 5) (x)).toInt64))) C 8 rfl (by omega) (by decide) dX5_doLine_227 ?_
  refine v_aload_n (pc := 228) C dX5_doLine_228 rfl ?_
  refine v_get (pc := 229) (v := .ref (a 8)) C inX5 0 rfl rfl 8 (by decide) kw3_33 rfl dX5_doLine_229 ?_
  refine v_iload_n (pc := 232) C dX5_doLine_232 rfl ?_
  refine v_laldN (pc := 233) (i := (l)) (f := (vp_updL ((mL S)) (l) (((mA S 5) (x)).toInt64))) C 8 rfl (by omega) (by decide) dX5_doLine_233 ?_
  refine v_lconst (pc := 234) (v := 0) C dX5_doLine_234 (by decide) ?_
  refine v_lcmp (pc := 235) C dX5_doLine_235 ?_
  refine v_if_le (pc := 236) (tgt := 251) C dX5_doLine_236 (by decide) (fun c_236 => ?_) (fun c_236 => ?_)
  · refine v_lconst (pc := 251) (v := 0) C dX5_doLine_251 (by decide) ?_
    refine v_ladd (pc := 252) C dX5_doLine_252 ?_
    refine v_lastN (pc := 253) (i := (l)) (f := (vp_updL ((mL S)) (l) (((mA S 5) (x)).toInt64))) C 8 rfl (by omega) (by decide) dX5_doLine_253 (ws' := (MW G o a (sL S (vp_updL ((vp_updL ((mL S)) (l) (((mA S 5) (x)).toInt64))) (l) (((vp_updL ((mL S)) (l) (((mA S 5) (x)).toInt64)) (l)) + ((0 : Int64))))))) rfl ?_
    refine v_aload_n (pc := 254) C dX5_doLine_254 rfl ?_
    refine v_get (pc := 255) (v := .ref (a 8)) C inX5 0 rfl rfl 8 (by decide) kw3_33 rfl dX5_doLine_255 ?_
    refine v_iload_n (pc := 258) C dX5_doLine_258 rfl ?_
    refine v_laldN (pc := 259) (i := (l)) (f := (vp_updL ((vp_updL ((mL S)) (l) (((mA S 5) (x)).toInt64))) (l) (((vp_updL ((mL S)) (l) (((mA S 5) (x)).toInt64)) (l)) + ((0 : Int64))))) C 8 rfl (by omega) (by decide) dX5_doLine_259 ?_
    refine v_lconst (pc := 260) (v := 0) C dX5_doLine_260 (by decide) ?_
    refine v_lcmp (pc := 261) C dX5_doLine_261 ?_
    refine v_if_le (pc := 262) (tgt := 271) C dX5_doLine_262 (by decide) (fun c_262 => ?_) (fun c_262 => ?_)
    · refine v_aload_n (pc := 271) C dX5_doLine_271 rfl ?_
      refine v_iload_n (pc := 272) C dX5_doLine_272 rfl ?_
      refine v_iload_n (pc := 273) C dX5_doLine_273 rfl ?_
      refine v_callV0 (pc := 274) (st := []) (q0 := 0) C (kX5_endOf G o a (sL S (vp_updL ((vp_updL ((mL S)) (l) (((mA S 5) (x)).toInt64))) (l) (((vp_updL ((mL S)) (l) (((mA S 5) (x)).toInt64)) (l)) + ((0 : Int64))))) p l e hp hm he) ykX5_endOf cvX5_endOf kw3_176 dX5_doLine_274 rfl rfl rfl rfl rfl (by decide) (Nat.le_of_ble_eq_true rfl) (by decide) rfl (Ri_kk (fun r_274 u_274 h_274 => ?_))
      obtain ⟨e_274, rfl⟩ := h_274
      rw [e_274]
      refine v_iconst (pc := 277) (v := 1) C dX5_doLine_277 (by decide) ?_
      refine v_iaddN (pc := 278) C (e) 1 rfl rfl dX5_doLine_278 ?_
      have h0 : ¬ 0 < (mA S 5 x).toInt64 := lgc_le.mp (by simpa [vp_updL] using c_236)
      exact v_iret (pc := 279) C dX5_doLine_279 (rfl) ((sL S (vp_updL ((vp_updL ((mL S)) (l) (((mA S 5) (x)).toInt64))) (l) (((vp_updL ((mL S)) (l) (((mA S 5) (x)).toInt64)) (l)) + ((0 : Int64)))))) rfl (⟨by rw [if_neg h0], by rw [updL2, if_neg (fun z => h0 z.1)]; simp [vp_updL]⟩)
    · exact absurd (by have q := c_236; simp only [vp_updL, if_pos rfl, ite_true] at q ⊢; simpa using q) c_262
  · refine v_iload_n (pc := 239) C dX5_doLine_239 rfl ?_
    refine v_iconst (pc := 240) (v := 2) C dX5_doLine_240 (by decide) ?_
    refine v_callS0 (pc := 241) (st := [.long ((vp_updL ((mL S)) (l) (((mA S 5) (x)).toInt64)) (l)), .int (nI (l)), .ref (a 8)]) C (kX5_has G _ mk 2) ykX5_has kw3_174 kw3_173 dX5_doLine_241 rfl rfl rfl (by decide) (Nat.le_of_ble_eq_true rfl) (by decide) rfl (Ri_kk (fun r_241 u_241 h_241 => ?_))
    rcases (has01 h_241) with ⟨q_241, rfl⟩ | ⟨q_241, rfl⟩
    · refine v_if_eqT (pc := 244) (tgt := 251) C (by decide) dX5_doLine_244 (by decide) ?_
      refine v_lconst (pc := 251) (v := 0) C dX5_doLine_251 (by decide) ?_
      refine v_ladd (pc := 252) C dX5_doLine_252 ?_
      refine v_lastN (pc := 253) (i := (l)) (f := (vp_updL ((mL S)) (l) (((mA S 5) (x)).toInt64))) C 8 rfl (by omega) (by decide) dX5_doLine_253 (ws' := (MW G o a (sL S (vp_updL ((vp_updL ((mL S)) (l) (((mA S 5) (x)).toInt64))) (l) (((vp_updL ((mL S)) (l) (((mA S 5) (x)).toInt64)) (l)) + ((0 : Int64))))))) rfl ?_
      refine v_aload_n (pc := 254) C dX5_doLine_254 rfl ?_
      refine v_get (pc := 255) (v := .ref (a 8)) C inX5 0 rfl rfl 8 (by decide) kw3_33 rfl dX5_doLine_255 ?_
      refine v_iload_n (pc := 258) C dX5_doLine_258 rfl ?_
      refine v_laldN (pc := 259) (i := (l)) (f := (vp_updL ((vp_updL ((mL S)) (l) (((mA S 5) (x)).toInt64))) (l) (((vp_updL ((mL S)) (l) (((mA S 5) (x)).toInt64)) (l)) + ((0 : Int64))))) C 8 rfl (by omega) (by decide) dX5_doLine_259 ?_
      refine v_lconst (pc := 260) (v := 0) C dX5_doLine_260 (by decide) ?_
      refine v_lcmp (pc := 261) C dX5_doLine_261 ?_
      refine v_if_le (pc := 262) (tgt := 271) C dX5_doLine_262 (by decide) (fun c_262 => ?_) (fun c_262 => ?_)
      · exact absurd (by have q := c_262; simp only [vp_updL, if_pos rfl, ite_true] at q ⊢; simpa using q) c_236
      · refine v_iload_n (pc := 265) C dX5_doLine_265 rfl ?_
        refine v_iconst (pc := 266) (v := 1) C dX5_doLine_266 (by decide) ?_
        refine v_iaddN (pc := 267) C (l) 1 rfl rfl dX5_doLine_267 ?_
        refine v_goto (pc := 268) (tgt := 279) C dX5_doLine_268 (by decide) ?_
        have h0 : 0 < (mA S 5 x).toInt64 := Classical.byContradiction (fun z => c_236 (lgc_le.mpr (by simpa [vp_updL] using z)))
        exact v_iret (pc := 279) C dX5_doLine_279 (rfl) ((sL S (vp_updL ((vp_updL ((mL S)) (l) (((mA S 5) (x)).toInt64))) (l) (((vp_updL ((mL S)) (l) (((mA S 5) (x)).toInt64)) (l)) + ((0 : Int64)))))) rfl (⟨by rw [if_pos h0], by rw [updL2, if_neg (fun z => z.2 q_241)]; simp [vp_updL]⟩)
    · refine v_if_eqF (pc := 244) (tgt := 251) C (by decide) dX5_doLine_244 (by decide) ?_
      refine v_lconst (pc := 247) (v := 1) C dX5_doLine_247 (by decide) ?_
      refine v_goto (pc := 248) (tgt := 252) C dX5_doLine_248 (by decide) ?_
      refine v_ladd (pc := 252) C dX5_doLine_252 ?_
      refine v_lastN (pc := 253) (i := (l)) (f := (vp_updL ((mL S)) (l) (((mA S 5) (x)).toInt64))) C 8 rfl (by omega) (by decide) dX5_doLine_253 (ws' := (MW G o a (sL S (vp_updL ((vp_updL ((mL S)) (l) (((mA S 5) (x)).toInt64))) (l) (((vp_updL ((mL S)) (l) (((mA S 5) (x)).toInt64)) (l)) + ((1 : Int64))))))) rfl ?_
      refine v_aload_n (pc := 254) C dX5_doLine_254 rfl ?_
      refine v_get (pc := 255) (v := .ref (a 8)) C inX5 0 rfl rfl 8 (by decide) kw3_33 rfl dX5_doLine_255 ?_
      refine v_iload_n (pc := 258) C dX5_doLine_258 rfl ?_
      refine v_laldN (pc := 259) (i := (l)) (f := (vp_updL ((vp_updL ((mL S)) (l) (((mA S 5) (x)).toInt64))) (l) (((vp_updL ((mL S)) (l) (((mA S 5) (x)).toInt64)) (l)) + ((1 : Int64))))) C 8 rfl (by omega) (by decide) dX5_doLine_259 ?_
      refine v_lconst (pc := 260) (v := 0) C dX5_doLine_260 (by decide) ?_
      refine v_lcmp (pc := 261) C dX5_doLine_261 ?_
      refine v_if_le (pc := 262) (tgt := 271) C dX5_doLine_262 (by decide) (fun c_262 => ?_) (fun c_262 => ?_)
      · exact absurd (pos1 (x := mA S 5 x) (Classical.byContradiction (fun z => c_236 (lgc_le.mpr (by simpa [vp_updL] using z))))) (lgc_le.mp (by simpa [vp_updL] using c_262))
      · refine v_iload_n (pc := 265) C dX5_doLine_265 rfl ?_
        refine v_iconst (pc := 266) (v := 1) C dX5_doLine_266 (by decide) ?_
        refine v_iaddN (pc := 267) C (l) 1 rfl rfl dX5_doLine_267 ?_
        refine v_goto (pc := 268) (tgt := 279) C dX5_doLine_268 (by decide) ?_
        have h0 : 0 < (mA S 5 x).toInt64 := Classical.byContradiction (fun z => c_236 (lgc_le.mpr (by simpa [vp_updL] using z)))
        exact v_iret (pc := 279) C dX5_doLine_279 (rfl) ((sL S (vp_updL ((vp_updL ((mL S)) (l) (((mA S 5) (x)).toInt64))) (l) (((vp_updL ((mL S)) (l) (((mA S 5) (x)).toInt64)) (l)) + ((1 : Int64)))))) rfl (⟨by rw [if_pos h0], by rw [updL2, if_pos ⟨h0, q_241⟩]; simp [vp_updL]⟩)
set_option maxHeartbeats 4000000 in
set_option maxRecDepth 100000 in
theorem kX5_doLine_5 (G : TG) (o : Nat) (a : Nat → Nat) (S : MS) (p l : Nat) (mk : Int32) (hp : p < 10) (hl : l < 20) (x : Nat) (ho : mA S 0 (20 * p + l) = 5) (ex : mA S 1 (20 * p + l) = nI x) (hx : x < 4) (y : Nat) (hy : y < 4) (e : Nat) (hm : Mt (fun k => mA S 0 (20 * p + k)) l e) (he : e < 20) : CT G yX5_doLine cX5_doLine 8 (some .int) rmX5_doLine 0 0 [.ref (o), .int (nI (p)), .int (nI (l)), .int (mk), .int (nI (y))] (MW G o a S) (fun S : MS => MW G o a S) (Ri (fun r S' => r = nI (if mA S 5 x < mA S 5 y ∨ (¬ mk &&& 8 = 0 ∧ mA S 5 x = mA S 5 y) then l + 1 else e + 1) ∧ S' = S)) := by
  refine CT.enter (by decide) (Nat.le_of_ble_eq_true rfl) (fun X C hnm => ?_)
  refine V.less [(0, .ref (o)), (1, .int (nI (p))), (2, .int (nI (l))), (3, .int (mk)), (4, .int (nI (y)))] ⟨rfl, rfl, rfl, rfl, rfl, trivial⟩ ?_
  refine v_aload_n (pc := 0) C dX5_doLine_0 rfl ?_
  refine v_get (pc := 1) (v := .ref (a 0)) C inX5 0 rfl rfl 0 (by decide) kw3_25 rfl dX5_doLine_1 ?_
  refine v_bipush (pc := 4) (v := 20) C dX5_doLine_4 (by decide) ?_
  refine v_iload_n (pc := 6) C dX5_doLine_6 rfl ?_
  refine v_imulN (pc := 7) C 20 (p) rfl rfl dX5_doLine_7 ?_
  refine v_iload_n (pc := 8) C dX5_doLine_8 rfl ?_
  refine v_iaddN (pc := 9) C (20 * (p)) (l) rfl rfl dX5_doLine_9 ?_
  refine v_ialdN (pc := 10) (i := ((20 * (p)) + (l))) (f := (mA S 0)) C 1 rfl (by omega) (by decide) dX5_doLine_10 ?_
  refine v_cv (y := (5 : Int32)) (ho) ?_
  refine v_istore (pc := 11) C dX5_doLine_11 (by decide) ?_
  refine v_aload_n (pc := 13) C dX5_doLine_13 rfl ?_
  refine v_get (pc := 14) (v := .ref (a 1)) C inX5 0 rfl rfl 1 (by decide) kw3_26 rfl dX5_doLine_14 ?_
  refine v_bipush (pc := 17) (v := 20) C dX5_doLine_17 (by decide) ?_
  refine v_iload_n (pc := 19) C dX5_doLine_19 rfl ?_
  refine v_imulN (pc := 20) C 20 (p) rfl rfl dX5_doLine_20 ?_
  refine v_iload_n (pc := 21) C dX5_doLine_21 rfl ?_
  refine v_iaddN (pc := 22) C (20 * (p)) (l) rfl rfl dX5_doLine_22 ?_
  refine v_ialdN (pc := 23) (i := ((20 * (p)) + (l))) (f := (mA S 1)) C 2 rfl (by omega) (by decide) dX5_doLine_23 ?_
  refine v_cv (y := (nI (x))) (ex) ?_
  refine v_istore (pc := 24) C dX5_doLine_24 (by decide) ?_
  refine v_iload (pc := 26) C dX5_doLine_26 rfl ?_
  refine v_tableIn (pc := 28) (tgt := 280) C dX5_doLine_28 (by decide) (by decide) rfl (by decide) ?_
  refine v_aload_n (pc := 280) C dX5_doLine_280 rfl ?_
  refine v_get (pc := 281) (v := .ref (a 5)) C inX5 0 rfl rfl 5 (by decide) kw3_30 rfl dX5_doLine_281 ?_
  refine v_iload (pc := 284) C dX5_doLine_284 rfl ?_
  refine v_ialdN (pc := 286) (i := (x)) (f := (mA S 5)) C 5 rfl (by omega) (by decide) dX5_doLine_286 ?_
  refine v_aload_n (pc := 287) C dX5_doLine_287 rfl ?_
  refine v_get (pc := 288) (v := .ref (a 5)) C inX5 0 rfl rfl 5 (by decide) kw3_30 rfl dX5_doLine_288 ?_
  refine v_iload (pc := 291) C dX5_doLine_291 rfl ?_
  refine v_ialdN (pc := 293) (i := (y)) (f := (mA S 5)) C 5 rfl (by omega) (by decide) dX5_doLine_293 ?_
  refine v_icmp_lt (pc := 294) (tgt := 323) C dX5_doLine_294 (by decide) (fun c_294 => ?_) (fun c_294 => ?_)
  · refine v_iconst (pc := 323) (v := 1) C dX5_doLine_323 (by decide) ?_
    refine v_goto (pc := 324) (tgt := 328) C dX5_doLine_324 (by decide) ?_
    refine v_istore (pc := 328) C dX5_doLine_328 (by decide) ?_
    refine v_iload (pc := 330) C dX5_doLine_330 rfl ?_
    refine v_if_eqF (pc := 332) (tgt := 341) C (by decide) dX5_doLine_332 (by decide) ?_
    refine v_iload_n (pc := 335) C dX5_doLine_335 rfl ?_
    refine v_iconst (pc := 336) (v := 1) C dX5_doLine_336 (by decide) ?_
    refine v_iaddN (pc := 337) C (l) 1 rfl rfl dX5_doLine_337 ?_
    refine v_goto (pc := 338) (tgt := 349) C dX5_doLine_338 (by decide) ?_
    exact v_iret (pc := 349) C dX5_doLine_349 (rfl) (S) rfl (⟨by rw [if_pos (Or.inl c_294)], rfl⟩)
  · refine v_iload_n (pc := 297) C dX5_doLine_297 rfl ?_
    refine v_bipush (pc := 298) (v := 8) C dX5_doLine_298 (by decide) ?_
    refine v_callS0 (pc := 300) (st := []) C (kX5_has G _ mk 8) ykX5_has kw3_174 kw3_173 dX5_doLine_300 rfl rfl rfl (by decide) (Nat.le_of_ble_eq_true rfl) (by decide) rfl (Ri_kk (fun r_300 u_300 h_300 => ?_))
    rcases (has01 h_300) with ⟨q_300, rfl⟩ | ⟨q_300, rfl⟩
    · refine v_if_eqT (pc := 303) (tgt := 327) C (by decide) dX5_doLine_303 (by decide) ?_
      refine v_iconst (pc := 327) (v := 0) C dX5_doLine_327 (by decide) ?_
      refine v_istore (pc := 328) C dX5_doLine_328 (by decide) ?_
      refine v_iload (pc := 330) C dX5_doLine_330 rfl ?_
      refine v_if_eqT (pc := 332) (tgt := 341) C (by decide) dX5_doLine_332 (by decide) ?_
      refine v_aload_n (pc := 341) C dX5_doLine_341 rfl ?_
      refine v_iload_n (pc := 342) C dX5_doLine_342 rfl ?_
      refine v_iload_n (pc := 343) C dX5_doLine_343 rfl ?_
      refine v_callV0 (pc := 344) (st := []) (q0 := 0) C (kX5_endOf G o a S p l e hp hm he) ykX5_endOf cvX5_endOf kw3_176 dX5_doLine_344 rfl rfl rfl rfl rfl (by decide) (Nat.le_of_ble_eq_true rfl) (by decide) rfl (Ri_kk (fun r_344 u_344 h_344 => ?_))
      obtain ⟨e_344, rfl⟩ := h_344
      rw [e_344]
      refine v_iconst (pc := 347) (v := 1) C dX5_doLine_347 (by decide) ?_
      refine v_iaddN (pc := 348) C (e) 1 rfl rfl dX5_doLine_348 ?_
      exact v_iret (pc := 349) C dX5_doLine_349 (rfl) (S) rfl (⟨by rw [if_neg (fun z => z.elim c_294 (fun z => z.1 q_300))], rfl⟩)
    · refine v_if_eqF (pc := 303) (tgt := 327) C (by decide) dX5_doLine_303 (by decide) ?_
      refine v_aload_n (pc := 306) C dX5_doLine_306 rfl ?_
      refine v_get (pc := 307) (v := .ref (a 5)) C inX5 0 rfl rfl 5 (by decide) kw3_30 rfl dX5_doLine_307 ?_
      refine v_iload (pc := 310) C dX5_doLine_310 rfl ?_
      refine v_ialdN (pc := 312) (i := (x)) (f := (mA S 5)) C 5 rfl (by omega) (by decide) dX5_doLine_312 ?_
      refine v_aload_n (pc := 313) C dX5_doLine_313 rfl ?_
      refine v_get (pc := 314) (v := .ref (a 5)) C inX5 0 rfl rfl 5 (by decide) kw3_30 rfl dX5_doLine_314 ?_
      refine v_iload (pc := 317) C dX5_doLine_317 rfl ?_
      refine v_ialdN (pc := 319) (i := (y)) (f := (mA S 5)) C 5 rfl (by omega) (by decide) dX5_doLine_319 ?_
      refine v_icmp_ne (pc := 320) (tgt := 327) C dX5_doLine_320 (by decide) (fun c_320 => ?_) (fun c_320 => ?_)
      · refine v_iconst (pc := 327) (v := 0) C dX5_doLine_327 (by decide) ?_
        refine v_istore (pc := 328) C dX5_doLine_328 (by decide) ?_
        refine v_iload (pc := 330) C dX5_doLine_330 rfl ?_
        refine v_if_eqT (pc := 332) (tgt := 341) C (by decide) dX5_doLine_332 (by decide) ?_
        refine v_aload_n (pc := 341) C dX5_doLine_341 rfl ?_
        refine v_iload_n (pc := 342) C dX5_doLine_342 rfl ?_
        refine v_iload_n (pc := 343) C dX5_doLine_343 rfl ?_
        refine v_callV0 (pc := 344) (st := []) (q0 := 0) C (kX5_endOf G o a S p l e hp hm he) ykX5_endOf cvX5_endOf kw3_176 dX5_doLine_344 rfl rfl rfl rfl rfl (by decide) (Nat.le_of_ble_eq_true rfl) (by decide) rfl (Ri_kk (fun r_344 u_344 h_344 => ?_))
        obtain ⟨e_344, rfl⟩ := h_344
        rw [e_344]
        refine v_iconst (pc := 347) (v := 1) C dX5_doLine_347 (by decide) ?_
        refine v_iaddN (pc := 348) C (e) 1 rfl rfl dX5_doLine_348 ?_
        exact v_iret (pc := 349) C dX5_doLine_349 (rfl) (S) rfl (⟨by rw [if_neg (fun z => z.elim c_294 (fun z => c_320 z.2))], rfl⟩)
      · refine v_iconst (pc := 323) (v := 1) C dX5_doLine_323 (by decide) ?_
        refine v_goto (pc := 324) (tgt := 328) C dX5_doLine_324 (by decide) ?_
        refine v_istore (pc := 328) C dX5_doLine_328 (by decide) ?_
        refine v_iload (pc := 330) C dX5_doLine_330 rfl ?_
        refine v_if_eqF (pc := 332) (tgt := 341) C (by decide) dX5_doLine_332 (by decide) ?_
        refine v_iload_n (pc := 335) C dX5_doLine_335 rfl ?_
        refine v_iconst (pc := 336) (v := 1) C dX5_doLine_336 (by decide) ?_
        refine v_iaddN (pc := 337) C (l) 1 rfl rfl dX5_doLine_337 ?_
        refine v_goto (pc := 338) (tgt := 349) C dX5_doLine_338 (by decide) ?_
        exact v_iret (pc := 349) C dX5_doLine_349 (rfl) (S) rfl (⟨by rw [if_pos (Or.inr ⟨q_300, c_320⟩)], rfl⟩)
set_option maxHeartbeats 4000000 in
set_option maxRecDepth 100000 in
theorem kX5_doLine_6 (G : TG) (o : Nat) (a : Nat → Nat) (S : MS) (p l : Nat) (mk : Int32) (hp : p < 10) (hl : l < 20) (x : Int32) (ho : mA S 0 (20 * p + l) = 6) (ex : mA S 1 (20 * p + l) = x) (b : Int32) (i : Nat) (hm : Mt (fun k => mA S 0 (20 * p + k)) i l) (hw : wfd (fun k => mA S 0 (20 * p + k)) (l + 1)) : CT G yX5_doLine cX5_doLine 8 (some .int) rmX5_doLine 0 0 [.ref (o), .int (nI (p)), .int (nI (l)), .int (mk), .int (b)] (MW G o a S) (fun S : MS => MW G o a S) (Ri (fun r S' => (mA S 0 (20 * p + i) = 5 → r = nI (l + 1) ∧ S' = S) ∧ (¬ mA S 0 (20 * p + i) = 5 → r = nI (if 0 < mL S i - 1 then i + 1 else l + 1) ∧ S' = sL S (vp_updL (mL S) i (mL S i - 1))))) := by
  refine CT.enter (by decide) (Nat.le_of_ble_eq_true rfl) (fun X C hnm => ?_)
  refine V.less [(0, .ref (o)), (1, .int (nI (p))), (2, .int (nI (l))), (3, .int (mk)), (4, .int (b))] ⟨rfl, rfl, rfl, rfl, rfl, trivial⟩ ?_
  refine v_aload_n (pc := 0) C dX5_doLine_0 rfl ?_
  refine v_get (pc := 1) (v := .ref (a 0)) C inX5 0 rfl rfl 0 (by decide) kw3_25 rfl dX5_doLine_1 ?_
  refine v_bipush (pc := 4) (v := 20) C dX5_doLine_4 (by decide) ?_
  refine v_iload_n (pc := 6) C dX5_doLine_6 rfl ?_
  refine v_imulN (pc := 7) C 20 (p) rfl rfl dX5_doLine_7 ?_
  refine v_iload_n (pc := 8) C dX5_doLine_8 rfl ?_
  refine v_iaddN (pc := 9) C (20 * (p)) (l) rfl rfl dX5_doLine_9 ?_
  refine v_ialdN (pc := 10) (i := ((20 * (p)) + (l))) (f := (mA S 0)) C 1 rfl (by omega) (by decide) dX5_doLine_10 ?_
  refine v_cv (y := (6 : Int32)) (ho) ?_
  refine v_istore (pc := 11) C dX5_doLine_11 (by decide) ?_
  refine v_aload_n (pc := 13) C dX5_doLine_13 rfl ?_
  refine v_get (pc := 14) (v := .ref (a 1)) C inX5 0 rfl rfl 1 (by decide) kw3_26 rfl dX5_doLine_14 ?_
  refine v_bipush (pc := 17) (v := 20) C dX5_doLine_17 (by decide) ?_
  refine v_iload_n (pc := 19) C dX5_doLine_19 rfl ?_
  refine v_imulN (pc := 20) C 20 (p) rfl rfl dX5_doLine_20 ?_
  refine v_iload_n (pc := 21) C dX5_doLine_21 rfl ?_
  refine v_iaddN (pc := 22) C (20 * (p)) (l) rfl rfl dX5_doLine_22 ?_
  refine v_ialdN (pc := 23) (i := ((20 * (p)) + (l))) (f := (mA S 1)) C 2 rfl (by omega) (by decide) dX5_doLine_23 ?_
  refine v_cv (y := (x)) (ex) ?_
  refine v_istore (pc := 24) C dX5_doLine_24 (by decide) ?_
  refine v_iload (pc := 26) C dX5_doLine_26 rfl ?_
  refine v_tableIn (pc := 28) (tgt := 350) C dX5_doLine_28 (by decide) (by decide) rfl (by decide) ?_
  refine v_aload_n (pc := 350) C dX5_doLine_350 rfl ?_
  refine v_iload_n (pc := 351) C dX5_doLine_351 rfl ?_
  refine v_iload_n (pc := 352) C dX5_doLine_352 rfl ?_
  refine v_callV0 (pc := 353) (st := []) (q0 := 0) C (kX5_ended G o a S p i l hp hm hl hw) ykX5_ended cvX5_ended kw3_180 dX5_doLine_353 rfl rfl rfl rfl rfl (by decide) (Nat.le_of_ble_eq_true rfl) (by decide) rfl (Ri_kk (fun r_353 u_353 h_353 => ?_))
  exact v_iret (pc := 356) C dX5_doLine_356 (rfl) (u_353) rfl (h_353)
set_option maxHeartbeats 4000000 in
set_option maxRecDepth 100000 in
theorem kX5_doLine_7 (G : TG) (o : Nat) (a : Nat → Nat) (S : MS) (p l : Nat) (mk : Int32) (hp : p < 10) (hl : l < 20) (x : Nat) (ho : mA S 0 (20 * p + l) = 7) (ex : mA S 1 (20 * p + l) = nI x) (hx : x < 8) (y : Nat) (hy : y < 4) (hr : okr (mA S 7)) : CT G yX5_doLine cX5_doLine 8 (some .int) rmX5_doLine 0 0 [.ref (o), .int (nI (p)), .int (nI (l)), .int (mk), .int (nI (y))] (MW G o a S) (fun S : MS => MW G o a S) (Ri (fun r S' => r = nI (l + 1) ∧ S' = sA S 6 (upd (mA S 6) (4 * tn (mA S 7 (x / 4)) + tn (mA S 5 (x % 4) &&& 3)) (mA S 5 y)))) := by
  refine CT.enter (by decide) (Nat.le_of_ble_eq_true rfl) (fun X C hnm => ?_)
  refine V.less [(0, .ref (o)), (1, .int (nI (p))), (2, .int (nI (l))), (3, .int (mk)), (4, .int (nI (y)))] ⟨rfl, rfl, rfl, rfl, rfl, trivial⟩ ?_
  refine v_aload_n (pc := 0) C dX5_doLine_0 rfl ?_
  refine v_get (pc := 1) (v := .ref (a 0)) C inX5 0 rfl rfl 0 (by decide) kw3_25 rfl dX5_doLine_1 ?_
  refine v_bipush (pc := 4) (v := 20) C dX5_doLine_4 (by decide) ?_
  refine v_iload_n (pc := 6) C dX5_doLine_6 rfl ?_
  refine v_imulN (pc := 7) C 20 (p) rfl rfl dX5_doLine_7 ?_
  refine v_iload_n (pc := 8) C dX5_doLine_8 rfl ?_
  refine v_iaddN (pc := 9) C (20 * (p)) (l) rfl rfl dX5_doLine_9 ?_
  refine v_ialdN (pc := 10) (i := ((20 * (p)) + (l))) (f := (mA S 0)) C 1 rfl (by omega) (by decide) dX5_doLine_10 ?_
  refine v_cv (y := (7 : Int32)) (ho) ?_
  refine v_istore (pc := 11) C dX5_doLine_11 (by decide) ?_
  refine v_aload_n (pc := 13) C dX5_doLine_13 rfl ?_
  refine v_get (pc := 14) (v := .ref (a 1)) C inX5 0 rfl rfl 1 (by decide) kw3_26 rfl dX5_doLine_14 ?_
  refine v_bipush (pc := 17) (v := 20) C dX5_doLine_17 (by decide) ?_
  refine v_iload_n (pc := 19) C dX5_doLine_19 rfl ?_
  refine v_imulN (pc := 20) C 20 (p) rfl rfl dX5_doLine_20 ?_
  refine v_iload_n (pc := 21) C dX5_doLine_21 rfl ?_
  refine v_iaddN (pc := 22) C (20 * (p)) (l) rfl rfl dX5_doLine_22 ?_
  refine v_ialdN (pc := 23) (i := ((20 * (p)) + (l))) (f := (mA S 1)) C 2 rfl (by omega) (by decide) dX5_doLine_23 ?_
  refine v_cv (y := (nI (x))) (ex) ?_
  refine v_istore (pc := 24) C dX5_doLine_24 (by decide) ?_
  refine v_iload (pc := 26) C dX5_doLine_26 rfl ?_
  refine v_tableOut (pc := 28) (tgt := 357) C dX5_doLine_28 (by decide) (by decide) ?_
  refine v_aload_n (pc := 357) C dX5_doLine_357 rfl ?_
  refine v_iload (pc := 358) C dX5_doLine_358 rfl ?_
  refine v_iload (pc := 360) C dX5_doLine_360 rfl ?_
  refine v_iload (pc := 362) C dX5_doLine_362 rfl ?_
  refine v_iload_n (pc := 364) C dX5_doLine_364 rfl ?_
  refine v_callV0 (pc := 365) (st := []) (q0 := 0) C (kX5_rows_7 G o a S x y mk hr hx hy) ykX5_rows cvX5_rows kw3_188 dX5_doLine_365 rfl rfl rfl rfl rfl (by decide) (Nat.le_of_ble_eq_true rfl) (by decide) rfl (Rv_kk (fun u_365 h_365 => ?_))
  refine v_iload_n (pc := 368) C dX5_doLine_368 rfl ?_
  refine v_iconst (pc := 369) (v := 1) C dX5_doLine_369 (by decide) ?_
  refine v_iaddN (pc := 370) C (l) 1 rfl rfl dX5_doLine_370 ?_
  exact v_iret (pc := 371) C dX5_doLine_371 (rfl) (u_365) rfl (⟨rfl, h_365⟩)
set_option maxHeartbeats 4000000 in
set_option maxRecDepth 100000 in
theorem kX5_doLine_8 (G : TG) (o : Nat) (a : Nat → Nat) (S : MS) (p l : Nat) (mk : Int32) (hp : p < 10) (hl : l < 20) (x : Nat) (ho : mA S 0 (20 * p + l) = 8) (ex : mA S 1 (20 * p + l) = nI x) (hx : x < 4) (y : Nat) (hy : y < 8) (hr : okr (mA S 7)) : CT G yX5_doLine cX5_doLine 8 (some .int) rmX5_doLine 0 0 [.ref (o), .int (nI (p)), .int (nI (l)), .int (mk), .int (nI (y))] (MW G o a S) (fun S : MS => MW G o a S) (Ri (fun r S' => r = nI (l + 1) ∧ S' = sA S 5 (upd (mA S 5) x (mA S 6 (4 * tn (mA S 7 (y / 4)) + tn ((mA S 5 (y % 4) + (if mk &&& 32 = 0 then 0 else 1)) &&& 3)))))) := by
  refine CT.enter (by decide) (Nat.le_of_ble_eq_true rfl) (fun X C hnm => ?_)
  refine V.less [(0, .ref (o)), (1, .int (nI (p))), (2, .int (nI (l))), (3, .int (mk)), (4, .int (nI (y)))] ⟨rfl, rfl, rfl, rfl, rfl, trivial⟩ ?_
  refine v_aload_n (pc := 0) C dX5_doLine_0 rfl ?_
  refine v_get (pc := 1) (v := .ref (a 0)) C inX5 0 rfl rfl 0 (by decide) kw3_25 rfl dX5_doLine_1 ?_
  refine v_bipush (pc := 4) (v := 20) C dX5_doLine_4 (by decide) ?_
  refine v_iload_n (pc := 6) C dX5_doLine_6 rfl ?_
  refine v_imulN (pc := 7) C 20 (p) rfl rfl dX5_doLine_7 ?_
  refine v_iload_n (pc := 8) C dX5_doLine_8 rfl ?_
  refine v_iaddN (pc := 9) C (20 * (p)) (l) rfl rfl dX5_doLine_9 ?_
  refine v_ialdN (pc := 10) (i := ((20 * (p)) + (l))) (f := (mA S 0)) C 1 rfl (by omega) (by decide) dX5_doLine_10 ?_
  refine v_cv (y := (8 : Int32)) (ho) ?_
  refine v_istore (pc := 11) C dX5_doLine_11 (by decide) ?_
  refine v_aload_n (pc := 13) C dX5_doLine_13 rfl ?_
  refine v_get (pc := 14) (v := .ref (a 1)) C inX5 0 rfl rfl 1 (by decide) kw3_26 rfl dX5_doLine_14 ?_
  refine v_bipush (pc := 17) (v := 20) C dX5_doLine_17 (by decide) ?_
  refine v_iload_n (pc := 19) C dX5_doLine_19 rfl ?_
  refine v_imulN (pc := 20) C 20 (p) rfl rfl dX5_doLine_20 ?_
  refine v_iload_n (pc := 21) C dX5_doLine_21 rfl ?_
  refine v_iaddN (pc := 22) C (20 * (p)) (l) rfl rfl dX5_doLine_22 ?_
  refine v_ialdN (pc := 23) (i := ((20 * (p)) + (l))) (f := (mA S 1)) C 2 rfl (by omega) (by decide) dX5_doLine_23 ?_
  refine v_cv (y := (nI (x))) (ex) ?_
  refine v_istore (pc := 24) C dX5_doLine_24 (by decide) ?_
  refine v_iload (pc := 26) C dX5_doLine_26 rfl ?_
  refine v_tableOut (pc := 28) (tgt := 357) C dX5_doLine_28 (by decide) (by decide) ?_
  refine v_aload_n (pc := 357) C dX5_doLine_357 rfl ?_
  refine v_iload (pc := 358) C dX5_doLine_358 rfl ?_
  refine v_iload (pc := 360) C dX5_doLine_360 rfl ?_
  refine v_iload (pc := 362) C dX5_doLine_362 rfl ?_
  refine v_iload_n (pc := 364) C dX5_doLine_364 rfl ?_
  refine v_callV0 (pc := 365) (st := []) (q0 := 0) C (kX5_rows_8 G o a S x y mk hr hx hy) ykX5_rows cvX5_rows kw3_188 dX5_doLine_365 rfl rfl rfl rfl rfl (by decide) (Nat.le_of_ble_eq_true rfl) (by decide) rfl (Rv_kk (fun u_365 h_365 => ?_))
  refine v_iload_n (pc := 368) C dX5_doLine_368 rfl ?_
  refine v_iconst (pc := 369) (v := 1) C dX5_doLine_369 (by decide) ?_
  refine v_iaddN (pc := 370) C (l) 1 rfl rfl dX5_doLine_370 ?_
  exact v_iret (pc := 371) C dX5_doLine_371 (rfl) (u_365) rfl (⟨rfl, h_365⟩)
set_option maxHeartbeats 4000000 in
set_option maxRecDepth 100000 in
theorem kX5_doLine_9 (G : TG) (o : Nat) (a : Nat → Nat) (S : MS) (p l : Nat) (mk : Int32) (hp : p < 10) (hl : l < 20) (x : Nat) (ho : mA S 0 (20 * p + l) = 9) (ex : mA S 1 (20 * p + l) = nI x) (hx : x < 2) (y : Nat) (hy : y < 2) (hm : mk &&& 1 = 0) (hr : okr (mA S 7)) : CT G yX5_doLine cX5_doLine 8 (some .int) rmX5_doLine 0 0 [.ref (o), .int (nI (p)), .int (nI (l)), .int (mk), .int (nI (y))] (MW G o a S) (fun S : MS => MW G o a S) (Ri (fun r S' => r = nI (l + 1) ∧ S' = sA S 7 (upd (mA S 7) x (mA S 7 y)))) := by
  refine CT.enter (by decide) (Nat.le_of_ble_eq_true rfl) (fun X C hnm => ?_)
  refine V.less [(0, .ref (o)), (1, .int (nI (p))), (2, .int (nI (l))), (3, .int (mk)), (4, .int (nI (y)))] ⟨rfl, rfl, rfl, rfl, rfl, trivial⟩ ?_
  refine v_aload_n (pc := 0) C dX5_doLine_0 rfl ?_
  refine v_get (pc := 1) (v := .ref (a 0)) C inX5 0 rfl rfl 0 (by decide) kw3_25 rfl dX5_doLine_1 ?_
  refine v_bipush (pc := 4) (v := 20) C dX5_doLine_4 (by decide) ?_
  refine v_iload_n (pc := 6) C dX5_doLine_6 rfl ?_
  refine v_imulN (pc := 7) C 20 (p) rfl rfl dX5_doLine_7 ?_
  refine v_iload_n (pc := 8) C dX5_doLine_8 rfl ?_
  refine v_iaddN (pc := 9) C (20 * (p)) (l) rfl rfl dX5_doLine_9 ?_
  refine v_ialdN (pc := 10) (i := ((20 * (p)) + (l))) (f := (mA S 0)) C 1 rfl (by omega) (by decide) dX5_doLine_10 ?_
  refine v_cv (y := (9 : Int32)) (ho) ?_
  refine v_istore (pc := 11) C dX5_doLine_11 (by decide) ?_
  refine v_aload_n (pc := 13) C dX5_doLine_13 rfl ?_
  refine v_get (pc := 14) (v := .ref (a 1)) C inX5 0 rfl rfl 1 (by decide) kw3_26 rfl dX5_doLine_14 ?_
  refine v_bipush (pc := 17) (v := 20) C dX5_doLine_17 (by decide) ?_
  refine v_iload_n (pc := 19) C dX5_doLine_19 rfl ?_
  refine v_imulN (pc := 20) C 20 (p) rfl rfl dX5_doLine_20 ?_
  refine v_iload_n (pc := 21) C dX5_doLine_21 rfl ?_
  refine v_iaddN (pc := 22) C (20 * (p)) (l) rfl rfl dX5_doLine_22 ?_
  refine v_ialdN (pc := 23) (i := ((20 * (p)) + (l))) (f := (mA S 1)) C 2 rfl (by omega) (by decide) dX5_doLine_23 ?_
  refine v_cv (y := (nI (x))) (ex) ?_
  refine v_istore (pc := 24) C dX5_doLine_24 (by decide) ?_
  refine v_iload (pc := 26) C dX5_doLine_26 rfl ?_
  refine v_tableOut (pc := 28) (tgt := 357) C dX5_doLine_28 (by decide) (by decide) ?_
  refine v_aload_n (pc := 357) C dX5_doLine_357 rfl ?_
  refine v_iload (pc := 358) C dX5_doLine_358 rfl ?_
  refine v_iload (pc := 360) C dX5_doLine_360 rfl ?_
  refine v_iload (pc := 362) C dX5_doLine_362 rfl ?_
  refine v_iload_n (pc := 364) C dX5_doLine_364 rfl ?_
  refine v_callV0 (pc := 365) (st := []) (q0 := 0) C (kX5_rows_9 G o a S x y mk hr hx hy hm) ykX5_rows cvX5_rows kw3_188 dX5_doLine_365 rfl rfl rfl rfl rfl (by decide) (Nat.le_of_ble_eq_true rfl) (by decide) rfl (Rv_kk (fun u_365 h_365 => ?_))
  refine v_iload_n (pc := 368) C dX5_doLine_368 rfl ?_
  refine v_iconst (pc := 369) (v := 1) C dX5_doLine_369 (by decide) ?_
  refine v_iaddN (pc := 370) C (l) 1 rfl rfl dX5_doLine_370 ?_
  exact v_iret (pc := 371) C dX5_doLine_371 (rfl) (u_365) rfl (⟨rfl, h_365⟩)
set_option maxHeartbeats 4000000 in
set_option maxRecDepth 100000 in
theorem kX5_doLine_9s (G : TG) (o : Nat) (a : Nat → Nat) (S : MS) (p l : Nat) (mk : Int32) (hp : p < 10) (hl : l < 20) (x : Nat) (ho : mA S 0 (20 * p + l) = 9) (ex : mA S 1 (20 * p + l) = nI x) (hx : x < 2) (y : Nat) (hy : y < 2) (hm : ¬ mk &&& 1 = 0) (hr : okr (mA S 7)) : CT G yX5_doLine cX5_doLine 8 (some .int) rmX5_doLine 0 0 [.ref (o), .int (nI (p)), .int (nI (l)), .int (mk), .int (nI (y))] (MW G o a S) (fun S : MS => MW G o a S) (Ri (fun r S' => r = nI (l + 1) ∧ S' = sA (sA S 6 (cpk (mA S 6) (tn (mA S 7 y)) (if mA S 7 0 = mA S 7 1 then 1 - tn (mA S 7 y) else tn (mA S 7 x)) 4)) 7 (upd (mA S 7) x (nI (if mA S 7 0 = mA S 7 1 then 1 - tn (mA S 7 y) else tn (mA S 7 x)))))) := by
  refine CT.enter (by decide) (Nat.le_of_ble_eq_true rfl) (fun X C hnm => ?_)
  refine V.less [(0, .ref (o)), (1, .int (nI (p))), (2, .int (nI (l))), (3, .int (mk)), (4, .int (nI (y)))] ⟨rfl, rfl, rfl, rfl, rfl, trivial⟩ ?_
  refine v_aload_n (pc := 0) C dX5_doLine_0 rfl ?_
  refine v_get (pc := 1) (v := .ref (a 0)) C inX5 0 rfl rfl 0 (by decide) kw3_25 rfl dX5_doLine_1 ?_
  refine v_bipush (pc := 4) (v := 20) C dX5_doLine_4 (by decide) ?_
  refine v_iload_n (pc := 6) C dX5_doLine_6 rfl ?_
  refine v_imulN (pc := 7) C 20 (p) rfl rfl dX5_doLine_7 ?_
  refine v_iload_n (pc := 8) C dX5_doLine_8 rfl ?_
  refine v_iaddN (pc := 9) C (20 * (p)) (l) rfl rfl dX5_doLine_9 ?_
  refine v_ialdN (pc := 10) (i := ((20 * (p)) + (l))) (f := (mA S 0)) C 1 rfl (by omega) (by decide) dX5_doLine_10 ?_
  refine v_cv (y := (9 : Int32)) (ho) ?_
  refine v_istore (pc := 11) C dX5_doLine_11 (by decide) ?_
  refine v_aload_n (pc := 13) C dX5_doLine_13 rfl ?_
  refine v_get (pc := 14) (v := .ref (a 1)) C inX5 0 rfl rfl 1 (by decide) kw3_26 rfl dX5_doLine_14 ?_
  refine v_bipush (pc := 17) (v := 20) C dX5_doLine_17 (by decide) ?_
  refine v_iload_n (pc := 19) C dX5_doLine_19 rfl ?_
  refine v_imulN (pc := 20) C 20 (p) rfl rfl dX5_doLine_20 ?_
  refine v_iload_n (pc := 21) C dX5_doLine_21 rfl ?_
  refine v_iaddN (pc := 22) C (20 * (p)) (l) rfl rfl dX5_doLine_22 ?_
  refine v_ialdN (pc := 23) (i := ((20 * (p)) + (l))) (f := (mA S 1)) C 2 rfl (by omega) (by decide) dX5_doLine_23 ?_
  refine v_cv (y := (nI (x))) (ex) ?_
  refine v_istore (pc := 24) C dX5_doLine_24 (by decide) ?_
  refine v_iload (pc := 26) C dX5_doLine_26 rfl ?_
  refine v_tableOut (pc := 28) (tgt := 357) C dX5_doLine_28 (by decide) (by decide) ?_
  refine v_aload_n (pc := 357) C dX5_doLine_357 rfl ?_
  refine v_iload (pc := 358) C dX5_doLine_358 rfl ?_
  refine v_iload (pc := 360) C dX5_doLine_360 rfl ?_
  refine v_iload (pc := 362) C dX5_doLine_362 rfl ?_
  refine v_iload_n (pc := 364) C dX5_doLine_364 rfl ?_
  refine v_callV0 (pc := 365) (st := []) (q0 := 0) C (kX5_rows_9s G o a S x y mk hr hx hy hm) ykX5_rows cvX5_rows kw3_188 dX5_doLine_365 rfl rfl rfl rfl rfl (by decide) (Nat.le_of_ble_eq_true rfl) (by decide) rfl (Rv_kk (fun u_365 h_365 => ?_))
  refine v_iload_n (pc := 368) C dX5_doLine_368 rfl ?_
  refine v_iconst (pc := 369) (v := 1) C dX5_doLine_369 (by decide) ?_
  refine v_iaddN (pc := 370) C (l) 1 rfl rfl dX5_doLine_370 ?_
  exact v_iret (pc := 371) C dX5_doLine_371 (rfl) (u_365) rfl (⟨rfl, h_365⟩)
theorem kX5_doLine (G : TG) (o : Nat) (a : Nat → Nat) (S : MS) (p l n : Nat) (Y : Nat → Int32) (mk : Int32) (hp : p < 10) (hl : l < n) (hok : okp (fun k => mA S 0 (20 * p + k)) (fun k => mA S 1 (20 * p + k)) Y n) (hr : okr (mA S 7)) : CT G yX5_doLine cX5_doLine 8 (some .int) rmX5_doLine 0 0 [.ref o, .int (nI p), .int (nI l), .int mk, .int (Y l)] (MW G o a S) (fun S : MS => MW G o a S) (Ri (fun r S' => r = nI (stS (fun k => mA S 0 (20 * p + k)) (fun k => mA S 1 (20 * p + k)) Y mk (l, mA S 5, mA S 6, mA S 7, mL S)).1 ∧ S' = putR S (stS (fun k => mA S 0 (20 * p + k)) (fun k => mA S 1 (20 * p + k)) Y mk (l, mA S 5, mA S 6, mA S 7, mL S)))) := by
  obtain ⟨hn, hw, h0, hlines⟩ := hok
  have hl20 : l < 20 := by omega
  have hwl : wfd (fun k => mA S 0 (20 * p + k)) (l + 1) := fun k hk => hw k (by omega)
  rcases hlines l hl with ⟨ho, x, hx, ex⟩ | ⟨ho, ⟨x, hx, ex⟩, y, hy, ey⟩ | ⟨ho, ⟨x, hx, ex⟩, y, hy, ey⟩ | ⟨ho, ⟨x, hx, ex⟩, y, hy, ey⟩ | ⟨ho, x, hx, ex⟩ | ⟨ho, ⟨x, hx, ex⟩, y, hy, ey⟩ | ho | ⟨ho, ⟨x, hx, ex⟩, y, hy, ey⟩ | ⟨ho, ⟨x, hx, ex⟩, y, hy, ey⟩ | ⟨ho, ⟨x, hx, ex⟩, y, hy, ey⟩
  · have tx : tn (mA S 1 (20 * p + l)) = x := by rw [show mA S 1 (20 * p + l) = nI x from ex]; exact tn_nI (by omega)
    refine (kX5_doLine_0 G o a S p l mk hp hl20 x ho ex hx (Y l)).monoI (fun r S' h => ?_)
    rw [st_0 (s := (l, mA S 5, mA S 6, mA S 7, mL S)) ho]
    exact ⟨h.1, by rw [h.2]; simp only [tx]; exact putR5 ..⟩
  · have tx : tn (mA S 1 (20 * p + l)) = x := by rw [show mA S 1 (20 * p + l) = nI x from ex]; exact tn_nI (by omega)
    have ty : tn (Y l) = y := by rw [ey]; exact tn_nI (by omega)
    rw [ey]
    refine (kX5_doLine_1 G o a S p l mk hp hl20 x ho ex hx y hy).monoI (fun r S' h => ?_)
    rw [st_1 (s := (l, mA S 5, mA S 6, mA S 7, mL S)) ho]
    exact ⟨h.1, by rw [h.2]; simp only [tx, ty]; exact putR5 ..⟩
  · have tx : tn (mA S 1 (20 * p + l)) = x := by rw [show mA S 1 (20 * p + l) = nI x from ex]; exact tn_nI (by omega)
    have ty : tn (Y l) = y := by rw [ey]; exact tn_nI (by omega)
    rw [ey]
    refine (kX5_doLine_2 G o a S p l mk hp hl20 x ho ex hx y hy).monoI (fun r S' h => ?_)
    rw [st_2 (s := (l, mA S 5, mA S 6, mA S 7, mL S)) ho]
    exact ⟨h.1, by rw [h.2]; simp only [tx, ty]; exact putR5 ..⟩
  · have tx : tn (mA S 1 (20 * p + l)) = x := by rw [show mA S 1 (20 * p + l) = nI x from ex]; exact tn_nI (by omega)
    have ty : tn (Y l) = y := by rw [ey]; exact tn_nI (by omega)
    rw [ey]
    refine (kX5_doLine_3 G o a S p l mk hp hl20 x ho ex hx y hy).monoI (fun r S' h => ?_)
    rw [st_3 (s := (l, mA S 5, mA S 6, mA S 7, mL S)) ho]
    exact ⟨h.1, by rw [h.2]; simp only [tx, ty]; exact putR5 ..⟩
  · have tx : tn (mA S 1 (20 * p + l)) = x := by rw [show mA S 1 (20 * p + l) = nI x from ex]; exact tn_nI (by omega)
    obtain ⟨e, hm, he⟩ := mt_of_open hw h0 hl (Or.inl ho)
    refine (kX5_doLine_4 G o a S p l mk hp hl20 x ho ex hx (Y l) e hm (by omega)).monoI (fun r S' h => ?_)
    rw [st_4 (s := (l, mA S 5, mA S 6, mA S 7, mL S)) ho]
    exact ⟨by rw [h.1]; simp only [tx, hm.E], by rw [h.2]; simp only [tx]; exact putRL ..⟩
  · have tx : tn (mA S 1 (20 * p + l)) = x := by rw [show mA S 1 (20 * p + l) = nI x from ex]; exact tn_nI (by omega)
    have ty : tn (Y l) = y := by rw [ey]; exact tn_nI (by omega)
    obtain ⟨e, hm, he⟩ := mt_of_open hw h0 hl (Or.inr ho)
    rw [ey]
    refine (kX5_doLine_5 G o a S p l mk hp hl20 x ho ex hx y hy e hm (by omega)).monoI (fun r S' h => ?_)
    rw [st_5 (s := (l, mA S 5, mA S 6, mA S 7, mL S)) ho]
    exact ⟨by rw [h.1]; simp only [tx, ty, hm.E], by rw [h.2]; exact putR0 ..⟩
  · obtain ⟨i, hm⟩ := mt_of_end (f := (fun k => mA S 0 (20 * p + k))) ho (hw l hl ho)
    refine (kX5_doLine_6 G o a S p l mk hp hl20 _ ho rfl (Y l) i hm hwl).monoI (fun r S' h => ?_)
    rw [st_6 (s := (l, mA S 5, mA S 6, mA S 7, mL S)) ho]
    simp only [hm.I]
    by_cases h5 : mA S 0 (20 * p + i) = 5
    · rw [if_pos h5]
      exact ⟨(h.1 h5).1, by rw [(h.1 h5).2]; exact putR0 ..⟩
    · rw [if_neg h5]
      exact ⟨(h.2 h5).1, by rw [(h.2 h5).2]; exact putRL ..⟩
  · have tx : tn (mA S 1 (20 * p + l)) = x := by rw [show mA S 1 (20 * p + l) = nI x from ex]; exact tn_nI (by omega)
    have ty : tn (Y l) = y := by rw [ey]; exact tn_nI (by omega)
    rw [ey]
    refine (kX5_doLine_7 G o a S p l mk hp hl20 x ho ex hx y hy hr).monoI (fun r S' h => ?_)
    rw [st_7 (s := (l, mA S 5, mA S 6, mA S 7, mL S)) ho]
    exact ⟨h.1, by rw [h.2]; simp only [tx, ty]; exact putR6 ..⟩
  · have tx : tn (mA S 1 (20 * p + l)) = x := by rw [show mA S 1 (20 * p + l) = nI x from ex]; exact tn_nI (by omega)
    have ty : tn (Y l) = y := by rw [ey]; exact tn_nI (by omega)
    rw [ey]
    refine (kX5_doLine_8 G o a S p l mk hp hl20 x ho ex hx y hy hr).monoI (fun r S' h => ?_)
    rw [st_8 (s := (l, mA S 5, mA S 6, mA S 7, mL S)) ho]
    exact ⟨h.1, by rw [h.2]; simp only [tx, ty]; exact putR5 ..⟩
  · have tx : tn (mA S 1 (20 * p + l)) = x := by rw [show mA S 1 (20 * p + l) = nI x from ex]; exact tn_nI (by omega)
    have ty : tn (Y l) = y := by rw [ey]; exact tn_nI (by omega)
    rw [ey]
    by_cases hm : mk &&& 1 = 0
    · refine (kX5_doLine_9 G o a S p l mk hp hl20 x ho ex hx y hy hm hr).monoI (fun r S' h => ?_)
      rw [st_9 (s := (l, mA S 5, mA S 6, mA S 7, mL S)) ho, if_pos hm]
      exact ⟨h.1, by rw [h.2]; simp only [tx, ty]; exact putR7 ..⟩
    · refine (kX5_doLine_9s G o a S p l mk hp hl20 x ho ex hx y hy hm hr).monoI (fun r S' h => ?_)
      rw [st_9 (s := (l, mA S 5, mA S 6, mA S 7, mL S)) ho, if_neg hm]
      exact ⟨h.1, by rw [h.2]; simp only [tx, ty]; exact putR67 ..⟩
