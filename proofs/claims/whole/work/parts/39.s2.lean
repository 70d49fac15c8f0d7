/-! the class: the rest of its small classes -/
def mZ : MS := (fun _ => 0, fun _ _ => 0, fun _ => 0)
/-- two ends are alike in their variables -/
def evP (S T : MS) : Prop := (mI S 8 = 0 ↔ mI T 8 = 0) ∧ (mI S 8 = 0 → ∀ k, k < 4 → mA S 0 k = mA T 0 k)
/-- and in their cells -/
def elP (S T : MS) : Prop := evP S T ∧ (mI S 8 = 0 → ∀ w, w < 8 → kCell S w = kCell T w)
def rmX0_init : Room := { frames := 1, cells := 5, slots := 54, locals := 20 }
set_option maxHeartbeats 4000000 in
set_option maxRecDepth 100000 in
theorem kX0_init (G : TG) (o : Nat)  : CT G yX0_init cX0_init 1 none rmX0_init 5 54 [.ref (o)] [(o, .inr (0, [.null, .null, .null, .null, .null, .int 0, .int 0, .int 0, .int 0]))] (fun u : Nat → Nat => KWd G o u mZ) (Rv (fun _ => True)) := by
  refine CT.enter (by decide) (Nat.le_of_ble_eq_true rfl) (fun X C hnm => ?_)
  refine V.less [(0, .ref (o))] ⟨rfl, trivial⟩ ?_
  generalize hQ : (QX G X (fun u : Nat → Nat => KWd G o u mZ) (Rv (fun _ => True)) 5 54) = Qq
  refine v_aload_n (pc := 0) C dX0_init_0 rfl ?_
  refine v_objInit (pc := 1) C kw1_30 kw1_17 kw1_18 dX0_init_1 (by decide) (by decide) ?_
  refine v_aload_n (pc := 4) C dX0_init_4 rfl ?_
  refine v_iconst (pc := 5) (v := 4) C dX0_init_5 (by decide) ?_
  refine v_newa (pc := 6) (ty := .int) (t0 := 0) (a0 := (4, .inl (fun _ => 0))) C rfl kw1_64 rfl (fun _ h => by cases h) (fun _ => rfl) (by decide) rfl (by decide) (Nat.le_of_ble_eq_true rfl) (Nat.le_of_ble_eq_true rfl) dX0_init_6 (fun q_6 => ?_)
  refine V.same (ws' := [(o, .inr (0, [.null, .null, .null, .null, .null, .int 0, .int 0, .int 0, .int 0])), (q_6, .inl (gy G 0, 4, .inl (fun _ => 0)))]) rfl ?_
  refine v_putF (pc := 8) C inX0 tyX0 tyX0_ok nmX0 0 rfl rfl 0 (by decide) kw1_31 rfl hnm rfl rfl rfl (Nat.le_of_ble_eq_true rfl) dX0_init_8 (ws' := [(o, .inr (0, [.ref (q_6), .null, .null, .null, .null, .int 0, .int 0, .int 0, .int 0])), (q_6, .inl (gy G 0, 4, .inl (fun _ => 0)))]) rfl ?_
  refine v_aload_n (pc := 11) C dX0_init_11 rfl ?_
  refine v_bipush (pc := 12) (v := 8) C dX0_init_12 (by decide) ?_
  refine v_newa (pc := 14) (ty := .int) (t0 := 0) (a0 := (8, .inl (fun _ => 0))) C rfl kw1_64 rfl (fun _ h => by cases h) (fun _ => rfl) (by decide) rfl (by decide) (Nat.le_of_ble_eq_true rfl) (Nat.le_of_ble_eq_true rfl) dX0_init_14 (fun q_14 => ?_)
  refine V.same (ws' := [(o, .inr (0, [.ref (q_6), .null, .null, .null, .null, .int 0, .int 0, .int 0, .int 0])), (q_6, .inl (gy G 0, 4, .inl (fun _ => 0))), (q_14, .inl (gy G 0, 8, .inl (fun _ => 0)))]) rfl ?_
  refine v_putF (pc := 16) C inX0 tyX0 tyX0_ok nmX0 0 rfl rfl 1 (by decide) kw1_33 rfl hnm rfl rfl rfl (Nat.le_of_ble_eq_true rfl) dX0_init_16 (ws' := [(o, .inr (0, [.ref (q_6), .ref (q_14), .null, .null, .null, .int 0, .int 0, .int 0, .int 0])), (q_6, .inl (gy G 0, 4, .inl (fun _ => 0))), (q_14, .inl (gy G 0, 8, .inl (fun _ => 0)))]) rfl ?_
  refine v_aload_n (pc := 19) C dX0_init_19 rfl ?_
  refine v_iconst (pc := 20) (v := 2) C dX0_init_20 (by decide) ?_
  refine v_newa (pc := 21) (ty := .int) (t0 := 0) (a0 := (2, .inl (fun _ => 0))) C rfl kw1_64 rfl (fun _ h => by cases h) (fun _ => rfl) (by decide) rfl (by decide) (Nat.le_of_ble_eq_true rfl) (Nat.le_of_ble_eq_true rfl) dX0_init_21 (fun q_21 => ?_)
  refine V.same (ws' := [(o, .inr (0, [.ref (q_6), .ref (q_14), .null, .null, .null, .int 0, .int 0, .int 0, .int 0])), (q_6, .inl (gy G 0, 4, .inl (fun _ => 0))), (q_14, .inl (gy G 0, 8, .inl (fun _ => 0))), (q_21, .inl (gy G 0, 2, .inl (fun _ => 0)))]) rfl ?_
  refine v_putF (pc := 23) C inX0 tyX0 tyX0_ok nmX0 0 rfl rfl 2 (by decide) kw1_34 rfl hnm rfl rfl rfl (Nat.le_of_ble_eq_true rfl) dX0_init_23 (ws' := [(o, .inr (0, [.ref (q_6), .ref (q_14), .ref (q_21), .null, .null, .int 0, .int 0, .int 0, .int 0])), (q_6, .inl (gy G 0, 4, .inl (fun _ => 0))), (q_14, .inl (gy G 0, 8, .inl (fun _ => 0))), (q_21, .inl (gy G 0, 2, .inl (fun _ => 0)))]) rfl ?_
  refine v_aload_n (pc := 26) C dX0_init_26 rfl ?_
  refine v_bipush (pc := 27) (v := 20) C dX0_init_27 (by decide) ?_
  refine v_newa (pc := 29) (ty := .int) (t0 := 0) (a0 := (20, .inl (fun _ => 0))) C rfl kw1_64 rfl (fun _ h => by cases h) (fun _ => rfl) (by decide) rfl (by decide) (Nat.le_of_ble_eq_true rfl) (Nat.le_of_ble_eq_true rfl) dX0_init_29 (fun q_29 => ?_)
  refine V.same (ws' := [(o, .inr (0, [.ref (q_6), .ref (q_14), .ref (q_21), .null, .null, .int 0, .int 0, .int 0, .int 0])), (q_6, .inl (gy G 0, 4, .inl (fun _ => 0))), (q_14, .inl (gy G 0, 8, .inl (fun _ => 0))), (q_21, .inl (gy G 0, 2, .inl (fun _ => 0))), (q_29, .inl (gy G 0, 20, .inl (fun _ => 0)))]) rfl ?_
  refine v_putF (pc := 31) C inX0 tyX0 tyX0_ok nmX0 0 rfl rfl 3 (by decide) kw1_35 rfl hnm rfl rfl rfl (Nat.le_of_ble_eq_true rfl) dX0_init_31 (ws' := [(o, .inr (0, [.ref (q_6), .ref (q_14), .ref (q_21), .ref (q_29), .null, .int 0, .int 0, .int 0, .int 0])), (q_6, .inl (gy G 0, 4, .inl (fun _ => 0))), (q_14, .inl (gy G 0, 8, .inl (fun _ => 0))), (q_21, .inl (gy G 0, 2, .inl (fun _ => 0))), (q_29, .inl (gy G 0, 20, .inl (fun _ => 0)))]) rfl ?_
  refine v_aload_n (pc := 34) C dX0_init_34 rfl ?_
  refine v_bipush (pc := 35) (v := 20) C dX0_init_35 (by decide) ?_
  refine v_newa (pc := 37) (ty := .long) (t0 := 1) (a0 := (20, .inr (.inl (fun _ => 0)))) C rfl kw1_65 rfl (fun _ h => by cases h) (fun _ => rfl) (by decide) rfl (by decide) (Nat.le_of_ble_eq_true rfl) (Nat.le_of_ble_eq_true rfl) dX0_init_37 (fun q_37 => ?_)
  refine V.same (ws' := [(o, .inr (0, [.ref (q_6), .ref (q_14), .ref (q_21), .ref (q_29), .null, .int 0, .int 0, .int 0, .int 0])), (q_6, .inl (gy G 0, 4, .inl (fun _ => 0))), (q_14, .inl (gy G 0, 8, .inl (fun _ => 0))), (q_21, .inl (gy G 0, 2, .inl (fun _ => 0))), (q_29, .inl (gy G 0, 20, .inl (fun _ => 0))), (q_37, .inl (gy G 1, 20, .inr (.inl (fun _ => 0))))]) rfl ?_
  refine v_putF (pc := 39) C inX0 tyX0 tyX0_ok nmX0 0 rfl rfl 4 (by decide) kw1_37 rfl hnm rfl rfl rfl (Nat.le_of_ble_eq_true rfl) dX0_init_39 (ws' := [(o, .inr (0, [.ref (q_6), .ref (q_14), .ref (q_21), .ref (q_29), .ref (q_37), .int 0, .int 0, .int 0, .int 0])), (q_6, .inl (gy G 0, 4, .inl (fun _ => 0))), (q_14, .inl (gy G 0, 8, .inl (fun _ => 0))), (q_21, .inl (gy G 0, 2, .inl (fun _ => 0))), (q_29, .inl (gy G 0, 20, .inl (fun _ => 0))), (q_37, .inl (gy G 1, 20, .inr (.inl (fun _ => 0))))]) rfl ?_
  subst hQ
  exact v_vret (pc := 42) C dX0_init_42 ((fun k => [q_6, q_14, q_21, q_29, q_37].getD k 0)) rfl (trivial)
def rmX1_init : Room := { frames := 1, cells := 6, slots := 120, locals := 20 }
set_option maxHeartbeats 4000000 in
set_option maxRecDepth 100000 in
theorem kX1_init (G : TG) (o : Nat)  : CT G yX1_init cX1_init 1 none rmX1_init 6 120 [.ref (o)] [(o, .inr (1, [.null, .null, .null, .null, .null, .null, .int 0, .int 0, .int 0]))] (fun u : Nat → Nat => PWd G o u mZ) (Rv (fun _ => True)) := by
  refine CT.enter (by decide) (Nat.le_of_ble_eq_true rfl) (fun X C hnm => ?_)
  refine V.less [(0, .ref (o))] ⟨rfl, trivial⟩ ?_
  generalize hQ : (QX G X (fun u : Nat → Nat => PWd G o u mZ) (Rv (fun _ => True)) 6 120) = Qq
  refine v_aload_n (pc := 0) C dX1_init_0 rfl ?_
  refine v_objInit (pc := 1) C kw1_145 kw1_17 kw1_18 dX1_init_1 (by decide) (by decide) ?_
  refine v_aload_n (pc := 4) C dX1_init_4 rfl ?_
  refine v_bipush (pc := 5) (v := 20) C dX1_init_5 (by decide) ?_
  refine v_newa (pc := 7) (ty := .int) (t0 := 0) (a0 := (20, .inl (fun _ => 0))) C rfl kw1_64 rfl (fun _ h => by cases h) (fun _ => rfl) (by decide) rfl (by decide) (Nat.le_of_ble_eq_true rfl) (Nat.le_of_ble_eq_true rfl) dX1_init_7 (fun q_7 => ?_)
  refine V.same (ws' := [(o, .inr (1, [.null, .null, .null, .null, .null, .null, .int 0, .int 0, .int 0])), (q_7, .inl (gy G 0, 20, .inl (fun _ => 0)))]) rfl ?_
  refine v_putF (pc := 9) C inX1 tyX1 tyX1_ok nmX1 0 rfl rfl 0 (by decide) kw1_146 rfl hnm rfl rfl rfl (Nat.le_of_ble_eq_true rfl) dX1_init_9 (ws' := [(o, .inr (1, [.ref (q_7), .null, .null, .null, .null, .null, .int 0, .int 0, .int 0])), (q_7, .inl (gy G 0, 20, .inl (fun _ => 0)))]) rfl ?_
  refine v_aload_n (pc := 12) C dX1_init_12 rfl ?_
  refine v_bipush (pc := 13) (v := 20) C dX1_init_13 (by decide) ?_
  refine v_newa (pc := 15) (ty := .int) (t0 := 0) (a0 := (20, .inl (fun _ => 0))) C rfl kw1_64 rfl (fun _ h => by cases h) (fun _ => rfl) (by decide) rfl (by decide) (Nat.le_of_ble_eq_true rfl) (Nat.le_of_ble_eq_true rfl) dX1_init_15 (fun q_15 => ?_)
  refine V.same (ws' := [(o, .inr (1, [.ref (q_7), .null, .null, .null, .null, .null, .int 0, .int 0, .int 0])), (q_7, .inl (gy G 0, 20, .inl (fun _ => 0))), (q_15, .inl (gy G 0, 20, .inl (fun _ => 0)))]) rfl ?_
  refine v_putF (pc := 17) C inX1 tyX1 tyX1_ok nmX1 0 rfl rfl 1 (by decide) kw1_149 rfl hnm rfl rfl rfl (Nat.le_of_ble_eq_true rfl) dX1_init_17 (ws' := [(o, .inr (1, [.ref (q_7), .ref (q_15), .null, .null, .null, .null, .int 0, .int 0, .int 0])), (q_7, .inl (gy G 0, 20, .inl (fun _ => 0))), (q_15, .inl (gy G 0, 20, .inl (fun _ => 0)))]) rfl ?_
  refine v_aload_n (pc := 20) C dX1_init_20 rfl ?_
  refine v_bipush (pc := 21) (v := 20) C dX1_init_21 (by decide) ?_
  refine v_newa (pc := 23) (ty := .int) (t0 := 0) (a0 := (20, .inl (fun _ => 0))) C rfl kw1_64 rfl (fun _ h => by cases h) (fun _ => rfl) (by decide) rfl (by decide) (Nat.le_of_ble_eq_true rfl) (Nat.le_of_ble_eq_true rfl) dX1_init_23 (fun q_23 => ?_)
  refine V.same (ws' := [(o, .inr (1, [.ref (q_7), .ref (q_15), .null, .null, .null, .null, .int 0, .int 0, .int 0])), (q_7, .inl (gy G 0, 20, .inl (fun _ => 0))), (q_15, .inl (gy G 0, 20, .inl (fun _ => 0))), (q_23, .inl (gy G 0, 20, .inl (fun _ => 0)))]) rfl ?_
  refine v_putF (pc := 25) C inX1 tyX1 tyX1_ok nmX1 0 rfl rfl 2 (by decide) kw1_152 rfl hnm rfl rfl rfl (Nat.le_of_ble_eq_true rfl) dX1_init_25 (ws' := [(o, .inr (1, [.ref (q_7), .ref (q_15), .ref (q_23), .null, .null, .null, .int 0, .int 0, .int 0])), (q_7, .inl (gy G 0, 20, .inl (fun _ => 0))), (q_15, .inl (gy G 0, 20, .inl (fun _ => 0))), (q_23, .inl (gy G 0, 20, .inl (fun _ => 0)))]) rfl ?_
  refine v_aload_n (pc := 28) C dX1_init_28 rfl ?_
  refine v_bipush (pc := 29) (v := 20) C dX1_init_29 (by decide) ?_
  refine v_newa (pc := 31) (ty := .int) (t0 := 0) (a0 := (20, .inl (fun _ => 0))) C rfl kw1_64 rfl (fun _ h => by cases h) (fun _ => rfl) (by decide) rfl (by decide) (Nat.le_of_ble_eq_true rfl) (Nat.le_of_ble_eq_true rfl) dX1_init_31 (fun q_31 => ?_)
  refine V.same (ws' := [(o, .inr (1, [.ref (q_7), .ref (q_15), .ref (q_23), .null, .null, .null, .int 0, .int 0, .int 0])), (q_7, .inl (gy G 0, 20, .inl (fun _ => 0))), (q_15, .inl (gy G 0, 20, .inl (fun _ => 0))), (q_23, .inl (gy G 0, 20, .inl (fun _ => 0))), (q_31, .inl (gy G 0, 20, .inl (fun _ => 0)))]) rfl ?_
  refine v_putF (pc := 33) C inX1 tyX1 tyX1_ok nmX1 0 rfl rfl 3 (by decide) kw1_155 rfl hnm rfl rfl rfl (Nat.le_of_ble_eq_true rfl) dX1_init_33 (ws' := [(o, .inr (1, [.ref (q_7), .ref (q_15), .ref (q_23), .ref (q_31), .null, .null, .int 0, .int 0, .int 0])), (q_7, .inl (gy G 0, 20, .inl (fun _ => 0))), (q_15, .inl (gy G 0, 20, .inl (fun _ => 0))), (q_23, .inl (gy G 0, 20, .inl (fun _ => 0))), (q_31, .inl (gy G 0, 20, .inl (fun _ => 0)))]) rfl ?_
  refine v_aload_n (pc := 36) C dX1_init_36 rfl ?_
  refine v_bipush (pc := 37) (v := 20) C dX1_init_37 (by decide) ?_
  refine v_newa (pc := 39) (ty := .int) (t0 := 0) (a0 := (20, .inl (fun _ => 0))) C rfl kw1_64 rfl (fun _ h => by cases h) (fun _ => rfl) (by decide) rfl (by decide) (Nat.le_of_ble_eq_true rfl) (Nat.le_of_ble_eq_true rfl) dX1_init_39 (fun q_39 => ?_)
  refine V.same (ws' := [(o, .inr (1, [.ref (q_7), .ref (q_15), .ref (q_23), .ref (q_31), .null, .null, .int 0, .int 0, .int 0])), (q_7, .inl (gy G 0, 20, .inl (fun _ => 0))), (q_15, .inl (gy G 0, 20, .inl (fun _ => 0))), (q_23, .inl (gy G 0, 20, .inl (fun _ => 0))), (q_31, .inl (gy G 0, 20, .inl (fun _ => 0))), (q_39, .inl (gy G 0, 20, .inl (fun _ => 0)))]) rfl ?_
  refine v_putF (pc := 41) C inX1 tyX1 tyX1_ok nmX1 0 rfl rfl 4 (by decide) kw1_157 rfl hnm rfl rfl rfl (Nat.le_of_ble_eq_true rfl) dX1_init_41 (ws' := [(o, .inr (1, [.ref (q_7), .ref (q_15), .ref (q_23), .ref (q_31), .ref (q_39), .null, .int 0, .int 0, .int 0])), (q_7, .inl (gy G 0, 20, .inl (fun _ => 0))), (q_15, .inl (gy G 0, 20, .inl (fun _ => 0))), (q_23, .inl (gy G 0, 20, .inl (fun _ => 0))), (q_31, .inl (gy G 0, 20, .inl (fun _ => 0))), (q_39, .inl (gy G 0, 20, .inl (fun _ => 0)))]) rfl ?_
  refine v_aload_n (pc := 44) C dX1_init_44 rfl ?_
  refine v_bipush (pc := 45) (v := 20) C dX1_init_45 (by decide) ?_
  refine v_newa (pc := 47) (ty := .int) (t0 := 0) (a0 := (20, .inl (fun _ => 0))) C rfl kw1_64 rfl (fun _ h => by cases h) (fun _ => rfl) (by decide) rfl (by decide) (Nat.le_of_ble_eq_true rfl) (Nat.le_of_ble_eq_true rfl) dX1_init_47 (fun q_47 => ?_)
  refine V.same (ws' := [(o, .inr (1, [.ref (q_7), .ref (q_15), .ref (q_23), .ref (q_31), .ref (q_39), .null, .int 0, .int 0, .int 0])), (q_7, .inl (gy G 0, 20, .inl (fun _ => 0))), (q_15, .inl (gy G 0, 20, .inl (fun _ => 0))), (q_23, .inl (gy G 0, 20, .inl (fun _ => 0))), (q_31, .inl (gy G 0, 20, .inl (fun _ => 0))), (q_39, .inl (gy G 0, 20, .inl (fun _ => 0))), (q_47, .inl (gy G 0, 20, .inl (fun _ => 0)))]) rfl ?_
  refine v_putF (pc := 49) C inX1 tyX1 tyX1_ok nmX1 0 rfl rfl 5 (by decide) kw1_159 rfl hnm rfl rfl rfl (Nat.le_of_ble_eq_true rfl) dX1_init_49 (ws' := [(o, .inr (1, [.ref (q_7), .ref (q_15), .ref (q_23), .ref (q_31), .ref (q_39), .ref (q_47), .int 0, .int 0, .int 0])), (q_7, .inl (gy G 0, 20, .inl (fun _ => 0))), (q_15, .inl (gy G 0, 20, .inl (fun _ => 0))), (q_23, .inl (gy G 0, 20, .inl (fun _ => 0))), (q_31, .inl (gy G 0, 20, .inl (fun _ => 0))), (q_39, .inl (gy G 0, 20, .inl (fun _ => 0))), (q_47, .inl (gy G 0, 20, .inl (fun _ => 0)))]) rfl ?_
  subst hQ
  exact v_vret (pc := 52) C dX1_init_52 ((fun k => [q_7, q_15, q_23, q_31, q_39, q_47].getD k 0)) rfl (trivial)
def rmX2_init : Room := { frames := 1, cells := 1, slots := 60, locals := 20 }
set_option maxHeartbeats 4000000 in
set_option maxRecDepth 100000 in
theorem kX2_init (G : TG) (o : Nat)  : CT G yX2_init cX2_init 1 none rmX2_init 1 60 [.ref (o)] [(o, .inr (2, [.null, .long ((0 : Int64))]))] (fun u : Nat → Nat => UWd G o u mZ) (Rv (fun _ => True)) := by
  refine CT.enter (by decide) (Nat.le_of_ble_eq_true rfl) (fun X C hnm => ?_)
  refine V.less [(0, .ref (o))] ⟨rfl, trivial⟩ ?_
  generalize hQ : (QX G X (fun u : Nat → Nat => UWd G o u mZ) (Rv (fun _ => True)) 1 60) = Qq
  refine v_aload_n (pc := 0) C dX2_init_0 rfl ?_
  refine v_objInit (pc := 1) C kw1_70 kw1_17 kw1_18 dX2_init_1 (by decide) (by decide) ?_
  refine v_aload_n (pc := 4) C dX2_init_4 rfl ?_
  refine v_bipush (pc := 5) (v := 60) C dX2_init_5 (by decide) ?_
  refine v_newa (pc := 7) (ty := .int) (t0 := 0) (a0 := (60, .inl (fun _ => 0))) C rfl kw1_64 rfl (fun _ h => by cases h) (fun _ => rfl) (by decide) rfl (by decide) (Nat.le_of_ble_eq_true rfl) (Nat.le_of_ble_eq_true rfl) dX2_init_7 (fun q_7 => ?_)
  refine V.same (ws' := [(o, .inr (2, [.null, .long ((0 : Int64))])), (q_7, .inl (gy G 0, 60, .inl (fun _ => 0)))]) rfl ?_
  refine v_putF (pc := 9) C inX2 tyX2 tyX2_ok nmX2 0 rfl rfl 0 (by decide) kw1_71 rfl hnm rfl rfl rfl (Nat.le_of_ble_eq_true rfl) dX2_init_9 (ws' := [(o, .inr (2, [.ref (q_7), .long ((0 : Int64))])), (q_7, .inl (gy G 0, 60, .inl (fun _ => 0)))]) rfl ?_
  subst hQ
  exact v_vret (pc := 12) C dX2_init_12 ((fun k => [q_7].getD k 0)) rfl (trivial)
def rmX3_init : Room := { frames := 1, cells := 1, slots := 64, locals := 20 }
set_option maxHeartbeats 4000000 in
set_option maxRecDepth 100000 in
theorem kX3_init (G : TG) (o : Nat) (p : Nat) (x y z : Int32) : CT G yX3_init cX3_init 5 none rmX3_init 1 64 [.ref (o), .ref (p), .int (x), .int (y), .int (z)] [(o, .inr (3, [.null, .int 0, .int 0, .int 0, .null, .long ((0 : Int64))]))] (fun u : Nat → Nat => QWd G o u p ((fun k => if k = 1 then x else if k = 2 then y else z), (fun _ _ => 0), (fun _ => 0))) (Rv (fun _ => True)) := by
  refine CT.enter (by decide) (Nat.le_of_ble_eq_true rfl) (fun X C hnm => ?_)
  refine V.less [(0, .ref (o)), (1, .ref (p)), (2, .int (x)), (3, .int (y)), (4, .int (z))] ⟨rfl, rfl, rfl, rfl, rfl, trivial⟩ ?_
  generalize hQ : (QX G X (fun u : Nat → Nat => QWd G o u p ((fun k => if k = 1 then x else if k = 2 then y else z), (fun _ _ => 0), (fun _ => 0))) (Rv (fun _ => True)) 1 64) = Qq
  refine v_aload_n (pc := 0) C dX3_init_0 rfl ?_
  refine v_objInit (pc := 1) C kw2_59 kw1_17 kw1_18 dX3_init_1 (by decide) (by decide) ?_
  refine v_aload_n (pc := 4) C dX3_init_4 rfl ?_
  refine v_bipush (pc := 5) (v := 64) C dX3_init_5 (by decide) ?_
  refine v_newa (pc := 7) (ty := .int) (t0 := 0) (a0 := (64, .inl (fun _ => 0))) C rfl kw1_64 rfl (fun _ h => by cases h) (fun _ => rfl) (by decide) rfl (by decide) (Nat.le_of_ble_eq_true rfl) (Nat.le_of_ble_eq_true rfl) dX3_init_7 (fun q_7 => ?_)
  refine V.same (ws' := [(o, .inr (3, [.null, .int 0, .int 0, .int 0, .null, .long ((0 : Int64))])), (q_7, .inl (gy G 0, 64, .inl (fun _ => 0)))]) rfl ?_
  refine v_putF (pc := 9) C inX3 tyX3 tyX3_ok nmX3 0 rfl rfl 4 (by decide) kw2_68 rfl hnm rfl rfl rfl (Nat.le_of_ble_eq_true rfl) dX3_init_9 (ws' := [(o, .inr (3, [.null, .int 0, .int 0, .int 0, .ref (q_7), .long ((0 : Int64))])), (q_7, .inl (gy G 0, 64, .inl (fun _ => 0)))]) rfl ?_
  refine v_aload_n (pc := 12) C dX3_init_12 rfl ?_
  refine v_aload_n (pc := 13) C dX3_init_13 rfl ?_
  refine v_putF (pc := 14) C inX3 tyX3 tyX3_ok nmX3 0 rfl rfl 0 (by decide) kw2_60 rfl hnm rfl rfl rfl (Nat.le_of_ble_eq_true rfl) dX3_init_14 (ws' := [(o, .inr (3, [.ref (p), .int 0, .int 0, .int 0, .ref (q_7), .long ((0 : Int64))])), (q_7, .inl (gy G 0, 64, .inl (fun _ => 0)))]) rfl ?_
  refine v_aload_n (pc := 17) C dX3_init_17 rfl ?_
  refine v_iload_n (pc := 18) C dX3_init_18 rfl ?_
  refine v_putF (pc := 19) C inX3 tyX3 tyX3_ok nmX3 0 rfl rfl 1 (by decide) kw2_62 rfl hnm rfl rfl rfl (Nat.le_of_ble_eq_true rfl) dX3_init_19 (ws' := [(o, .inr (3, [.ref (p), .int (x), .int 0, .int 0, .ref (q_7), .long ((0 : Int64))])), (q_7, .inl (gy G 0, 64, .inl (fun _ => 0)))]) rfl ?_
  refine v_aload_n (pc := 22) C dX3_init_22 rfl ?_
  refine v_iload_n (pc := 23) C dX3_init_23 rfl ?_
  refine v_putF (pc := 24) C inX3 tyX3 tyX3_ok nmX3 0 rfl rfl 2 (by decide) kw2_64 rfl hnm rfl rfl rfl (Nat.le_of_ble_eq_true rfl) dX3_init_24 (ws' := [(o, .inr (3, [.ref (p), .int (x), .int (y), .int 0, .ref (q_7), .long ((0 : Int64))])), (q_7, .inl (gy G 0, 64, .inl (fun _ => 0)))]) rfl ?_
  refine v_aload_n (pc := 27) C dX3_init_27 rfl ?_
  refine v_iload (pc := 28) C dX3_init_28 rfl ?_
  refine v_putF (pc := 30) C inX3 tyX3 tyX3_ok nmX3 0 rfl rfl 3 (by decide) kw2_66 rfl hnm rfl rfl rfl (Nat.le_of_ble_eq_true rfl) dX3_init_30 (ws' := [(o, .inr (3, [.ref (p), .int (x), .int (y), .int (z), .ref (q_7), .long ((0 : Int64))])), (q_7, .inl (gy G 0, 64, .inl (fun _ => 0)))]) rfl ?_
  subst hQ
  exact v_vret (pc := 33) C dX3_init_33 ((fun k => [0, 0, 0, 0, q_7].getD k 0)) rfl (trivial)
def rmX0_endsWithVariablesOf : Room := { frames := 0, cells := 0, slots := 0, locals := 0 }
set_option maxHeartbeats 4000000 in
set_option maxRecDepth 100000 in
theorem kX0_endsWithVariablesOf (G : TG) (o j : Nat) (b d : Nat → Nat) (S T : MS)  : CT G yX0_endsWithVariablesOf cX0_endsWithVariablesOf 3 (some .boolean) rmX0_endsWithVariablesOf 0 0 [.ref (o), .ref (j)] (KWd G o b S ++ (KWd G j d T)) (fun u : MS × MS => KWd G o b u.1 ++ KWd G j d u.2) (Ri (fun r u => u = (S, T) ∧ ((r = 1 ∧ evP S T) ∨ (r = 0 ∧ ¬ (evP S T))))) := by
  refine CT.enter (by decide) (Nat.le_of_ble_eq_true rfl) (fun X C hnm => ?_)
  refine V.less [(0, .ref (o)), (1, .ref (j))] ⟨rfl, rfl, trivial⟩ ?_
  generalize hQ : (QX G X (fun u : MS × MS => KWd G o b u.1 ++ KWd G j d u.2) (Ri (fun r u => u = (S, T) ∧ ((r = 1 ∧ evP S T) ∨ (r = 0 ∧ ¬ (evP S T))))) 0 0) = Qq
  refine v_aload_n (pc := 0) C dX0_endsWithVariablesOf_0 rfl ?_
  refine v_get (pc := 1) (v := .int (mI S 8)) C inX0 0 rfl rfl 8 (by decide) kw1_43 rfl dX0_endsWithVariablesOf_1 ?_
  refine v_if_ne (pc := 4) (tgt := 14) C dX0_endsWithVariablesOf_4 (by decide) (fun c_4 => ?_) (fun c_4 => ?_)
  · refine v_aload_n (pc := 14) C dX0_endsWithVariablesOf_14 rfl ?_
    refine v_get (pc := 15) (v := .int (mI S 8)) C inX0 0 rfl rfl 8 (by decide) kw1_43 rfl dX0_endsWithVariablesOf_15 ?_
    refine v_if_eq (pc := 18) (tgt := 32) C dX0_endsWithVariablesOf_18 (by decide) (fun c_18 => ?_) (fun c_18 => ?_)
    · refine v_iconst (pc := 32) (v := 0) C dX0_endsWithVariablesOf_32 (by decide) ?_
      subst hQ
      exact v_iret (pc := 33) C dX0_endsWithVariablesOf_33 (rfl) ((S, T)) rfl (absurd c_18 c_4)
    · refine v_aload_n (pc := 21) C dX0_endsWithVariablesOf_21 rfl ?_
      refine v_get (pc := 22) (v := .int (mI T 8)) C inX0 6 rfl rfl 8 (by decide) kw1_43 rfl dX0_endsWithVariablesOf_22 ?_
      refine v_if_eq (pc := 25) (tgt := 32) C dX0_endsWithVariablesOf_25 (by decide) (fun c_25 => ?_) (fun c_25 => ?_)
      · refine v_iconst (pc := 32) (v := 0) C dX0_endsWithVariablesOf_32 (by decide) ?_
        subst hQ
        exact v_iret (pc := 33) C dX0_endsWithVariablesOf_33 (rfl) ((S, T)) rfl (⟨rfl, Or.inr ⟨rfl, fun h => c_4 (h.1.mpr c_25)⟩⟩)
      · refine v_iconst (pc := 28) (v := 1) C dX0_endsWithVariablesOf_28 (by decide) ?_
        refine v_goto (pc := 29) (tgt := 33) C dX0_endsWithVariablesOf_29 (by decide) ?_
        subst hQ
        exact v_iret (pc := 33) C dX0_endsWithVariablesOf_33 (rfl) ((S, T)) rfl (⟨rfl, Or.inl ⟨rfl, ⟨fun h => absurd h c_4, fun h => absurd h c_25⟩, fun h => absurd h c_4⟩⟩)
  · refine v_aload_n (pc := 7) C dX0_endsWithVariablesOf_7 rfl ?_
    refine v_get (pc := 8) (v := .int (mI T 8)) C inX0 6 rfl rfl 8 (by decide) kw1_43 rfl dX0_endsWithVariablesOf_8 ?_
    refine v_if_eq (pc := 11) (tgt := 34) C dX0_endsWithVariablesOf_11 (by decide) (fun c_11 => ?_) (fun c_11 => ?_)
    · refine v_iconst (pc := 34) (v := 0) C dX0_endsWithVariablesOf_34 (by decide) ?_
      refine v_istore_n (pc := 35) C dX0_endsWithVariablesOf_35 (by decide) ?_
      have L36 : ∀ (fu : Nat) (κ : Nat), (4 < κ + fu) → (κ ≤ 4) → (∀ z, z < κ → mA S 0 z = mA T 0 z) → V G X cX0_endsWithVariablesOf 3 rmX0_endsWithVariablesOf Qq 0 0 36 (lvo [(0, .ref (o)), (1, .ref (j)), (2, .int (nI (κ)))]) [] (KWd G o b S ++ (KWd G j d T)) := by
        intro fu
        induction fu with
        | zero => intro κ hφ hκ hα; exfalso; omega
        | succ fu ih36 =>
          intro κ hφ hκ hα
          refine v_iload_n (pc := 36) C dX0_endsWithVariablesOf_36 rfl ?_
          refine v_iconst (pc := 37) (v := 4) C dX0_endsWithVariablesOf_37 (by decide) ?_
          refine v_icmp_geN (pc := 38) (tgt := 64) C (κ) 4 rfl rfl (by omega) (by omega) dX0_endsWithVariablesOf_38 (by decide) (fun c_38 => ?_) (fun c_38 => ?_)
          · refine v_iconst (pc := 64) (v := 1) C dX0_endsWithVariablesOf_64 (by decide) ?_
            subst hQ
            exact v_iret (pc := 65) C dX0_endsWithVariablesOf_65 (rfl) ((S, T)) rfl (⟨rfl, Or.inl ⟨rfl, ⟨fun _ => c_11, fun _ => c_4⟩, fun _ k hk => hα k (by omega)⟩⟩)
          · refine v_aload_n (pc := 41) C dX0_endsWithVariablesOf_41 rfl ?_
            refine v_get (pc := 42) (v := .ref (b 0)) C inX0 0 rfl rfl 0 (by decide) kw1_31 rfl dX0_endsWithVariablesOf_42 ?_
            refine v_iload_n (pc := 45) C dX0_endsWithVariablesOf_45 rfl ?_
            refine v_ialdN (pc := 46) (i := (κ)) (f := (mA S 0)) C 1 rfl (by omega) (by decide) dX0_endsWithVariablesOf_46 ?_
            refine v_aload_n (pc := 47) C dX0_endsWithVariablesOf_47 rfl ?_
            refine v_get (pc := 48) (v := .ref (d 0)) C inX0 6 rfl rfl 0 (by decide) kw1_31 rfl dX0_endsWithVariablesOf_48 ?_
            refine v_iload_n (pc := 51) C dX0_endsWithVariablesOf_51 rfl ?_
            refine v_ialdN (pc := 52) (i := (κ)) (f := (mA T 0)) C 7 rfl (by omega) (by decide) dX0_endsWithVariablesOf_52 ?_
            refine v_icmp_eq (pc := 53) (tgt := 58) C dX0_endsWithVariablesOf_53 (by decide) (fun c_53 => ?_) (fun c_53 => ?_)
            · refine v_iinc1 (pc := 58) C (κ) rfl dX0_endsWithVariablesOf_58 rfl ?_
              refine v_goto (pc := 61) (tgt := 36) C dX0_endsWithVariablesOf_61 (by decide) ?_
              exact V.lessE (ih36  (((κ) + 1)) (by omega) (by omega) (ext_lt hα c_53)) ⟨rfl, rfl, rfl, trivial⟩
            · refine v_iconst (pc := 56) (v := 0) C dX0_endsWithVariablesOf_56 (by decide) ?_
              subst hQ
              exact v_iret (pc := 57) C dX0_endsWithVariablesOf_57 (rfl) ((S, T)) rfl (⟨rfl, Or.inr ⟨rfl, fun h => c_53 (h.2 c_4 κ (by omega))⟩⟩)
      exact V.lessE (L36 (5) (0) (by omega) (by omega) (fun z hz => absurd hz (Nat.not_lt_zero z))) ⟨rfl, rfl, rfl, trivial⟩
    · refine v_aload_n (pc := 14) C dX0_endsWithVariablesOf_14 rfl ?_
      refine v_get (pc := 15) (v := .int (mI S 8)) C inX0 0 rfl rfl 8 (by decide) kw1_43 rfl dX0_endsWithVariablesOf_15 ?_
      refine v_if_eq (pc := 18) (tgt := 32) C dX0_endsWithVariablesOf_18 (by decide) (fun c_18 => ?_) (fun c_18 => ?_)
      · refine v_iconst (pc := 32) (v := 0) C dX0_endsWithVariablesOf_32 (by decide) ?_
        subst hQ
        exact v_iret (pc := 33) C dX0_endsWithVariablesOf_33 (rfl) ((S, T)) rfl (⟨rfl, Or.inr ⟨rfl, fun h => c_11 (h.1.mp c_4)⟩⟩)
      · refine v_aload_n (pc := 21) C dX0_endsWithVariablesOf_21 rfl ?_
        refine v_get (pc := 22) (v := .int (mI T 8)) C inX0 6 rfl rfl 8 (by decide) kw1_43 rfl dX0_endsWithVariablesOf_22 ?_
        refine v_if_eq (pc := 25) (tgt := 32) C dX0_endsWithVariablesOf_25 (by decide) (fun c_25 => ?_) (fun c_25 => ?_)
        · refine v_iconst (pc := 32) (v := 0) C dX0_endsWithVariablesOf_32 (by decide) ?_
          subst hQ
          exact v_iret (pc := 33) C dX0_endsWithVariablesOf_33 (rfl) ((S, T)) rfl (absurd c_4 c_18)
        · refine v_iconst (pc := 28) (v := 1) C dX0_endsWithVariablesOf_28 (by decide) ?_
          refine v_goto (pc := 29) (tgt := 33) C dX0_endsWithVariablesOf_29 (by decide) ?_
          subst hQ
          exact v_iret (pc := 33) C dX0_endsWithVariablesOf_33 (rfl) ((S, T)) rfl (absurd c_4 c_18)
def rmX0_endsLike : Room := { frames := 1, cells := 0, slots := 0, locals := 22 }
set_option maxHeartbeats 4000000 in
set_option maxRecDepth 100000 in
theorem kX0_endsLike (G : TG) (o j : Nat) (b d : Nat → Nat) (S T : MS) (hS : okK S) (hT : okK T) : CT G yX0_endsLike cX0_endsLike 3 (some .boolean) rmX0_endsLike 0 0 [.ref (o), .ref (j)] (KWd G o b S ++ (KWd G j d T)) (fun u : MS × MS => KWd G o b u.1 ++ KWd G j d u.2) (Ri (fun r u => u = (S, T) ∧ ((r = 1 ∧ elP S T) ∨ (r = 0 ∧ ¬ (elP S T))))) := by
  refine CT.enter (by decide) (Nat.le_of_ble_eq_true rfl) (fun X C hnm => ?_)
  refine V.less [(0, .ref (o)), (1, .ref (j))] ⟨rfl, rfl, trivial⟩ ?_
  generalize hQ : (QX G X (fun u : MS × MS => KWd G o b u.1 ++ KWd G j d u.2) (Ri (fun r u => u = (S, T) ∧ ((r = 1 ∧ elP S T) ∨ (r = 0 ∧ ¬ (elP S T))))) 0 0) = Qq
  refine v_aload_n (pc := 0) C dX0_endsLike_0 rfl ?_
  refine v_aload_n (pc := 1) C dX0_endsLike_1 rfl ?_
  refine v_callV0 (pc := 2) (st := []) (q0 := 0) C (kX0_endsWithVariablesOf G o j b d S T) ykX0_endsWithVariablesOf cvX0_endsWithVariablesOf kw2_149 dX0_endsLike_2 rfl rfl rfl rfl rfl (by decide) (Nat.le_of_ble_eq_true rfl) (by decide) rfl (Ri_kk (fun r_2 u_2 h_2 => ?_))
  obtain ⟨e_2, h_2⟩ := h_2
  rw [e_2]
  refine V.same (ws' := (KWd G o b S ++ (KWd G j d T))) rfl ?_
  rcases (or_comm.mp h_2) with ⟨rfl, q_2⟩ | ⟨rfl, q_2⟩
  · refine v_if_neF (pc := 5) (tgt := 10) C (by decide) dX0_endsLike_5 (by decide) ?_
    refine v_iconst (pc := 8) (v := 0) C dX0_endsLike_8 (by decide) ?_
    subst hQ
    exact v_iret (pc := 9) C dX0_endsLike_9 (rfl) ((S, T)) rfl (⟨rfl, Or.inr ⟨rfl, fun h => q_2 h.1⟩⟩)
  · refine v_if_neT (pc := 5) (tgt := 10) C (by decide) dX0_endsLike_5 (by decide) ?_
    refine v_aload_n (pc := 10) C dX0_endsLike_10 rfl ?_
    refine v_get (pc := 11) (v := .int (mI S 8)) C inX0 0 rfl rfl 8 (by decide) kw1_43 rfl dX0_endsLike_11 ?_
    refine v_if_eq (pc := 14) (tgt := 19) C dX0_endsLike_14 (by decide) (fun c_14 => ?_) (fun c_14 => ?_)
    · refine v_iconst (pc := 19) (v := 0) C dX0_endsLike_19 (by decide) ?_
      refine v_istore_n (pc := 20) C dX0_endsLike_20 (by decide) ?_
      have L21 : ∀ (fu : Nat) (κ : Nat), (8 < κ + fu) → (κ ≤ 8) → (∀ z, z < κ → kCell S z = kCell T z) → V G X cX0_endsLike 3 rmX0_endsLike Qq 0 0 21 (lvo [(0, .ref (o)), (1, .ref (j)), (2, .int (nI (κ)))]) [] (KWd G o b S ++ (KWd G j d T)) := by
        intro fu
        induction fu with
        | zero => intro κ hφ hκ hα; exfalso; omega
        | succ fu ih21 =>
          intro κ hφ hκ hα
          refine v_iload_n (pc := 21) C dX0_endsLike_21 rfl ?_
          refine v_bipush (pc := 22) (v := 8) C dX0_endsLike_22 (by decide) ?_
          refine v_icmp_geN (pc := 24) (tgt := 48) C (κ) 8 rfl rfl (by omega) (by omega) dX0_endsLike_24 (by decide) (fun c_24 => ?_) (fun c_24 => ?_)
          · refine v_iconst (pc := 48) (v := 1) C dX0_endsLike_48 (by decide) ?_
            subst hQ
            exact v_iret (pc := 49) C dX0_endsLike_49 (rfl) ((S, T)) rfl (⟨rfl, Or.inl ⟨rfl, q_2, fun _ w hw => hα w (by omega)⟩⟩)
          · refine v_aload_n (pc := 27) C dX0_endsLike_27 rfl ?_
            refine v_iload_n (pc := 28) C dX0_endsLike_28 rfl ?_
            refine V.perm (ws' := (KWd G j d T ++ (KWd G o b S))) ((List.perm_append_comm).trans (List.Perm.of_eq (by simp only [List.append_assoc]))) ?_
            refine v_callV (pc := 29) (st := []) (q0 := 0) (wr := (KWd G j d T)) C (kX0_cellOf G o b S κ (by omega) hS) ykX0_cellOf cvX0_cellOf kw2_107 dX0_endsLike_29 rfl rfl rfl rfl rfl (by decide) (Nat.le_of_ble_eq_true rfl) (by decide) rfl (Ri_kk (fun r_29 u_29 h_29 => ?_))
            obtain ⟨e_29, er_29⟩ := h_29
            rw [e_29]
            subst er_29
            refine V.same (ws' := (KWd G j d T ++ (KWd G o b S))) rfl ?_
            refine V.perm (ws' := (KWd G o b S ++ (KWd G j d T))) ((List.perm_append_comm).trans (List.Perm.of_eq (by simp only [List.append_assoc]))) ?_
            refine v_aload_n (pc := 32) C dX0_endsLike_32 rfl ?_
            refine v_iload_n (pc := 33) C dX0_endsLike_33 rfl ?_
            refine v_callV (pc := 34) (st := [.int (kCell S κ)]) (q0 := 0) (wr := (KWd G o b S)) C (kX0_cellOf G j d T κ (by omega) hT) ykX0_cellOf cvX0_cellOf kw2_107 dX0_endsLike_34 rfl rfl rfl rfl rfl (by decide) (Nat.le_of_ble_eq_true rfl) (by decide) rfl (Ri_kk (fun r_34 u_34 h_34 => ?_))
            obtain ⟨e_34, er_34⟩ := h_34
            rw [e_34]
            subst er_34
            refine V.same (ws' := (KWd G o b S ++ (KWd G j d T))) rfl ?_
            refine v_icmp_eq (pc := 37) (tgt := 42) C dX0_endsLike_37 (by decide) (fun c_37 => ?_) (fun c_37 => ?_)
            · refine v_iinc1 (pc := 42) C (κ) rfl dX0_endsLike_42 rfl ?_
              refine v_goto (pc := 45) (tgt := 21) C dX0_endsLike_45 (by decide) ?_
              exact V.lessE (ih21  (((κ) + 1)) (by omega) (by omega) (ext_lt hα c_37)) ⟨rfl, rfl, rfl, trivial⟩
            · refine v_iconst (pc := 40) (v := 0) C dX0_endsLike_40 (by decide) ?_
              subst hQ
              exact v_iret (pc := 41) C dX0_endsLike_41 (rfl) ((S, T)) rfl (⟨rfl, Or.inr ⟨rfl, fun h => c_37 (h.2 c_14 κ (by omega))⟩⟩)
      exact V.lessE (L21 (9) (0) (by omega) (by omega) (fun z hz => absurd hz (Nat.not_lt_zero z))) ⟨rfl, rfl, rfl, trivial⟩
    · refine v_iconst (pc := 17) (v := 1) C dX0_endsLike_17 (by decide) ?_
      subst hQ
      exact v_iret (pc := 18) C dX0_endsLike_18 (rfl) ((S, T)) rfl (⟨rfl, Or.inl ⟨rfl, q_2, fun h => absurd h c_14⟩⟩)
def rmX1_hasLine : Room := { frames := 0, cells := 0, slots := 0, locals := 0 }
set_option maxHeartbeats 4000000 in
set_option maxRecDepth 100000 in
theorem kX1_hasLine (G : TG) (o : Nat) (b : Nat → Nat) (S : MS) (l : Int32) : CT G yX1_hasLine cX1_hasLine 2 (some .boolean) rmX1_hasLine 0 0 [.ref (o), .int (l)] (PWd G o b S) (fun S : MS => PWd G o b S) (Ri (fun r S' => S' = S ∧ r = if l < 0 ∨ mI S 7 ≤ l then 0 else 1)) := by
  refine CT.enter (by decide) (Nat.le_of_ble_eq_true rfl) (fun X C hnm => ?_)
  refine V.less [(0, .ref (o)), (1, .int (l))] ⟨rfl, rfl, trivial⟩ ?_
  generalize hQ : (QX G X (fun S : MS => PWd G o b S) (Ri (fun r S' => S' = S ∧ r = if l < 0 ∨ mI S 7 ≤ l then 0 else 1)) 0 0) = Qq
  refine v_iload_n (pc := 0) C dX1_hasLine_0 rfl ?_
  refine v_if_lt (pc := 1) (tgt := 16) C dX1_hasLine_1 (by decide) (fun c_1 => ?_) (fun c_1 => ?_)
  · refine v_iconst (pc := 16) (v := 0) C dX1_hasLine_16 (by decide) ?_
    subst hQ
    exact v_iret (pc := 17) C dX1_hasLine_17 (rfl) (S) rfl (by simp [c_1])
  · refine v_iload_n (pc := 4) C dX1_hasLine_4 rfl ?_
    refine v_aload_n (pc := 5) C dX1_hasLine_5 rfl ?_
    refine v_get (pc := 6) (v := .int (mI S 7)) C inX1 0 rfl rfl 7 (by decide) kw1_161 rfl dX1_hasLine_6 ?_
    refine v_icmp_ge (pc := 9) (tgt := 16) C dX1_hasLine_9 (by decide) (fun c_9 => ?_) (fun c_9 => ?_)
    · refine v_iconst (pc := 16) (v := 0) C dX1_hasLine_16 (by decide) ?_
      subst hQ
      exact v_iret (pc := 17) C dX1_hasLine_17 (rfl) (S) rfl (by simp [c_1, c_9])
    · refine v_iconst (pc := 12) (v := 1) C dX1_hasLine_12 (by decide) ?_
      refine v_goto (pc := 13) (tgt := 17) C dX1_hasLine_13 (by decide) ?_
      subst hQ
      exact v_iret (pc := 17) C dX1_hasLine_17 (rfl) (S) rfl (by simp [c_1, c_9])
def rmX1_isWhole : Room := { frames := 0, cells := 0, slots := 0, locals := 0 }
set_option maxHeartbeats 4000000 in
set_option maxRecDepth 100000 in
theorem kX1_isWhole (G : TG) (o : Nat) (b : Nat → Nat) (S : MS)  : CT G yX1_isWhole cX1_isWhole 1 (some .boolean) rmX1_isWhole 0 0 [.ref (o)] (PWd G o b S) (fun S : MS => PWd G o b S) (Ri (fun r S' => S' = S ∧ r = if mI S 6 = 0 then 1 else 0)) := by
  refine CT.enter (by decide) (Nat.le_of_ble_eq_true rfl) (fun X C hnm => ?_)
  refine V.less [(0, .ref (o))] ⟨rfl, trivial⟩ ?_
  generalize hQ : (QX G X (fun S : MS => PWd G o b S) (Ri (fun r S' => S' = S ∧ r = if mI S 6 = 0 then 1 else 0)) 0 0) = Qq
  refine v_aload_n (pc := 0) C dX1_isWhole_0 rfl ?_
  refine v_get (pc := 1) (v := .int (mI S 6)) C inX1 0 rfl rfl 6 (by decide) kw1_160 rfl dX1_isWhole_1 ?_
  refine v_if_ne (pc := 4) (tgt := 11) C dX1_isWhole_4 (by decide) (fun c_4 => ?_) (fun c_4 => ?_)
  · refine v_iconst (pc := 11) (v := 0) C dX1_isWhole_11 (by decide) ?_
    subst hQ
    exact v_iret (pc := 12) C dX1_isWhole_12 (rfl) (S) rfl (by simp [c_4])
  · refine v_iconst (pc := 7) (v := 1) C dX1_isWhole_7 (by decide) ?_
    refine v_goto (pc := 8) (tgt := 12) C dX1_isWhole_8 (by decide) ?_
    subst hQ
    exact v_iret (pc := 12) C dX1_isWhole_12 (rfl) (S) rfl (by simp [c_4])
def rmX1_append : Room := { frames := 0, cells := 0, slots := 0, locals := 0 }
set_option maxHeartbeats 4000000 in
set_option maxRecDepth 100000 in
theorem kX1_append_o (G : TG) (o : Nat) (b : Nat → Nat) (S : MS) (c x y : Int32) (n d : Nat) (hn : n < 20) (hd : d < 20) (en : mI S 7 = nI n) (ed : mI S 6 = nI d) (ho : c = 4 ∨ c = 5) : CT G yX1_append cX1_append 4 (some .int) rmX1_append 0 0 [.ref (o), .int (c), .int (x), .int (y)] (PWd G o b S) (fun S : MS => PWd G o b S) (Ri (fun r S' => r = nI n ∧ S' = sA (sA (sA (sA (sA (sI (sI S 6 (nI (d + 1))) 7 (nI (n + 1))) 0 (upd (mA S 0) n c)) 1 (upd (mA S 1) n x)) 2 (upd (mA S 2) n y)) 3 (upd (mA S 3) n (nI d))) 5 (upd (mA S 5) d (nI n)))) := by
  refine CT.enter (by decide) (Nat.le_of_ble_eq_true rfl) (fun X C hnm => ?_)
  refine V.less [(0, .ref (o)), (1, .int (c)), (2, .int (x)), (3, .int (y))] ⟨rfl, rfl, rfl, rfl, trivial⟩ ?_
  generalize hQ : (QX G X (fun S : MS => PWd G o b S) (Ri (fun r S' => r = nI n ∧ S' = sA (sA (sA (sA (sA (sI (sI S 6 (nI (d + 1))) 7 (nI (n + 1))) 0 (upd (mA S 0) n c)) 1 (upd (mA S 1) n x)) 2 (upd (mA S 2) n y)) 3 (upd (mA S 3) n (nI d))) 5 (upd (mA S 5) d (nI n)))) 0 0) = Qq
  refine v_aload_n (pc := 0) C dX1_append_0 rfl ?_
  refine v_get (pc := 1) (v := .int (mI S 7)) C inX1 0 rfl rfl 7 (by decide) kw1_161 rfl dX1_append_1 ?_
  refine v_cv (y := (nI (n))) (en) ?_
  refine v_bipush (pc := 4) (v := 20) C dX1_append_4 (by decide) ?_
  refine v_icmp_ltN (pc := 6) (tgt := 12) C (n) 20 rfl rfl (by omega) (by omega) dX1_append_6 (by decide) (fun c_6 => ?_) (fun c_6 => ?_)
  · refine v_aload_n (pc := 12) C dX1_append_12 rfl ?_
    refine v_get (pc := 13) (v := .ref (b 0)) C inX1 0 rfl rfl 0 (by decide) kw1_146 rfl dX1_append_13 ?_
    refine v_aload_n (pc := 16) C dX1_append_16 rfl ?_
    refine v_get (pc := 17) (v := .int (mI S 7)) C inX1 0 rfl rfl 7 (by decide) kw1_161 rfl dX1_append_17 ?_
    refine v_cv (y := (nI (n))) (en) ?_
    refine v_iload_n (pc := 20) C dX1_append_20 rfl ?_
    refine v_iastN (pc := 21) (i := (n)) (f := (mA S 0)) C 1 rfl (by omega) (by decide) dX1_append_21 (ws' := (PWd G o b (sA S 0 (upd ((mA S 0)) (n) (c))))) rfl ?_
    refine v_aload_n (pc := 22) C dX1_append_22 rfl ?_
    refine v_get (pc := 23) (v := .ref (b 1)) C inX1 0 rfl rfl 1 (by decide) kw1_149 rfl dX1_append_23 ?_
    refine v_aload_n (pc := 26) C dX1_append_26 rfl ?_
    refine v_get (pc := 27) (v := .int (mI S 7)) C inX1 0 rfl rfl 7 (by decide) kw1_161 rfl dX1_append_27 ?_
    refine v_cv (y := (nI (n))) (en) ?_
    refine v_iload_n (pc := 30) C dX1_append_30 rfl ?_
    refine v_iastN (pc := 31) (i := (n)) (f := (mA S 1)) C 2 rfl (by omega) (by decide) dX1_append_31 (ws' := (PWd G o b (sA (sA S 0 (upd ((mA S 0)) (n) (c))) 1 (upd ((mA S 1)) (n) (x))))) rfl ?_
    refine v_aload_n (pc := 32) C dX1_append_32 rfl ?_
    refine v_get (pc := 33) (v := .ref (b 2)) C inX1 0 rfl rfl 2 (by decide) kw1_152 rfl dX1_append_33 ?_
    refine v_aload_n (pc := 36) C dX1_append_36 rfl ?_
    refine v_get (pc := 37) (v := .int (mI S 7)) C inX1 0 rfl rfl 7 (by decide) kw1_161 rfl dX1_append_37 ?_
    refine v_cv (y := (nI (n))) (en) ?_
    refine v_iload_n (pc := 40) C dX1_append_40 rfl ?_
    refine v_iastN (pc := 41) (i := (n)) (f := (mA S 2)) C 3 rfl (by omega) (by decide) dX1_append_41 (ws' := (PWd G o b (sA (sA (sA S 0 (upd ((mA S 0)) (n) (c))) 1 (upd ((mA S 1)) (n) (x))) 2 (upd ((mA S 2)) (n) (y))))) rfl ?_
    refine v_aload_n (pc := 42) C dX1_append_42 rfl ?_
    refine v_get (pc := 43) (v := .ref (b 3)) C inX1 0 rfl rfl 3 (by decide) kw1_155 rfl dX1_append_43 ?_
    refine v_aload_n (pc := 46) C dX1_append_46 rfl ?_
    refine v_get (pc := 47) (v := .int (mI S 7)) C inX1 0 rfl rfl 7 (by decide) kw1_161 rfl dX1_append_47 ?_
    refine v_cv (y := (nI (n))) (en) ?_
    refine v_aload_n (pc := 50) C dX1_append_50 rfl ?_
    refine v_get (pc := 51) (v := .int (mI S 6)) C inX1 0 rfl rfl 6 (by decide) kw1_160 rfl dX1_append_51 ?_
    refine v_cv (y := (nI (d))) (ed) ?_
    refine v_iastN (pc := 54) (i := (n)) (f := (mA S 3)) C 4 rfl (by omega) (by decide) dX1_append_54 (ws' := (PWd G o b (sA (sA (sA (sA S 0 (upd ((mA S 0)) (n) (c))) 1 (upd ((mA S 1)) (n) (x))) 2 (upd ((mA S 2)) (n) (y))) 3 (upd ((mA S 3)) (n) (nI (d)))))) rfl ?_
    refine v_iload_n (pc := 55) C dX1_append_55 rfl ?_
    refine v_iconst (pc := 56) (v := 4) C dX1_append_56 (by decide) ?_
    refine v_icmp_eq (pc := 57) (tgt := 65) C dX1_append_57 (by decide) (fun c_57 => ?_) (fun c_57 => ?_)
    · refine v_aload_n (pc := 65) C dX1_append_65 rfl ?_
      refine v_get (pc := 66) (v := .ref (b 5)) C inX1 0 rfl rfl 5 (by decide) kw1_159 rfl dX1_append_66 ?_
      refine v_aload_n (pc := 69) C dX1_append_69 rfl ?_
      refine v_get (pc := 70) (v := .int (mI S 6)) C inX1 0 rfl rfl 6 (by decide) kw1_160 rfl dX1_append_70 ?_
      refine v_cv (y := (nI (d))) (ed) ?_
      refine v_aload_n (pc := 73) C dX1_append_73 rfl ?_
      refine v_get (pc := 74) (v := .int (mI S 7)) C inX1 0 rfl rfl 7 (by decide) kw1_161 rfl dX1_append_74 ?_
      refine v_cv (y := (nI (n))) (en) ?_
      refine v_iastN (pc := 77) (i := (d)) (f := (mA S 5)) C 6 rfl (by omega) (by decide) dX1_append_77 (ws' := (PWd G o b (sA (sA (sA (sA (sA S 0 (upd ((mA S 0)) (n) (c))) 1 (upd ((mA S 1)) (n) (x))) 2 (upd ((mA S 2)) (n) (y))) 3 (upd ((mA S 3)) (n) (nI (d)))) 5 (upd ((mA S 5)) (d) (nI (n)))))) rfl ?_
      refine v_aload_n (pc := 78) C dX1_append_78 rfl ?_
      refine v_dup (pc := 79) C dX1_append_79 rfl ?_
      refine v_get (pc := 80) (v := .int (mI S 6)) C inX1 0 rfl rfl 6 (by decide) kw1_160 rfl dX1_append_80 ?_
      refine v_cv (y := (nI (d))) (ed) ?_
      refine v_iconst (pc := 83) (v := 1) C dX1_append_83 (by decide) ?_
      refine v_iaddN (pc := 84) C (d) 1 rfl rfl dX1_append_84 ?_
      refine v_put (pc := 85) C inX1 tyX1 tyX1_ok nmX1 0 rfl rfl 6 (by decide) kw1_160 rfl (rfl) rfl (Nat.le_of_ble_eq_true rfl) dX1_append_85 (ws' := (PWd G o b (sA (sA (sA (sA (sA (sI S 6 (nI ((d) + 1))) 0 (upd ((mA S 0)) (n) (c))) 1 (upd ((mA S 1)) (n) (x))) 2 (upd ((mA S 2)) (n) (y))) 3 (upd ((mA S 3)) (n) (nI (d)))) 5 (upd ((mA S 5)) (d) (nI (n)))))) rfl ?_
      refine v_goto (pc := 88) (tgt := 150) C dX1_append_88 (by decide) ?_
      refine v_aload_n (pc := 150) C dX1_append_150 rfl ?_
      refine v_dup (pc := 151) C dX1_append_151 rfl ?_
      refine v_get (pc := 152) (v := .int (mI S 7)) C inX1 0 rfl rfl 7 (by decide) kw1_161 rfl dX1_append_152 ?_
      refine v_cv (y := (nI (n))) (en) ?_
      refine v_dup_x1 (pc := 155) C dX1_append_155 rfl rfl ?_
      refine v_iconst (pc := 156) (v := 1) C dX1_append_156 (by decide) ?_
      refine v_iaddN (pc := 157) C (n) 1 rfl rfl dX1_append_157 ?_
      refine v_put (pc := 158) C inX1 tyX1 tyX1_ok nmX1 0 rfl rfl 7 (by decide) kw1_161 rfl (rfl) rfl (Nat.le_of_ble_eq_true rfl) dX1_append_158 (ws' := (PWd G o b (sA (sA (sA (sA (sA (sI (sI S 6 (nI ((d) + 1))) 7 (nI ((n) + 1))) 0 (upd ((mA S 0)) (n) (c))) 1 (upd ((mA S 1)) (n) (x))) 2 (upd ((mA S 2)) (n) (y))) 3 (upd ((mA S 3)) (n) (nI (d)))) 5 (upd ((mA S 5)) (d) (nI (n)))))) rfl ?_
      subst hQ
      exact v_iret (pc := 161) C dX1_append_161 (rfl) ((sA (sA (sA (sA (sA (sI (sI S 6 (nI ((d) + 1))) 7 (nI ((n) + 1))) 0 (upd ((mA S 0)) (n) (c))) 1 (upd ((mA S 1)) (n) (x))) 2 (upd ((mA S 2)) (n) (y))) 3 (upd ((mA S 3)) (n) (nI (d)))) 5 (upd ((mA S 5)) (d) (nI (n))))) rfl (⟨rfl, rfl⟩)
    · refine v_iload_n (pc := 60) C dX1_append_60 rfl ?_
      refine v_iconst (pc := 61) (v := 5) C dX1_append_61 (by decide) ?_
      refine v_icmp_ne (pc := 62) (tgt := 91) C dX1_append_62 (by decide) (fun c_62 => ?_) (fun c_62 => ?_)
      · exact absurd (ho.elim (fun z => absurd z c_57) id) c_62
      · refine v_aload_n (pc := 65) C dX1_append_65 rfl ?_
        refine v_get (pc := 66) (v := .ref (b 5)) C inX1 0 rfl rfl 5 (by decide) kw1_159 rfl dX1_append_66 ?_
        refine v_aload_n (pc := 69) C dX1_append_69 rfl ?_
        refine v_get (pc := 70) (v := .int (mI S 6)) C inX1 0 rfl rfl 6 (by decide) kw1_160 rfl dX1_append_70 ?_
        refine v_cv (y := (nI (d))) (ed) ?_
        refine v_aload_n (pc := 73) C dX1_append_73 rfl ?_
        refine v_get (pc := 74) (v := .int (mI S 7)) C inX1 0 rfl rfl 7 (by decide) kw1_161 rfl dX1_append_74 ?_
        refine v_cv (y := (nI (n))) (en) ?_
        refine v_iastN (pc := 77) (i := (d)) (f := (mA S 5)) C 6 rfl (by omega) (by decide) dX1_append_77 (ws' := (PWd G o b (sA (sA (sA (sA (sA S 0 (upd ((mA S 0)) (n) (c))) 1 (upd ((mA S 1)) (n) (x))) 2 (upd ((mA S 2)) (n) (y))) 3 (upd ((mA S 3)) (n) (nI (d)))) 5 (upd ((mA S 5)) (d) (nI (n)))))) rfl ?_
        refine v_aload_n (pc := 78) C dX1_append_78 rfl ?_
        refine v_dup (pc := 79) C dX1_append_79 rfl ?_
        refine v_get (pc := 80) (v := .int (mI S 6)) C inX1 0 rfl rfl 6 (by decide) kw1_160 rfl dX1_append_80 ?_
        refine v_cv (y := (nI (d))) (ed) ?_
        refine v_iconst (pc := 83) (v := 1) C dX1_append_83 (by decide) ?_
        refine v_iaddN (pc := 84) C (d) 1 rfl rfl dX1_append_84 ?_
        refine v_put (pc := 85) C inX1 tyX1 tyX1_ok nmX1 0 rfl rfl 6 (by decide) kw1_160 rfl (rfl) rfl (Nat.le_of_ble_eq_true rfl) dX1_append_85 (ws' := (PWd G o b (sA (sA (sA (sA (sA (sI S 6 (nI ((d) + 1))) 0 (upd ((mA S 0)) (n) (c))) 1 (upd ((mA S 1)) (n) (x))) 2 (upd ((mA S 2)) (n) (y))) 3 (upd ((mA S 3)) (n) (nI (d)))) 5 (upd ((mA S 5)) (d) (nI (n)))))) rfl ?_
        refine v_goto (pc := 88) (tgt := 150) C dX1_append_88 (by decide) ?_
        refine v_aload_n (pc := 150) C dX1_append_150 rfl ?_
        refine v_dup (pc := 151) C dX1_append_151 rfl ?_
        refine v_get (pc := 152) (v := .int (mI S 7)) C inX1 0 rfl rfl 7 (by decide) kw1_161 rfl dX1_append_152 ?_
        refine v_cv (y := (nI (n))) (en) ?_
        refine v_dup_x1 (pc := 155) C dX1_append_155 rfl rfl ?_
        refine v_iconst (pc := 156) (v := 1) C dX1_append_156 (by decide) ?_
        refine v_iaddN (pc := 157) C (n) 1 rfl rfl dX1_append_157 ?_
        refine v_put (pc := 158) C inX1 tyX1 tyX1_ok nmX1 0 rfl rfl 7 (by decide) kw1_161 rfl (rfl) rfl (Nat.le_of_ble_eq_true rfl) dX1_append_158 (ws' := (PWd G o b (sA (sA (sA (sA (sA (sI (sI S 6 (nI ((d) + 1))) 7 (nI ((n) + 1))) 0 (upd ((mA S 0)) (n) (c))) 1 (upd ((mA S 1)) (n) (x))) 2 (upd ((mA S 2)) (n) (y))) 3 (upd ((mA S 3)) (n) (nI (d)))) 5 (upd ((mA S 5)) (d) (nI (n)))))) rfl ?_
        subst hQ
        exact v_iret (pc := 161) C dX1_append_161 (rfl) ((sA (sA (sA (sA (sA (sI (sI S 6 (nI ((d) + 1))) 7 (nI ((n) + 1))) 0 (upd ((mA S 0)) (n) (c))) 1 (upd ((mA S 1)) (n) (x))) 2 (upd ((mA S 2)) (n) (y))) 3 (upd ((mA S 3)) (n) (nI (d)))) 5 (upd ((mA S 5)) (d) (nI (n))))) rfl (⟨rfl, rfl⟩)
  · exact absurd c_6 (by omega)
set_option maxHeartbeats 4000000 in
set_option maxRecDepth 100000 in
theorem kX1_append_e (G : TG) (o : Nat) (b : Nat → Nat) (S : MS) (c x y : Int32) (n d : Nat) (hn : n < 20) (hd : d < 20) (en : mI S 7 = nI n) (ed : mI S 6 = nI d) (ho : c = 6) (hd0 : 0 < d) (m : Nat) (hm : m < 20) (em : mA S 5 (d - 1) = nI m) : CT G yX1_append cX1_append 4 (some .int) rmX1_append 0 0 [.ref (o), .int (c), .int (x), .int (y)] (PWd G o b S) (fun S : MS => PWd G o b S) (Ri (fun r S' => r = nI n ∧ S' = sA (sA (sA (sA (sA (sI (sI S 6 (nI (d - 1))) 7 (nI (n + 1))) 0 (upd (mA S 0) n c)) 1 (upd (mA S 1) n x)) 2 (upd (mA S 2) n y)) 3 (upd (mA S 3) n (nI d))) 4 (upd (upd (mA S 4) n (nI m)) m (nI n)))) := by
  refine CT.enter (by decide) (Nat.le_of_ble_eq_true rfl) (fun X C hnm => ?_)
  refine V.less [(0, .ref (o)), (1, .int (c)), (2, .int (x)), (3, .int (y))] ⟨rfl, rfl, rfl, rfl, trivial⟩ ?_
  generalize hQ : (QX G X (fun S : MS => PWd G o b S) (Ri (fun r S' => r = nI n ∧ S' = sA (sA (sA (sA (sA (sI (sI S 6 (nI (d - 1))) 7 (nI (n + 1))) 0 (upd (mA S 0) n c)) 1 (upd (mA S 1) n x)) 2 (upd (mA S 2) n y)) 3 (upd (mA S 3) n (nI d))) 4 (upd (upd (mA S 4) n (nI m)) m (nI n)))) 0 0) = Qq
  refine v_aload_n (pc := 0) C dX1_append_0 rfl ?_
  refine v_get (pc := 1) (v := .int (mI S 7)) C inX1 0 rfl rfl 7 (by decide) kw1_161 rfl dX1_append_1 ?_
  refine v_cv (y := (nI (n))) (en) ?_
  refine v_bipush (pc := 4) (v := 20) C dX1_append_4 (by decide) ?_
  refine v_icmp_ltN (pc := 6) (tgt := 12) C (n) 20 rfl rfl (by omega) (by omega) dX1_append_6 (by decide) (fun c_6 => ?_) (fun c_6 => ?_)
  · refine v_aload_n (pc := 12) C dX1_append_12 rfl ?_
    refine v_get (pc := 13) (v := .ref (b 0)) C inX1 0 rfl rfl 0 (by decide) kw1_146 rfl dX1_append_13 ?_
    refine v_aload_n (pc := 16) C dX1_append_16 rfl ?_
    refine v_get (pc := 17) (v := .int (mI S 7)) C inX1 0 rfl rfl 7 (by decide) kw1_161 rfl dX1_append_17 ?_
    refine v_cv (y := (nI (n))) (en) ?_
    refine v_iload_n (pc := 20) C dX1_append_20 rfl ?_
    refine v_iastN (pc := 21) (i := (n)) (f := (mA S 0)) C 1 rfl (by omega) (by decide) dX1_append_21 (ws' := (PWd G o b (sA S 0 (upd ((mA S 0)) (n) (c))))) rfl ?_
    refine v_aload_n (pc := 22) C dX1_append_22 rfl ?_
    refine v_get (pc := 23) (v := .ref (b 1)) C inX1 0 rfl rfl 1 (by decide) kw1_149 rfl dX1_append_23 ?_
    refine v_aload_n (pc := 26) C dX1_append_26 rfl ?_
    refine v_get (pc := 27) (v := .int (mI S 7)) C inX1 0 rfl rfl 7 (by decide) kw1_161 rfl dX1_append_27 ?_
    refine v_cv (y := (nI (n))) (en) ?_
    refine v_iload_n (pc := 30) C dX1_append_30 rfl ?_
    refine v_iastN (pc := 31) (i := (n)) (f := (mA S 1)) C 2 rfl (by omega) (by decide) dX1_append_31 (ws' := (PWd G o b (sA (sA S 0 (upd ((mA S 0)) (n) (c))) 1 (upd ((mA S 1)) (n) (x))))) rfl ?_
    refine v_aload_n (pc := 32) C dX1_append_32 rfl ?_
    refine v_get (pc := 33) (v := .ref (b 2)) C inX1 0 rfl rfl 2 (by decide) kw1_152 rfl dX1_append_33 ?_
    refine v_aload_n (pc := 36) C dX1_append_36 rfl ?_
    refine v_get (pc := 37) (v := .int (mI S 7)) C inX1 0 rfl rfl 7 (by decide) kw1_161 rfl dX1_append_37 ?_
    refine v_cv (y := (nI (n))) (en) ?_
    refine v_iload_n (pc := 40) C dX1_append_40 rfl ?_
    refine v_iastN (pc := 41) (i := (n)) (f := (mA S 2)) C 3 rfl (by omega) (by decide) dX1_append_41 (ws' := (PWd G o b (sA (sA (sA S 0 (upd ((mA S 0)) (n) (c))) 1 (upd ((mA S 1)) (n) (x))) 2 (upd ((mA S 2)) (n) (y))))) rfl ?_
    refine v_aload_n (pc := 42) C dX1_append_42 rfl ?_
    refine v_get (pc := 43) (v := .ref (b 3)) C inX1 0 rfl rfl 3 (by decide) kw1_155 rfl dX1_append_43 ?_
    refine v_aload_n (pc := 46) C dX1_append_46 rfl ?_
    refine v_get (pc := 47) (v := .int (mI S 7)) C inX1 0 rfl rfl 7 (by decide) kw1_161 rfl dX1_append_47 ?_
    refine v_cv (y := (nI (n))) (en) ?_
    refine v_aload_n (pc := 50) C dX1_append_50 rfl ?_
    refine v_get (pc := 51) (v := .int (mI S 6)) C inX1 0 rfl rfl 6 (by decide) kw1_160 rfl dX1_append_51 ?_
    refine v_cv (y := (nI (d))) (ed) ?_
    refine v_iastN (pc := 54) (i := (n)) (f := (mA S 3)) C 4 rfl (by omega) (by decide) dX1_append_54 (ws' := (PWd G o b (sA (sA (sA (sA S 0 (upd ((mA S 0)) (n) (c))) 1 (upd ((mA S 1)) (n) (x))) 2 (upd ((mA S 2)) (n) (y))) 3 (upd ((mA S 3)) (n) (nI (d)))))) rfl ?_
    refine v_iload_n (pc := 55) C dX1_append_55 rfl ?_
    refine v_iconst (pc := 56) (v := 4) C dX1_append_56 (by decide) ?_
    refine v_icmp_eq (pc := 57) (tgt := 65) C dX1_append_57 (by decide) (fun c_57 => ?_) (fun c_57 => ?_)
    · exact absurd (ho.symm.trans c_57) (by decide)
    · refine v_iload_n (pc := 60) C dX1_append_60 rfl ?_
      refine v_iconst (pc := 61) (v := 5) C dX1_append_61 (by decide) ?_
      refine v_icmp_ne (pc := 62) (tgt := 91) C dX1_append_62 (by decide) (fun c_62 => ?_) (fun c_62 => ?_)
      · refine v_iload_n (pc := 91) C dX1_append_91 rfl ?_
        refine v_bipush (pc := 92) (v := 6) C dX1_append_92 (by decide) ?_
        refine v_icmp_ne (pc := 94) (tgt := 150) C dX1_append_94 (by decide) (fun c_94 => ?_) (fun c_94 => ?_)
        · exact absurd ho c_94
        · refine v_aload_n (pc := 97) C dX1_append_97 rfl ?_
          refine v_get (pc := 98) (v := .int (mI S 6)) C inX1 0 rfl rfl 6 (by decide) kw1_160 rfl dX1_append_98 ?_
          refine v_cv (y := (nI (d))) (ed) ?_
          refine v_if_leN (pc := 101) (tgt := 150) C (d) rfl (by omega) dX1_append_101 (by decide) (fun c_101 => ?_) (fun c_101 => ?_)
          · exact absurd c_101 (by omega)
          · refine v_aload_n (pc := 104) C dX1_append_104 rfl ?_
            refine v_dup (pc := 105) C dX1_append_105 rfl ?_
            refine v_get (pc := 106) (v := .int (mI S 6)) C inX1 0 rfl rfl 6 (by decide) kw1_160 rfl dX1_append_106 ?_
            refine v_cv (y := (nI (d))) (ed) ?_
            refine v_iconst (pc := 109) (v := 1) C dX1_append_109 (by decide) ?_
            refine v_isubN (pc := 110) C (d) 1 rfl rfl (by omega) dX1_append_110 ?_
            refine v_put (pc := 111) C inX1 tyX1 tyX1_ok nmX1 0 rfl rfl 6 (by decide) kw1_160 rfl (rfl) rfl (Nat.le_of_ble_eq_true rfl) dX1_append_111 (ws' := (PWd G o b (sA (sA (sA (sA (sI S 6 (nI ((d) - 1))) 0 (upd ((mA S 0)) (n) (c))) 1 (upd ((mA S 1)) (n) (x))) 2 (upd ((mA S 2)) (n) (y))) 3 (upd ((mA S 3)) (n) (nI (d)))))) rfl ?_
            refine v_aload_n (pc := 114) C dX1_append_114 rfl ?_
            refine v_get (pc := 115) (v := .ref (b 4)) C inX1 0 rfl rfl 4 (by decide) kw1_157 rfl dX1_append_115 ?_
            refine v_aload_n (pc := 118) C dX1_append_118 rfl ?_
            refine v_get (pc := 119) (v := .int (mI S 7)) C inX1 0 rfl rfl 7 (by decide) kw1_161 rfl dX1_append_119 ?_
            refine v_cv (y := (nI (n))) (en) ?_
            refine v_aload_n (pc := 122) C dX1_append_122 rfl ?_
            refine v_get (pc := 123) (v := .ref (b 5)) C inX1 0 rfl rfl 5 (by decide) kw1_159 rfl dX1_append_123 ?_
            refine v_aload_n (pc := 126) C dX1_append_126 rfl ?_
            refine v_get (pc := 127) (v := .int (nI (((d) - 1)))) C inX1 0 rfl rfl 6 (by decide) kw1_160 rfl dX1_append_127 ?_
            refine v_ialdN (pc := 130) (i := (((d) - 1))) (f := (mA S 5)) C 6 rfl (by omega) (by decide) dX1_append_130 ?_
            refine v_cv (y := (nI (m))) (em) ?_
            refine v_iastN (pc := 131) (i := (n)) (f := (mA S 4)) C 5 rfl (by omega) (by decide) dX1_append_131 (ws' := (PWd G o b (sA (sA (sA (sA (sA (sI S 6 (nI ((d) - 1))) 0 (upd ((mA S 0)) (n) (c))) 1 (upd ((mA S 1)) (n) (x))) 2 (upd ((mA S 2)) (n) (y))) 3 (upd ((mA S 3)) (n) (nI (d)))) 4 (upd ((mA S 4)) (n) (nI (m)))))) rfl ?_
            refine v_aload_n (pc := 132) C dX1_append_132 rfl ?_
            refine v_get (pc := 133) (v := .ref (b 4)) C inX1 0 rfl rfl 4 (by decide) kw1_157 rfl dX1_append_133 ?_
            refine v_aload_n (pc := 136) C dX1_append_136 rfl ?_
            refine v_get (pc := 137) (v := .ref (b 5)) C inX1 0 rfl rfl 5 (by decide) kw1_159 rfl dX1_append_137 ?_
            refine v_aload_n (pc := 140) C dX1_append_140 rfl ?_
            refine v_get (pc := 141) (v := .int (nI (((d) - 1)))) C inX1 0 rfl rfl 6 (by decide) kw1_160 rfl dX1_append_141 ?_
            refine v_ialdN (pc := 144) (i := (((d) - 1))) (f := (mA S 5)) C 6 rfl (by omega) (by decide) dX1_append_144 ?_
            refine v_cv (y := (nI (m))) (em) ?_
            refine v_aload_n (pc := 145) C dX1_append_145 rfl ?_
            refine v_get (pc := 146) (v := .int (mI S 7)) C inX1 0 rfl rfl 7 (by decide) kw1_161 rfl dX1_append_146 ?_
            refine v_cv (y := (nI (n))) (en) ?_
            refine v_iastN (pc := 149) (i := (m)) (f := (upd ((mA S 4)) (n) (nI (m)))) C 5 rfl (by omega) (by decide) dX1_append_149 (ws' := (PWd G o b (sA (sA (sA (sA (sA (sI S 6 (nI ((d) - 1))) 0 (upd ((mA S 0)) (n) (c))) 1 (upd ((mA S 1)) (n) (x))) 2 (upd ((mA S 2)) (n) (y))) 3 (upd ((mA S 3)) (n) (nI (d)))) 4 (upd ((upd ((mA S 4)) (n) (nI (m)))) (m) (nI (n)))))) rfl ?_
            refine v_aload_n (pc := 150) C dX1_append_150 rfl ?_
            refine v_dup (pc := 151) C dX1_append_151 rfl ?_
            refine v_get (pc := 152) (v := .int (mI S 7)) C inX1 0 rfl rfl 7 (by decide) kw1_161 rfl dX1_append_152 ?_
            refine v_cv (y := (nI (n))) (en) ?_
            refine v_dup_x1 (pc := 155) C dX1_append_155 rfl rfl ?_
            refine v_iconst (pc := 156) (v := 1) C dX1_append_156 (by decide) ?_
            refine v_iaddN (pc := 157) C (n) 1 rfl rfl dX1_append_157 ?_
            refine v_put (pc := 158) C inX1 tyX1 tyX1_ok nmX1 0 rfl rfl 7 (by decide) kw1_161 rfl (rfl) rfl (Nat.le_of_ble_eq_true rfl) dX1_append_158 (ws' := (PWd G o b (sA (sA (sA (sA (sA (sI (sI S 6 (nI ((d) - 1))) 7 (nI ((n) + 1))) 0 (upd ((mA S 0)) (n) (c))) 1 (upd ((mA S 1)) (n) (x))) 2 (upd ((mA S 2)) (n) (y))) 3 (upd ((mA S 3)) (n) (nI (d)))) 4 (upd ((upd ((mA S 4)) (n) (nI (m)))) (m) (nI (n)))))) rfl ?_
            subst hQ
            exact v_iret (pc := 161) C dX1_append_161 (rfl) ((sA (sA (sA (sA (sA (sI (sI S 6 (nI ((d) - 1))) 7 (nI ((n) + 1))) 0 (upd ((mA S 0)) (n) (c))) 1 (upd ((mA S 1)) (n) (x))) 2 (upd ((mA S 2)) (n) (y))) 3 (upd ((mA S 3)) (n) (nI (d)))) 4 (upd ((upd ((mA S 4)) (n) (nI (m)))) (m) (nI (n))))) rfl (⟨rfl, rfl⟩)
      · exact absurd (ho.symm.trans c_62) (by decide)
  · exact absurd c_6 (by omega)
set_option maxHeartbeats 4000000 in
set_option maxRecDepth 100000 in
theorem kX1_append_p (G : TG) (o : Nat) (b : Nat → Nat) (S : MS) (c x y : Int32) (n d : Nat) (hn : n < 20) (hd : d < 20) (en : mI S 7 = nI n) (ed : mI S 6 = nI d) (h4 : ¬ c = 4) (h5 : ¬ c = 5) (h6 : ¬ c = 6) : CT G yX1_append cX1_append 4 (some .int) rmX1_append 0 0 [.ref (o), .int (c), .int (x), .int (y)] (PWd G o b S) (fun S : MS => PWd G o b S) (Ri (fun r S' => r = nI n ∧ S' = sA (sA (sA (sA (sI S 7 (nI (n + 1))) 0 (upd (mA S 0) n c)) 1 (upd (mA S 1) n x)) 2 (upd (mA S 2) n y)) 3 (upd (mA S 3) n (nI d)))) := by
  refine CT.enter (by decide) (Nat.le_of_ble_eq_true rfl) (fun X C hnm => ?_)
  refine V.less [(0, .ref (o)), (1, .int (c)), (2, .int (x)), (3, .int (y))] ⟨rfl, rfl, rfl, rfl, trivial⟩ ?_
  generalize hQ : (QX G X (fun S : MS => PWd G o b S) (Ri (fun r S' => r = nI n ∧ S' = sA (sA (sA (sA (sI S 7 (nI (n + 1))) 0 (upd (mA S 0) n c)) 1 (upd (mA S 1) n x)) 2 (upd (mA S 2) n y)) 3 (upd (mA S 3) n (nI d)))) 0 0) = Qq
  refine v_aload_n (pc := 0) C dX1_append_0 rfl ?_
  refine v_get (pc := 1) (v := .int (mI S 7)) C inX1 0 rfl rfl 7 (by decide) kw1_161 rfl dX1_append_1 ?_
  refine v_cv (y := (nI (n))) (en) ?_
  refine v_bipush (pc := 4) (v := 20) C dX1_append_4 (by decide) ?_
  refine v_icmp_ltN (pc := 6) (tgt := 12) C (n) 20 rfl rfl (by omega) (by omega) dX1_append_6 (by decide) (fun c_6 => ?_) (fun c_6 => ?_)
  · refine v_aload_n (pc := 12) C dX1_append_12 rfl ?_
    refine v_get (pc := 13) (v := .ref (b 0)) C inX1 0 rfl rfl 0 (by decide) kw1_146 rfl dX1_append_13 ?_
    refine v_aload_n (pc := 16) C dX1_append_16 rfl ?_
    refine v_get (pc := 17) (v := .int (mI S 7)) C inX1 0 rfl rfl 7 (by decide) kw1_161 rfl dX1_append_17 ?_
    refine v_cv (y := (nI (n))) (en) ?_
    refine v_iload_n (pc := 20) C dX1_append_20 rfl ?_
    refine v_iastN (pc := 21) (i := (n)) (f := (mA S 0)) C 1 rfl (by omega) (by decide) dX1_append_21 (ws' := (PWd G o b (sA S 0 (upd ((mA S 0)) (n) (c))))) rfl ?_
    refine v_aload_n (pc := 22) C dX1_append_22 rfl ?_
    refine v_get (pc := 23) (v := .ref (b 1)) C inX1 0 rfl rfl 1 (by decide) kw1_149 rfl dX1_append_23 ?_
    refine v_aload_n (pc := 26) C dX1_append_26 rfl ?_
    refine v_get (pc := 27) (v := .int (mI S 7)) C inX1 0 rfl rfl 7 (by decide) kw1_161 rfl dX1_append_27 ?_
    refine v_cv (y := (nI (n))) (en) ?_
    refine v_iload_n (pc := 30) C dX1_append_30 rfl ?_
    refine v_iastN (pc := 31) (i := (n)) (f := (mA S 1)) C 2 rfl (by omega) (by decide) dX1_append_31 (ws' := (PWd G o b (sA (sA S 0 (upd ((mA S 0)) (n) (c))) 1 (upd ((mA S 1)) (n) (x))))) rfl ?_
    refine v_aload_n (pc := 32) C dX1_append_32 rfl ?_
    refine v_get (pc := 33) (v := .ref (b 2)) C inX1 0 rfl rfl 2 (by decide) kw1_152 rfl dX1_append_33 ?_
    refine v_aload_n (pc := 36) C dX1_append_36 rfl ?_
    refine v_get (pc := 37) (v := .int (mI S 7)) C inX1 0 rfl rfl 7 (by decide) kw1_161 rfl dX1_append_37 ?_
    refine v_cv (y := (nI (n))) (en) ?_
    refine v_iload_n (pc := 40) C dX1_append_40 rfl ?_
    refine v_iastN (pc := 41) (i := (n)) (f := (mA S 2)) C 3 rfl (by omega) (by decide) dX1_append_41 (ws' := (PWd G o b (sA (sA (sA S 0 (upd ((mA S 0)) (n) (c))) 1 (upd ((mA S 1)) (n) (x))) 2 (upd ((mA S 2)) (n) (y))))) rfl ?_
    refine v_aload_n (pc := 42) C dX1_append_42 rfl ?_
    refine v_get (pc := 43) (v := .ref (b 3)) C inX1 0 rfl rfl 3 (by decide) kw1_155 rfl dX1_append_43 ?_
    refine v_aload_n (pc := 46) C dX1_append_46 rfl ?_
    refine v_get (pc := 47) (v := .int (mI S 7)) C inX1 0 rfl rfl 7 (by decide) kw1_161 rfl dX1_append_47 ?_
    refine v_cv (y := (nI (n))) (en) ?_
    refine v_aload_n (pc := 50) C dX1_append_50 rfl ?_
    refine v_get (pc := 51) (v := .int (mI S 6)) C inX1 0 rfl rfl 6 (by decide) kw1_160 rfl dX1_append_51 ?_
    refine v_cv (y := (nI (d))) (ed) ?_
    refine v_iastN (pc := 54) (i := (n)) (f := (mA S 3)) C 4 rfl (by omega) (by decide) dX1_append_54 (ws' := (PWd G o b (sA (sA (sA (sA S 0 (upd ((mA S 0)) (n) (c))) 1 (upd ((mA S 1)) (n) (x))) 2 (upd ((mA S 2)) (n) (y))) 3 (upd ((mA S 3)) (n) (nI (d)))))) rfl ?_
    refine v_iload_n (pc := 55) C dX1_append_55 rfl ?_
    refine v_iconst (pc := 56) (v := 4) C dX1_append_56 (by decide) ?_
    refine v_icmp_eq (pc := 57) (tgt := 65) C dX1_append_57 (by decide) (fun c_57 => ?_) (fun c_57 => ?_)
    · exact absurd c_57 h4
    · refine v_iload_n (pc := 60) C dX1_append_60 rfl ?_
      refine v_iconst (pc := 61) (v := 5) C dX1_append_61 (by decide) ?_
      refine v_icmp_ne (pc := 62) (tgt := 91) C dX1_append_62 (by decide) (fun c_62 => ?_) (fun c_62 => ?_)
      · refine v_iload_n (pc := 91) C dX1_append_91 rfl ?_
        refine v_bipush (pc := 92) (v := 6) C dX1_append_92 (by decide) ?_
        refine v_icmp_ne (pc := 94) (tgt := 150) C dX1_append_94 (by decide) (fun c_94 => ?_) (fun c_94 => ?_)
        · refine v_aload_n (pc := 150) C dX1_append_150 rfl ?_
          refine v_dup (pc := 151) C dX1_append_151 rfl ?_
          refine v_get (pc := 152) (v := .int (mI S 7)) C inX1 0 rfl rfl 7 (by decide) kw1_161 rfl dX1_append_152 ?_
          refine v_cv (y := (nI (n))) (en) ?_
          refine v_dup_x1 (pc := 155) C dX1_append_155 rfl rfl ?_
          refine v_iconst (pc := 156) (v := 1) C dX1_append_156 (by decide) ?_
          refine v_iaddN (pc := 157) C (n) 1 rfl rfl dX1_append_157 ?_
          refine v_put (pc := 158) C inX1 tyX1 tyX1_ok nmX1 0 rfl rfl 7 (by decide) kw1_161 rfl (rfl) rfl (Nat.le_of_ble_eq_true rfl) dX1_append_158 (ws' := (PWd G o b (sA (sA (sA (sA (sI S 7 (nI ((n) + 1))) 0 (upd ((mA S 0)) (n) (c))) 1 (upd ((mA S 1)) (n) (x))) 2 (upd ((mA S 2)) (n) (y))) 3 (upd ((mA S 3)) (n) (nI (d)))))) rfl ?_
          subst hQ
          exact v_iret (pc := 161) C dX1_append_161 (rfl) ((sA (sA (sA (sA (sI S 7 (nI ((n) + 1))) 0 (upd ((mA S 0)) (n) (c))) 1 (upd ((mA S 1)) (n) (x))) 2 (upd ((mA S 2)) (n) (y))) 3 (upd ((mA S 3)) (n) (nI (d))))) rfl (⟨rfl, rfl⟩)
        · exact absurd c_94 h6
      · exact absurd c_62 h5
  · exact absurd c_6 (by omega)
def rmX2_hasAnswered : Room := { frames := 1, cells := 0, slots := 0, locals := 22 }
set_option maxHeartbeats 4000000 in
set_option maxRecDepth 100000 in
theorem kX2_hasAnswered (G : TG) (o : Nat) (b : Nat → Nat) (S : MS) (q : Nat) (hq : q < 64) : CT G yX2_hasAnswered cX2_hasAnswered 2 (some .boolean) rmX2_hasAnswered 0 0 [.ref (o), .int (nI (q))] (UWd G o b S) (fun S : MS => UWd G o b S) (Ri (fun r S' => S' = S ∧ r = if lb (mL S 1) q = true then 1 else 0)) := by
  refine CT.enter (by decide) (Nat.le_of_ble_eq_true rfl) (fun X C hnm => ?_)
  refine V.less [(0, .ref (o)), (1, .int (nI (q)))] ⟨rfl, rfl, trivial⟩ ?_
  generalize hQ : (QX G X (fun S : MS => UWd G o b S) (Ri (fun r S' => S' = S ∧ r = if lb (mL S 1) q = true then 1 else 0)) 0 0) = Qq
  refine v_aload_n (pc := 0) C dX2_hasAnswered_0 rfl ?_
  refine v_get (pc := 1) (v := .long (mL S 1)) C inX2 0 rfl rfl 1 (by decide) kw1_73 rfl dX2_hasAnswered_1 ?_
  refine v_iload_n (pc := 4) C dX2_hasAnswered_4 rfl ?_
  refine v_callSN0 (pc := 5) (st := []) C (kX4_hasBit G _ (mL S 1) (q) hq) ykX4_hasBit kw2_101 nw_40 dX2_hasAnswered_5 rfl rfl rfl (by decide) (Nat.le_of_ble_eq_true rfl) (by decide) rfl (Ri_kk (fun r_5 u_5 h_5 => ?_))
  rcases (if01 h_5) with ⟨q_5, rfl⟩ | ⟨q_5, rfl⟩
  · subst hQ
    exact v_iret (pc := 8) C dX2_hasAnswered_8 (rfl) (S) rfl (⟨rfl, by rw [if_neg q_5]⟩)
  · subst hQ
    exact v_iret (pc := 8) C dX2_hasAnswered_8 (rfl) (S) rfl (⟨rfl, by rw [if_pos q_5]⟩)
def rmX2_note : Room := { frames := 1, cells := 0, slots := 0, locals := 21 }
set_option maxHeartbeats 4000000 in
set_option maxRecDepth 100000 in
theorem kX2_note (G : TG) (o : Nat) (b : Nat → Nat) (S : MS) (q : Nat) (v : Int32) (hq : q < 60) : CT G yX2_note cX2_note 3 (some .int) rmX2_note 0 0 [.ref (o), .int (nI (q)), .int (v)] (UWd G o b S) (fun S : MS => UWd G o b S) (Ri (fun r S' => r = nI (bl (mL S 1 ||| (1 : Int64) <<< ((nI q).toInt64 &&& 63)) 64).length ∧ S' = sL (sA S 0 (upd (mA S 0) q v)) (vp_updL (mL S) 1 (mL S 1 ||| (1 : Int64) <<< ((nI q).toInt64 &&& 63))))) := by
  refine CT.enter (by decide) (Nat.le_of_ble_eq_true rfl) (fun X C hnm => ?_)
  refine V.less [(0, .ref (o)), (1, .int (nI (q))), (2, .int (v))] ⟨rfl, rfl, rfl, trivial⟩ ?_
  generalize hQ : (QX G X (fun S : MS => UWd G o b S) (Ri (fun r S' => r = nI (bl (mL S 1 ||| (1 : Int64) <<< ((nI q).toInt64 &&& 63)) 64).length ∧ S' = sL (sA S 0 (upd (mA S 0) q v)) (vp_updL (mL S) 1 (mL S 1 ||| (1 : Int64) <<< ((nI q).toInt64 &&& 63))))) 0 0) = Qq
  refine v_aload_n (pc := 0) C dX2_note_0 rfl ?_
  refine v_get (pc := 1) (v := .ref (b 0)) C inX2 0 rfl rfl 0 (by decide) kw1_71 rfl dX2_note_1 ?_
  refine v_iload_n (pc := 4) C dX2_note_4 rfl ?_
  refine v_iload_n (pc := 5) C dX2_note_5 rfl ?_
  refine v_iastN (pc := 6) (i := (q)) (f := (mA S 0)) C 1 rfl (by omega) (by decide) dX2_note_6 (ws' := (UWd G o b (sA S 0 (upd ((mA S 0)) (q) (v))))) rfl ?_
  refine v_aload_n (pc := 7) C dX2_note_7 rfl ?_
  refine v_dup (pc := 8) C dX2_note_8 rfl ?_
  refine v_get (pc := 9) (v := .long (mL S 1)) C inX2 0 rfl rfl 1 (by decide) kw1_73 rfl dX2_note_9 ?_
  refine v_lconst (pc := 12) (v := 1) C dX2_note_12 (by decide) ?_
  refine v_iload_n (pc := 13) C dX2_note_13 rfl ?_
  refine v_lshl (pc := 14) C dX2_note_14 ?_
  refine v_lor (pc := 15) C dX2_note_15 ?_
  refine v_put (pc := 16) C inX2 tyX2 tyX2_ok nmX2 0 rfl rfl 1 (by decide) kw1_73 rfl (rfl) rfl (Nat.le_of_ble_eq_true rfl) dX2_note_16 (ws' := (UWd G o b (sL (sA S 0 (upd ((mA S 0)) (q) (v))) (vp_updL (mL S) 1 ((mL S 1) ||| (((1 : Int64)) <<< ((nI (q)).toInt64 &&& 63))))))) rfl ?_
  refine v_aload_n (pc := 19) C dX2_note_19 rfl ?_
  refine v_get (pc := 20) (v := .long ((mL S 1) ||| (((1 : Int64)) <<< ((nI (q)).toInt64 &&& 63)))) C inX2 0 rfl rfl 1 (by decide) kw1_73 rfl dX2_note_20 ?_
  refine v_callS0 (pc := 23) (st := []) C (kJ13_bitCount G _ (mL S 1 ||| (1 : Int64) <<< ((nI q).toInt64 &&& 63))) ykJ13_bitCount_95d88 kw2_155 kw2_187 dX2_note_23 rfl rfl rfl (by decide) (Nat.le_of_ble_eq_true rfl) (by decide) rfl (Ri_kk (fun r_23 u_23 h_23 => ?_))
  subst h_23
  subst hQ
  exact v_iret (pc := 26) C dX2_note_26 (rfl) ((sL (sA S 0 (upd ((mA S 0)) (q) (v))) (vp_updL (mL S) 1 ((mL S 1) ||| (((1 : Int64)) <<< ((nI (q)).toInt64 &&& 63)))))) rfl (⟨rfl, rfl⟩)
def rmX3_knows : Room := { frames := 1, cells := 0, slots := 0, locals := 22 }
set_option maxHeartbeats 4000000 in
set_option maxRecDepth 100000 in
theorem kX3_knows (G : TG) (o : Nat) (b : Nat → Nat) (p : Nat) (S : MS) (m : Nat) (hm : m < 64) : CT G yX3_knows cX3_knows 2 (some .boolean) rmX3_knows 0 0 [.ref (o), .int (nI (m))] (QWd G o b p S) (fun S : MS => QWd G o b p S) (Ri (fun r S' => S' = S ∧ r = if lb (mL S 5) m = true then 1 else 0)) := by
  refine CT.enter (by decide) (Nat.le_of_ble_eq_true rfl) (fun X C hnm => ?_)
  refine V.less [(0, .ref (o)), (1, .int (nI (m)))] ⟨rfl, rfl, trivial⟩ ?_
  generalize hQ : (QX G X (fun S : MS => QWd G o b p S) (Ri (fun r S' => S' = S ∧ r = if lb (mL S 5) m = true then 1 else 0)) 0 0) = Qq
  refine v_aload_n (pc := 0) C dX3_knows_0 rfl ?_
  refine v_get (pc := 1) (v := .long (mL S 5)) C inX3 0 rfl rfl 5 (by decide) kw2_70 rfl dX3_knows_1 ?_
  refine v_iload_n (pc := 4) C dX3_knows_4 rfl ?_
  refine v_callSN0 (pc := 5) (st := []) C (kX4_hasBit G _ (mL S 5) (m) hm) ykX4_hasBit kw2_101 nw_33 dX3_knows_5 rfl rfl rfl (by decide) (Nat.le_of_ble_eq_true rfl) (by decide) rfl (Ri_kk (fun r_5 u_5 h_5 => ?_))
  rcases (if01 h_5) with ⟨q_5, rfl⟩ | ⟨q_5, rfl⟩
  · subst hQ
    exact v_iret (pc := 8) C dX3_knows_8 (rfl) (S) rfl (⟨rfl, by rw [if_neg q_5]⟩)
  · subst hQ
    exact v_iret (pc := 8) C dX3_knows_8 (rfl) (S) rfl (⟨rfl, by rw [if_pos q_5]⟩)
def rmX3_keep : Room := { frames := 0, cells := 0, slots := 0, locals := 0 }
set_option maxHeartbeats 4000000 in
set_option maxRecDepth 100000 in
theorem kX3_keep (G : TG) (o : Nat) (b : Nat → Nat) (p : Nat) (S : MS) (m : Nat) (v : Int32) (hm : m < 64) : CT G yX3_keep cX3_keep 3 none rmX3_keep 0 0 [.ref (o), .int (nI (m)), .int (v)] (QWd G o b p S) (fun S : MS => QWd G o b p S) (Rv (fun S' => S' = sL (sA S 4 (upd (mA S 4) m v)) (vp_updL (mL S) 5 (mL S 5 ||| (1 : Int64) <<< ((nI m).toInt64 &&& 63))))) := by
  refine CT.enter (by decide) (Nat.le_of_ble_eq_true rfl) (fun X C hnm => ?_)
  refine V.less [(0, .ref (o)), (1, .int (nI (m))), (2, .int (v))] ⟨rfl, rfl, rfl, trivial⟩ ?_
  generalize hQ : (QX G X (fun S : MS => QWd G o b p S) (Rv (fun S' => S' = sL (sA S 4 (upd (mA S 4) m v)) (vp_updL (mL S) 5 (mL S 5 ||| (1 : Int64) <<< ((nI m).toInt64 &&& 63))))) 0 0) = Qq
  refine v_aload_n (pc := 0) C dX3_keep_0 rfl ?_
  refine v_get (pc := 1) (v := .ref (b 4)) C inX3 0 rfl rfl 4 (by decide) kw2_68 rfl dX3_keep_1 ?_
  refine v_iload_n (pc := 4) C dX3_keep_4 rfl ?_
  refine v_iload_n (pc := 5) C dX3_keep_5 rfl ?_
  refine v_iastN (pc := 6) (i := (m)) (f := (mA S 4)) C 1 rfl (by omega) (by decide) dX3_keep_6 (ws' := (QWd G o b p (sA S 4 (upd ((mA S 4)) (m) (v))))) rfl ?_
  refine v_aload_n (pc := 7) C dX3_keep_7 rfl ?_
  refine v_dup (pc := 8) C dX3_keep_8 rfl ?_
  refine v_get (pc := 9) (v := .long (mL S 5)) C inX3 0 rfl rfl 5 (by decide) kw2_70 rfl dX3_keep_9 ?_
  refine v_lconst (pc := 12) (v := 1) C dX3_keep_12 (by decide) ?_
  refine v_iload_n (pc := 13) C dX3_keep_13 rfl ?_
  refine v_lshl (pc := 14) C dX3_keep_14 ?_
  refine v_lor (pc := 15) C dX3_keep_15 ?_
  refine v_put (pc := 16) C inX3 tyX3 tyX3_ok nmX3 0 rfl rfl 5 (by decide) kw2_70 rfl (rfl) rfl (Nat.le_of_ble_eq_true rfl) dX3_keep_16 (ws' := (QWd G o b p (sL (sA S 4 (upd ((mA S 4)) (m) (v))) (vp_updL (mL S) 5 ((mL S 5) ||| (((1 : Int64)) <<< ((nI (m)).toInt64 &&& 63))))))) rfl ?_
  subst hQ
  exact v_vret (pc := 19) C dX3_keep_19 ((sL (sA S 4 (upd ((mA S 4)) (m) (v))) (vp_updL (mL S) 5 ((mL S 5) ||| (((1 : Int64)) <<< ((nI (m)).toInt64 &&& 63)))))) rfl (rfl)
