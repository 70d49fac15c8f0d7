/-! the machine: one line -/
theorem im3 {P Q A B : Prop} [Decidable Q] {r : Int32} (h : (¬ P → r = 0 ∧ A) ∧ (P → r = (if Q then 1 else 0) ∧ B)) : (¬ P ∧ r = 0 ∧ A) ∨ (P ∧ ¬ Q ∧ r = 0 ∧ B) ∨ (P ∧ Q ∧ r = 1 ∧ B) := by
  by_cases q : P
  · obtain ⟨h1, h2⟩ := h.2 q
    by_cases z : Q
    · exact Or.inr (Or.inr ⟨q, z, by rw [h1, if_pos z], h2⟩)
    · exact Or.inr (Or.inl ⟨q, z, by rw [h1, if_neg z], h2⟩)
  · exact Or.inl ⟨q, h.1 q⟩
def rmX0_goesRound : Room := { frames := 0, cells := 0, slots := 0, locals := 0 }
set_option maxHeartbeats 4000000 in
set_option maxRecDepth 100000 in
theorem kX0_goesRound (G : TG) (p o : Nat) (c b : Nat → Nat) (T S : MS) (l m : Nat) (hl : l < 20) (hm : m < 20) (em : mA T 4 l = nI m) : CT G yX0_goesRound cX0_goesRound 4 (some .boolean) rmX0_goesRound 0 0 [.ref (o), .ref (p), .int (nI (l))] (PWd G p c T ++ (KWd G o b S)) (fun S : MS => PWd G p c T ++ KWd G o b S) (Ri (fun r S' => (¬ mA T 0 m = 4 → r = 0 ∧ S' = S) ∧ (mA T 0 m = 4 → r = (if 0 < mL S m - 1 then 1 else 0) ∧ S' = sL S (vp_updL (mL S) m (mL S m - 1))))) := by
  refine CT.enter (by decide) (Nat.le_of_ble_eq_true rfl) (fun X C hnm => ?_)
  refine V.less [(0, .ref (o)), (1, .ref (p)), (2, .int (nI (l)))] ⟨rfl, rfl, rfl, trivial⟩ ?_
  generalize hQ : (QX G X (fun S : MS => PWd G p c T ++ KWd G o b S) (Ri (fun r S' => (¬ mA T 0 m = 4 → r = 0 ∧ S' = S) ∧ (mA T 0 m = 4 → r = (if 0 < mL S m - 1 then 1 else 0) ∧ S' = sL S (vp_updL (mL S) m (mL S m - 1))))) 0 0) = Qq
  refine v_aload_n (pc := 0) C dX0_goesRound_0 rfl ?_
  refine v_getN (pc := 1) (v := .ref (c 4)) C inX1 0 rfl rfl 4 (by decide) nw_16 rfl dX0_goesRound_1 ?_
  refine v_iload_n (pc := 4) C dX0_goesRound_4 rfl ?_
  refine v_ialdN (pc := 5) (i := (l)) (f := (mA T 4)) C 5 rfl (by omega) (by decide) dX0_goesRound_5 ?_
  refine v_cv (y := (nI (m))) (em) ?_
  refine v_istore_n (pc := 6) C dX0_goesRound_6 (by decide) ?_
  refine v_aload_n (pc := 7) C dX0_goesRound_7 rfl ?_
  refine v_getN (pc := 8) (v := .ref (c 0)) C inX1 0 rfl rfl 0 (by decide) nw_10 rfl dX0_goesRound_8 ?_
  refine v_iload_n (pc := 11) C dX0_goesRound_11 rfl ?_
  refine v_ialdN (pc := 12) (i := (m)) (f := (mA T 0)) C 1 rfl (by omega) (by decide) dX0_goesRound_12 ?_
  refine v_iconst (pc := 13) (v := 4) C dX0_goesRound_13 (by decide) ?_
  refine v_icmp_eq (pc := 14) (tgt := 19) C dX0_goesRound_14 (by decide) (fun c_14 => ?_) (fun c_14 => ?_)
  · refine v_aload_n (pc := 19) C dX0_goesRound_19 rfl ?_
    refine v_get (pc := 20) (v := .ref (b 4)) C inX0 7 rfl rfl 4 (by decide) kw1_37 rfl dX0_goesRound_20 ?_
    refine v_iload_n (pc := 23) C dX0_goesRound_23 rfl ?_
    refine v_dup2_11 (pc := 24) C dX0_goesRound_24 rfl rfl ?_
    refine v_laldN (pc := 25) (i := (m)) (f := (mL S)) C 12 rfl (by omega) (by decide) dX0_goesRound_25 ?_
    refine v_lconst (pc := 26) (v := 1) C dX0_goesRound_26 (by decide) ?_
    refine v_lsub (pc := 27) C dX0_goesRound_27 ?_
    refine v_lastN (pc := 28) (i := (m)) (f := (mL S)) C 12 rfl (by omega) (by decide) dX0_goesRound_28 (ws' := (PWd G p c T ++ (KWd G o b (sL S (vp_updL ((mL S)) (m) (((mL S) (m)) - ((1 : Int64)))))))) rfl ?_
    refine v_aload_n (pc := 29) C dX0_goesRound_29 rfl ?_
    refine v_get (pc := 30) (v := .ref (b 4)) C inX0 7 rfl rfl 4 (by decide) kw1_37 rfl dX0_goesRound_30 ?_
    refine v_iload_n (pc := 33) C dX0_goesRound_33 rfl ?_
    refine v_laldN (pc := 34) (i := (m)) (f := (vp_updL ((mL S)) (m) (((mL S) (m)) - ((1 : Int64))))) C 12 rfl (by omega) (by decide) dX0_goesRound_34 ?_
    refine v_lconst (pc := 35) (v := 0) C dX0_goesRound_35 (by decide) ?_
    refine v_lcmp (pc := 36) C dX0_goesRound_36 ?_
    refine v_if_le (pc := 37) (tgt := 44) C dX0_goesRound_37 (by decide) (fun c_37 => ?_) (fun c_37 => ?_)
    · refine v_iconst (pc := 44) (v := 0) C dX0_goesRound_44 (by decide) ?_
      subst hQ
      exact v_iret (pc := 45) C dX0_goesRound_45 (rfl) ((sL S (vp_updL ((mL S)) (m) (((mL S) (m)) - ((1 : Int64)))))) rfl (⟨fun q => absurd c_14 q, fun _ => ⟨by rw [if_neg (lgc_le.mp (by simpa [vp_updL] using c_37))], rfl⟩⟩)
    · refine v_iconst (pc := 40) (v := 1) C dX0_goesRound_40 (by decide) ?_
      refine v_goto (pc := 41) (tgt := 45) C dX0_goesRound_41 (by decide) ?_
      subst hQ
      exact v_iret (pc := 45) C dX0_goesRound_45 (rfl) ((sL S (vp_updL ((mL S)) (m) (((mL S) (m)) - ((1 : Int64)))))) rfl (⟨fun q => absurd c_14 q, fun _ => ⟨by rw [if_pos (Classical.byContradiction (fun z => c_37 (lgc_le.mpr (by simpa [vp_updL] using z))))], rfl⟩⟩)
  · refine v_iconst (pc := 17) (v := 0) C dX0_goesRound_17 (by decide) ?_
    subst hQ
    exact v_iret (pc := 18) C dX0_goesRound_18 (rfl) (S) rfl (⟨fun _ => ⟨rfl, rfl⟩, fun q => absurd q c_14⟩)
def rmX0_doLine : Room := { frames := 1, cells := 0, slots := 0, locals := 24 }
set_option maxHeartbeats 4000000 in
set_option maxRecDepth 100000 in
theorem kX0_doLine_0 (G : TG) (p o : Nat) (c b : Nat → Nat) (T S : MS) (l : Nat) (hl : l < 20) (ho : mA T 0 l = 0) (x : Nat) (ex : mA T 1 l = nI x) (hx : x < 4) : CT G yX0_doLine cX0_doLine 5 (some .int) rmX0_doLine 0 0 [.ref (o), .ref (p), .int (nI (l))] (PWd G p c T ++ (KWd G o b S)) (fun S : MS => PWd G p c T ++ KWd G o b S) (Ri (fun r S' => r = nI (l + 1) ∧ S' = sA S 0 (upd (mA S 0) x (mA T 2 l)))) := by
  refine CT.enter (by decide) (Nat.le_of_ble_eq_true rfl) (fun X C hnm => ?_)
  refine V.less [(0, .ref (o)), (1, .ref (p)), (2, .int (nI (l)))] ⟨rfl, rfl, rfl, trivial⟩ ?_
  generalize hQ : (QX G X (fun S : MS => PWd G p c T ++ KWd G o b S) (Ri (fun r S' => r = nI (l + 1) ∧ S' = sA S 0 (upd (mA S 0) x (mA T 2 l)))) 0 0) = Qq
  refine v_aload_n (pc := 0) C dX0_doLine_0 rfl ?_
  refine v_getN (pc := 1) (v := .ref (c 1)) C inX1 0 rfl rfl 1 (by decide) nw_12 rfl dX0_doLine_1 ?_
  refine v_iload_n (pc := 4) C dX0_doLine_4 rfl ?_
  refine v_ialdN (pc := 5) (i := (l)) (f := (mA T 1)) C 2 rfl (by omega) (by decide) dX0_doLine_5 ?_
  refine v_cv (y := (nI (x))) (ex) ?_
  refine v_istore_n (pc := 6) C dX0_doLine_6 (by decide) ?_
  refine v_aload_n (pc := 7) C dX0_doLine_7 rfl ?_
  refine v_getN (pc := 8) (v := .ref (c 2)) C inX1 0 rfl rfl 2 (by decide) nw_14 rfl dX0_doLine_8 ?_
  refine v_iload_n (pc := 11) C dX0_doLine_11 rfl ?_
  refine v_ialdN (pc := 12) (i := (l)) (f := (mA T 2)) C 3 rfl (by omega) (by decide) dX0_doLine_12 ?_
  refine v_istore (pc := 13) C dX0_doLine_13 (by decide) ?_
  refine v_aload_n (pc := 15) C dX0_doLine_15 rfl ?_
  refine v_getN (pc := 16) (v := .ref (c 0)) C inX1 0 rfl rfl 0 (by decide) nw_10 rfl dX0_doLine_16 ?_
  refine v_iload_n (pc := 19) C dX0_doLine_19 rfl ?_
  refine v_ialdN (pc := 20) (i := (l)) (f := (mA T 0)) C 1 rfl (by omega) (by decide) dX0_doLine_20 ?_
  refine v_cv (y := (0 : Int32)) (ho) ?_
  refine v_tableIn (pc := 21) (tgt := 72) C dX0_doLine_21 (by decide) (by decide) rfl (by decide) ?_
  refine v_aload_n (pc := 72) C dX0_doLine_72 rfl ?_
  refine v_get (pc := 73) (v := .ref (b 0)) C inX0 7 rfl rfl 0 (by decide) kw1_31 rfl dX0_doLine_73 ?_
  refine v_iload_n (pc := 76) C dX0_doLine_76 rfl ?_
  refine v_iload (pc := 77) C dX0_doLine_77 rfl ?_
  refine v_iastN (pc := 79) (i := (x)) (f := (mA S 0)) C 8 rfl (by omega) (by decide) dX0_doLine_79 (ws' := (PWd G p c T ++ (KWd G o b (sA S 0 (upd ((mA S 0)) (x) ((mA T 2) (l))))))) rfl ?_
  refine v_goto (pc := 80) (tgt := 342) C dX0_doLine_80 (by decide) ?_
  refine v_iload_n (pc := 342) C dX0_doLine_342 rfl ?_
  refine v_iconst (pc := 343) (v := 1) C dX0_doLine_343 (by decide) ?_
  refine v_iaddN (pc := 344) C (l) 1 rfl rfl dX0_doLine_344 ?_
  subst hQ
  exact v_iret (pc := 345) C dX0_doLine_345 (rfl) ((sA S 0 (upd ((mA S 0)) (x) ((mA T 2) (l))))) rfl (⟨rfl, rfl⟩)
set_option maxHeartbeats 4000000 in
set_option maxRecDepth 100000 in
theorem kX0_doLine_1 (G : TG) (p o : Nat) (c b : Nat → Nat) (T S : MS) (l : Nat) (hl : l < 20) (ho : mA T 0 l = 1) (x : Nat) (ex : mA T 1 l = nI x) (y : Nat) (ey : mA T 2 l = nI y) (hx : x < 4) (hy : y < 4) : CT G yX0_doLine cX0_doLine 5 (some .int) rmX0_doLine 0 0 [.ref (o), .ref (p), .int (nI (l))] (PWd G p c T ++ (KWd G o b S)) (fun S : MS => PWd G p c T ++ KWd G o b S) (Ri (fun r S' => r = nI (l + 1) ∧ S' = sA S 0 (if mI S 5 &&& 4 = 0 then upd (mA S 0) x (mA S 0 y) else upd (mA S 0) y (mA S 0 x)))) := by
  refine CT.enter (by decide) (Nat.le_of_ble_eq_true rfl) (fun X C hnm => ?_)
  refine V.less [(0, .ref (o)), (1, .ref (p)), (2, .int (nI (l)))] ⟨rfl, rfl, rfl, trivial⟩ ?_
  generalize hQ : (QX G X (fun S : MS => PWd G p c T ++ KWd G o b S) (Ri (fun r S' => r = nI (l + 1) ∧ S' = sA S 0 (if mI S 5 &&& 4 = 0 then upd (mA S 0) x (mA S 0 y) else upd (mA S 0) y (mA S 0 x)))) 0 0) = Qq
  refine v_aload_n (pc := 0) C dX0_doLine_0 rfl ?_
  refine v_getN (pc := 1) (v := .ref (c 1)) C inX1 0 rfl rfl 1 (by decide) nw_12 rfl dX0_doLine_1 ?_
  refine v_iload_n (pc := 4) C dX0_doLine_4 rfl ?_
  refine v_ialdN (pc := 5) (i := (l)) (f := (mA T 1)) C 2 rfl (by omega) (by decide) dX0_doLine_5 ?_
  refine v_cv (y := (nI (x))) (ex) ?_
  refine v_istore_n (pc := 6) C dX0_doLine_6 (by decide) ?_
  refine v_aload_n (pc := 7) C dX0_doLine_7 rfl ?_
  refine v_getN (pc := 8) (v := .ref (c 2)) C inX1 0 rfl rfl 2 (by decide) nw_14 rfl dX0_doLine_8 ?_
  refine v_iload_n (pc := 11) C dX0_doLine_11 rfl ?_
  refine v_ialdN (pc := 12) (i := (l)) (f := (mA T 2)) C 3 rfl (by omega) (by decide) dX0_doLine_12 ?_
  refine v_cv (y := (nI (y))) (ey) ?_
  refine v_istore (pc := 13) C dX0_doLine_13 (by decide) ?_
  refine v_aload_n (pc := 15) C dX0_doLine_15 rfl ?_
  refine v_getN (pc := 16) (v := .ref (c 0)) C inX1 0 rfl rfl 0 (by decide) nw_10 rfl dX0_doLine_16 ?_
  refine v_iload_n (pc := 19) C dX0_doLine_19 rfl ?_
  refine v_ialdN (pc := 20) (i := (l)) (f := (mA T 0)) C 1 rfl (by omega) (by decide) dX0_doLine_20 ?_
  refine v_cv (y := (1 : Int32)) (ho) ?_
  refine v_tableIn (pc := 21) (tgt := 83) C dX0_doLine_21 (by decide) (by decide) rfl (by decide) ?_
  refine v_aload_n (pc := 83) C dX0_doLine_83 rfl ?_
  refine v_iconst (pc := 84) (v := 4) C dX0_doLine_84 (by decide) ?_
  refine v_callV (pc := 85) (st := []) (q0 := 0) (wr := (PWd G p c T)) C (kX0_has G o b S 4) ykX0_has cvX0_has kw2_8 dX0_doLine_85 rfl rfl rfl rfl rfl (by decide) (Nat.le_of_ble_eq_true rfl) (by decide) rfl (Ri_kk (fun r_85 u_85 h_85 => ?_))
  obtain ⟨e_85, h_85⟩ := h_85
  rw [e_85]
  refine V.same (ws' := (PWd G p c T ++ (KWd G o b S))) rfl ?_
  rcases (has01 h_85) with ⟨q_85, rfl⟩ | ⟨q_85, rfl⟩
  · refine v_if_eqT (pc := 88) (tgt := 107) C (by decide) dX0_doLine_88 (by decide) ?_
    refine v_aload_n (pc := 107) C dX0_doLine_107 rfl ?_
    refine v_get (pc := 108) (v := .ref (b 0)) C inX0 7 rfl rfl 0 (by decide) kw1_31 rfl dX0_doLine_108 ?_
    refine v_iload_n (pc := 111) C dX0_doLine_111 rfl ?_
    refine v_aload_n (pc := 112) C dX0_doLine_112 rfl ?_
    refine v_get (pc := 113) (v := .ref (b 0)) C inX0 7 rfl rfl 0 (by decide) kw1_31 rfl dX0_doLine_113 ?_
    refine v_iload (pc := 116) C dX0_doLine_116 rfl ?_
    refine v_ialdN (pc := 118) (i := (y)) (f := (mA S 0)) C 8 rfl (by omega) (by decide) dX0_doLine_118 ?_
    refine v_iastN (pc := 119) (i := (x)) (f := (mA S 0)) C 8 rfl (by omega) (by decide) dX0_doLine_119 (ws' := (PWd G p c T ++ (KWd G o b (sA S 0 (upd ((mA S 0)) (x) ((mA S 0) (y))))))) rfl ?_
    refine v_goto (pc := 120) (tgt := 342) C dX0_doLine_120 (by decide) ?_
    refine v_iload_n (pc := 342) C dX0_doLine_342 rfl ?_
    refine v_iconst (pc := 343) (v := 1) C dX0_doLine_343 (by decide) ?_
    refine v_iaddN (pc := 344) C (l) 1 rfl rfl dX0_doLine_344 ?_
    subst hQ
    exact v_iret (pc := 345) C dX0_doLine_345 (rfl) ((sA S 0 (upd ((mA S 0)) (x) ((mA S 0) (y))))) rfl (⟨rfl, by rw [if_pos q_85]⟩)
  · refine v_if_eqF (pc := 88) (tgt := 107) C (by decide) dX0_doLine_88 (by decide) ?_
    refine v_aload_n (pc := 91) C dX0_doLine_91 rfl ?_
    refine v_get (pc := 92) (v := .ref (b 0)) C inX0 7 rfl rfl 0 (by decide) kw1_31 rfl dX0_doLine_92 ?_
    refine v_iload (pc := 95) C dX0_doLine_95 rfl ?_
    refine v_aload_n (pc := 97) C dX0_doLine_97 rfl ?_
    refine v_get (pc := 98) (v := .ref (b 0)) C inX0 7 rfl rfl 0 (by decide) kw1_31 rfl dX0_doLine_98 ?_
    refine v_iload_n (pc := 101) C dX0_doLine_101 rfl ?_
    refine v_ialdN (pc := 102) (i := (x)) (f := (mA S 0)) C 8 rfl (by omega) (by decide) dX0_doLine_102 ?_
    refine v_iastN (pc := 103) (i := (y)) (f := (mA S 0)) C 8 rfl (by omega) (by decide) dX0_doLine_103 (ws' := (PWd G p c T ++ (KWd G o b (sA S 0 (upd ((mA S 0)) (y) ((mA S 0) (x))))))) rfl ?_
    refine v_goto (pc := 104) (tgt := 342) C dX0_doLine_104 (by decide) ?_
    refine v_iload_n (pc := 342) C dX0_doLine_342 rfl ?_
    refine v_iconst (pc := 343) (v := 1) C dX0_doLine_343 (by decide) ?_
    refine v_iaddN (pc := 344) C (l) 1 rfl rfl dX0_doLine_344 ?_
    subst hQ
    exact v_iret (pc := 345) C dX0_doLine_345 (rfl) ((sA S 0 (upd ((mA S 0)) (y) ((mA S 0) (x))))) rfl (⟨rfl, by rw [if_neg q_85]⟩)
set_option maxHeartbeats 4000000 in
set_option maxRecDepth 100000 in
theorem kX0_doLine_2 (G : TG) (p o : Nat) (c b : Nat → Nat) (T S : MS) (l : Nat) (hl : l < 20) (ho : mA T 0 l = 2) (x : Nat) (ex : mA T 1 l = nI x) (y : Nat) (ey : mA T 2 l = nI y) (hx : x < 4) (hy : y < 4) : CT G yX0_doLine cX0_doLine 5 (some .int) rmX0_doLine 0 0 [.ref (o), .ref (p), .int (nI (l))] (PWd G p c T ++ (KWd G o b S)) (fun S : MS => PWd G p c T ++ KWd G o b S) (Ri (fun r S' => r = nI (l + 1) ∧ S' = sA S 0 (upd (mA S 0) x (mA S 0 x + mA S 0 y)))) := by
  refine CT.enter (by decide) (Nat.le_of_ble_eq_true rfl) (fun X C hnm => ?_)
  refine V.less [(0, .ref (o)), (1, .ref (p)), (2, .int (nI (l)))] ⟨rfl, rfl, rfl, trivial⟩ ?_
  generalize hQ : (QX G X (fun S : MS => PWd G p c T ++ KWd G o b S) (Ri (fun r S' => r = nI (l + 1) ∧ S' = sA S 0 (upd (mA S 0) x (mA S 0 x + mA S 0 y)))) 0 0) = Qq
  refine v_aload_n (pc := 0) C dX0_doLine_0 rfl ?_
  refine v_getN (pc := 1) (v := .ref (c 1)) C inX1 0 rfl rfl 1 (by decide) nw_12 rfl dX0_doLine_1 ?_
  refine v_iload_n (pc := 4) C dX0_doLine_4 rfl ?_
  refine v_ialdN (pc := 5) (i := (l)) (f := (mA T 1)) C 2 rfl (by omega) (by decide) dX0_doLine_5 ?_
  refine v_cv (y := (nI (x))) (ex) ?_
  refine v_istore_n (pc := 6) C dX0_doLine_6 (by decide) ?_
  refine v_aload_n (pc := 7) C dX0_doLine_7 rfl ?_
  refine v_getN (pc := 8) (v := .ref (c 2)) C inX1 0 rfl rfl 2 (by decide) nw_14 rfl dX0_doLine_8 ?_
  refine v_iload_n (pc := 11) C dX0_doLine_11 rfl ?_
  refine v_ialdN (pc := 12) (i := (l)) (f := (mA T 2)) C 3 rfl (by omega) (by decide) dX0_doLine_12 ?_
  refine v_cv (y := (nI (y))) (ey) ?_
  refine v_istore (pc := 13) C dX0_doLine_13 (by decide) ?_
  refine v_aload_n (pc := 15) C dX0_doLine_15 rfl ?_
  refine v_getN (pc := 16) (v := .ref (c 0)) C inX1 0 rfl rfl 0 (by decide) nw_10 rfl dX0_doLine_16 ?_
  refine v_iload_n (pc := 19) C dX0_doLine_19 rfl ?_
  refine v_ialdN (pc := 20) (i := (l)) (f := (mA T 0)) C 1 rfl (by omega) (by decide) dX0_doLine_20 ?_
  refine v_cv (y := (2 : Int32)) (ho) ?_
  refine v_tableIn (pc := 21) (tgt := 123) C dX0_doLine_21 (by decide) (by decide) rfl (by decide) ?_
  refine v_aload_n (pc := 123) C dX0_doLine_123 rfl ?_
  refine v_get (pc := 124) (v := .ref (b 0)) C inX0 7 rfl rfl 0 (by decide) kw1_31 rfl dX0_doLine_124 ?_
  refine v_iload_n (pc := 127) C dX0_doLine_127 rfl ?_
  refine v_dup2_11 (pc := 128) C dX0_doLine_128 rfl rfl ?_
  refine v_ialdN (pc := 129) (i := (x)) (f := (mA S 0)) C 8 rfl (by omega) (by decide) dX0_doLine_129 ?_
  refine v_aload_n (pc := 130) C dX0_doLine_130 rfl ?_
  refine v_get (pc := 131) (v := .ref (b 0)) C inX0 7 rfl rfl 0 (by decide) kw1_31 rfl dX0_doLine_131 ?_
  refine v_iload (pc := 134) C dX0_doLine_134 rfl ?_
  refine v_ialdN (pc := 136) (i := (y)) (f := (mA S 0)) C 8 rfl (by omega) (by decide) dX0_doLine_136 ?_
  refine v_iadd (pc := 137) C dX0_doLine_137 ?_
  refine v_iastN (pc := 138) (i := (x)) (f := (mA S 0)) C 8 rfl (by omega) (by decide) dX0_doLine_138 (ws' := (PWd G p c T ++ (KWd G o b (sA S 0 (upd ((mA S 0)) (x) (((mA S 0) (x)) + ((mA S 0) (y)))))))) rfl ?_
  refine v_goto (pc := 139) (tgt := 342) C dX0_doLine_139 (by decide) ?_
  refine v_iload_n (pc := 342) C dX0_doLine_342 rfl ?_
  refine v_iconst (pc := 343) (v := 1) C dX0_doLine_343 (by decide) ?_
  refine v_iaddN (pc := 344) C (l) 1 rfl rfl dX0_doLine_344 ?_
  subst hQ
  exact v_iret (pc := 345) C dX0_doLine_345 (rfl) ((sA S 0 (upd ((mA S 0)) (x) (((mA S 0) (x)) + ((mA S 0) (y)))))) rfl (⟨rfl, rfl⟩)
set_option maxHeartbeats 4000000 in
set_option maxRecDepth 100000 in
theorem kX0_doLine_3 (G : TG) (p o : Nat) (c b : Nat → Nat) (T S : MS) (l : Nat) (hl : l < 20) (ho : mA T 0 l = 3) (x : Nat) (ex : mA T 1 l = nI x) (y : Nat) (ey : mA T 2 l = nI y) (hx : x < 4) (hy : y < 4) : CT G yX0_doLine cX0_doLine 5 (some .int) rmX0_doLine 0 0 [.ref (o), .ref (p), .int (nI (l))] (PWd G p c T ++ (KWd G o b S)) (fun S : MS => PWd G p c T ++ KWd G o b S) (Ri (fun r S' => r = nI (l + 1) ∧ S' = sA S 0 (upd (mA S 0) x (if mI S 5 &&& 16 = 0 then mA S 0 x - mA S 0 y else mA S 0 y - mA S 0 x)))) := by
  refine CT.enter (by decide) (Nat.le_of_ble_eq_true rfl) (fun X C hnm => ?_)
  refine V.less [(0, .ref (o)), (1, .ref (p)), (2, .int (nI (l)))] ⟨rfl, rfl, rfl, trivial⟩ ?_
  generalize hQ : (QX G X (fun S : MS => PWd G p c T ++ KWd G o b S) (Ri (fun r S' => r = nI (l + 1) ∧ S' = sA S 0 (upd (mA S 0) x (if mI S 5 &&& 16 = 0 then mA S 0 x - mA S 0 y else mA S 0 y - mA S 0 x)))) 0 0) = Qq
  refine v_aload_n (pc := 0) C dX0_doLine_0 rfl ?_
  refine v_getN (pc := 1) (v := .ref (c 1)) C inX1 0 rfl rfl 1 (by decide) nw_12 rfl dX0_doLine_1 ?_
  refine v_iload_n (pc := 4) C dX0_doLine_4 rfl ?_
  refine v_ialdN (pc := 5) (i := (l)) (f := (mA T 1)) C 2 rfl (by omega) (by decide) dX0_doLine_5 ?_
  refine v_cv (y := (nI (x))) (ex) ?_
  refine v_istore_n (pc := 6) C dX0_doLine_6 (by decide) ?_
  refine v_aload_n (pc := 7) C dX0_doLine_7 rfl ?_
  refine v_getN (pc := 8) (v := .ref (c 2)) C inX1 0 rfl rfl 2 (by decide) nw_14 rfl dX0_doLine_8 ?_
  refine v_iload_n (pc := 11) C dX0_doLine_11 rfl ?_
  refine v_ialdN (pc := 12) (i := (l)) (f := (mA T 2)) C 3 rfl (by omega) (by decide) dX0_doLine_12 ?_
  refine v_cv (y := (nI (y))) (ey) ?_
  refine v_istore (pc := 13) C dX0_doLine_13 (by decide) ?_
  refine v_aload_n (pc := 15) C dX0_doLine_15 rfl ?_
  refine v_getN (pc := 16) (v := .ref (c 0)) C inX1 0 rfl rfl 0 (by decide) nw_10 rfl dX0_doLine_16 ?_
  refine v_iload_n (pc := 19) C dX0_doLine_19 rfl ?_
  refine v_ialdN (pc := 20) (i := (l)) (f := (mA T 0)) C 1 rfl (by omega) (by decide) dX0_doLine_20 ?_
  refine v_cv (y := (3 : Int32)) (ho) ?_
  refine v_tableIn (pc := 21) (tgt := 142) C dX0_doLine_21 (by decide) (by decide) rfl (by decide) ?_
  refine v_aload_n (pc := 142) C dX0_doLine_142 rfl ?_
  refine v_get (pc := 143) (v := .ref (b 0)) C inX0 7 rfl rfl 0 (by decide) kw1_31 rfl dX0_doLine_143 ?_
  refine v_iload_n (pc := 146) C dX0_doLine_146 rfl ?_
  refine v_aload_n (pc := 147) C dX0_doLine_147 rfl ?_
  refine v_bipush (pc := 148) (v := 16) C dX0_doLine_148 (by decide) ?_
  refine v_callV (pc := 150) (st := [.int (nI (x)), .ref (b 0)]) (q0 := 0) (wr := (PWd G p c T)) C (kX0_has G o b S 16) ykX0_has cvX0_has kw2_8 dX0_doLine_150 rfl rfl rfl rfl rfl (by decide) (Nat.le_of_ble_eq_true rfl) (by decide) rfl (Ri_kk (fun r_150 u_150 h_150 => ?_))
  obtain ⟨e_150, h_150⟩ := h_150
  rw [e_150]
  refine V.same (ws' := (PWd G p c T ++ (KWd G o b S))) rfl ?_
  rcases (has01 h_150) with ⟨q_150, rfl⟩ | ⟨q_150, rfl⟩
  · refine v_if_eqT (pc := 153) (tgt := 173) C (by decide) dX0_doLine_153 (by decide) ?_
    refine v_aload_n (pc := 173) C dX0_doLine_173 rfl ?_
    refine v_get (pc := 174) (v := .ref (b 0)) C inX0 7 rfl rfl 0 (by decide) kw1_31 rfl dX0_doLine_174 ?_
    refine v_iload_n (pc := 177) C dX0_doLine_177 rfl ?_
    refine v_ialdN (pc := 178) (i := (x)) (f := (mA S 0)) C 8 rfl (by omega) (by decide) dX0_doLine_178 ?_
    refine v_aload_n (pc := 179) C dX0_doLine_179 rfl ?_
    refine v_get (pc := 180) (v := .ref (b 0)) C inX0 7 rfl rfl 0 (by decide) kw1_31 rfl dX0_doLine_180 ?_
    refine v_iload (pc := 183) C dX0_doLine_183 rfl ?_
    refine v_ialdN (pc := 185) (i := (y)) (f := (mA S 0)) C 8 rfl (by omega) (by decide) dX0_doLine_185 ?_
    refine v_isub (pc := 186) C dX0_doLine_186 ?_
    refine v_iastN (pc := 187) (i := (x)) (f := (mA S 0)) C 8 rfl (by omega) (by decide) dX0_doLine_187 (ws' := (PWd G p c T ++ (KWd G o b (sA S 0 (upd ((mA S 0)) (x) (((mA S 0) (x)) - ((mA S 0) (y)))))))) rfl ?_
    refine v_goto (pc := 188) (tgt := 342) C dX0_doLine_188 (by decide) ?_
    refine v_iload_n (pc := 342) C dX0_doLine_342 rfl ?_
    refine v_iconst (pc := 343) (v := 1) C dX0_doLine_343 (by decide) ?_
    refine v_iaddN (pc := 344) C (l) 1 rfl rfl dX0_doLine_344 ?_
    subst hQ
    exact v_iret (pc := 345) C dX0_doLine_345 (rfl) ((sA S 0 (upd ((mA S 0)) (x) (((mA S 0) (x)) - ((mA S 0) (y)))))) rfl (⟨rfl, by rw [if_pos q_150]⟩)
  · refine v_if_eqF (pc := 153) (tgt := 173) C (by decide) dX0_doLine_153 (by decide) ?_
    refine v_aload_n (pc := 156) C dX0_doLine_156 rfl ?_
    refine v_get (pc := 157) (v := .ref (b 0)) C inX0 7 rfl rfl 0 (by decide) kw1_31 rfl dX0_doLine_157 ?_
    refine v_iload (pc := 160) C dX0_doLine_160 rfl ?_
    refine v_ialdN (pc := 162) (i := (y)) (f := (mA S 0)) C 8 rfl (by omega) (by decide) dX0_doLine_162 ?_
    refine v_aload_n (pc := 163) C dX0_doLine_163 rfl ?_
    refine v_get (pc := 164) (v := .ref (b 0)) C inX0 7 rfl rfl 0 (by decide) kw1_31 rfl dX0_doLine_164 ?_
    refine v_iload_n (pc := 167) C dX0_doLine_167 rfl ?_
    refine v_ialdN (pc := 168) (i := (x)) (f := (mA S 0)) C 8 rfl (by omega) (by decide) dX0_doLine_168 ?_
    refine v_isub (pc := 169) C dX0_doLine_169 ?_
    refine v_goto (pc := 170) (tgt := 187) C dX0_doLine_170 (by decide) ?_
    refine v_iastN (pc := 187) (i := (x)) (f := (mA S 0)) C 8 rfl (by omega) (by decide) dX0_doLine_187 (ws' := (PWd G p c T ++ (KWd G o b (sA S 0 (upd ((mA S 0)) (x) (((mA S 0) (y)) - ((mA S 0) (x)))))))) rfl ?_
    refine v_goto (pc := 188) (tgt := 342) C dX0_doLine_188 (by decide) ?_
    refine v_iload_n (pc := 342) C dX0_doLine_342 rfl ?_
    refine v_iconst (pc := 343) (v := 1) C dX0_doLine_343 (by decide) ?_
    refine v_iaddN (pc := 344) C (l) 1 rfl rfl dX0_doLine_344 ?_
    subst hQ
    exact v_iret (pc := 345) C dX0_doLine_345 (rfl) ((sA S 0 (upd ((mA S 0)) (x) (((mA S 0) (y)) - ((mA S 0) (x)))))) rfl (⟨rfl, by rw [if_neg q_150]⟩)
set_option maxHeartbeats 4000000 in
set_option maxRecDepth 100000 in
theorem kX0_doLine_4 (G : TG) (p o : Nat) (c b : Nat → Nat) (T S : MS) (l : Nat) (hl : l < 20) (ho : mA T 0 l = 4) (x : Nat) (ex : mA T 1 l = nI x) (hx : x < 4) (e : Nat) (he : e < 20) (em : mA T 4 l = nI e) : CT G yX0_doLine cX0_doLine 5 (some .int) rmX0_doLine 0 0 [.ref (o), .ref (p), .int (nI (l))] (PWd G p c T ++ (KWd G o b S)) (fun S : MS => PWd G p c T ++ KWd G o b S) (Ri (fun r S' => r = nI (if 0 < mA S 0 x then l + 1 else e + 1) ∧ S' = (if 0 < mA S 0 x then sL S (vp_updL (mL S) l ((mA S 0 x).toInt64 + (if mI S 5 &&& 2 = 0 then 0 else 1))) else S))) := by
  refine CT.enter (by decide) (Nat.le_of_ble_eq_true rfl) (fun X C hnm => ?_)
  refine V.less [(0, .ref (o)), (1, .ref (p)), (2, .int (nI (l)))] ⟨rfl, rfl, rfl, trivial⟩ ?_
  generalize hQ : (QX G X (fun S : MS => PWd G p c T ++ KWd G o b S) (Ri (fun r S' => r = nI (if 0 < mA S 0 x then l + 1 else e + 1) ∧ S' = (if 0 < mA S 0 x then sL S (vp_updL (mL S) l ((mA S 0 x).toInt64 + (if mI S 5 &&& 2 = 0 then 0 else 1))) else S))) 0 0) = Qq
  refine v_aload_n (pc := 0) C dX0_doLine_0 rfl ?_
  refine v_getN (pc := 1) (v := .ref (c 1)) C inX1 0 rfl rfl 1 (by decide) nw_12 rfl dX0_doLine_1 ?_
  refine v_iload_n (pc := 4) C dX0_doLine_4 rfl ?_
  refine v_ialdN (pc := 5) (i := (l)) (f := (mA T 1)) C 2 rfl (by omega) (by decide) dX0_doLine_5 ?_
  refine v_cv (y := (nI (x))) (ex) ?_
  refine v_istore_n (pc := 6) C dX0_doLine_6 (by decide) ?_
  refine v_aload_n (pc := 7) C dX0_doLine_7 rfl ?_
  refine v_getN (pc := 8) (v := .ref (c 2)) C inX1 0 rfl rfl 2 (by decide) nw_14 rfl dX0_doLine_8 ?_
  refine v_iload_n (pc := 11) C dX0_doLine_11 rfl ?_
  refine v_ialdN (pc := 12) (i := (l)) (f := (mA T 2)) C 3 rfl (by omega) (by decide) dX0_doLine_12 ?_
  refine v_istore (pc := 13) C dX0_doLine_13 (by decide) ?_
  refine v_aload_n (pc := 15) C dX0_doLine_15 rfl ?_
  refine v_getN (pc := 16) (v := .ref (c 0)) C inX1 0 rfl rfl 0 (by decide) nw_10 rfl dX0_doLine_16 ?_
  refine v_iload_n (pc := 19) C dX0_doLine_19 rfl ?_
  refine v_ialdN (pc := 20) (i := (l)) (f := (mA T 0)) C 1 rfl (by omega) (by decide) dX0_doLine_20 ?_
  refine v_cv (y := (4 : Int32)) (ho) ?_
  refine v_tableIn (pc := 21) (tgt := 191) C dX0_doLine_21 (by decide) (by decide) rfl (by decide) ?_
  refine v_aload_n (pc := 191) C dX0_doLine_191 rfl ?_
  refine v_iload_n (pc := 192) C dX0_doLine_192 rfl ?_
  refine v_iload_n (pc := 193) C dX0_doLine_193 rfl ?_
  refine v_aload_n (pc := 194) C dX0_doLine_194 rfl ?_
  refine v_iconst (pc := 195) (v := 2) C dX0_doLine_195 (by decide) ?_
  refine v_callV (pc := 196) (st := [.int (nI (x)), .int (nI (l)), .ref (o)]) (q0 := 0) (wr := (PWd G p c T)) C (kX0_has G o b S 2) ykX0_has cvX0_has kw2_8 dX0_doLine_196 rfl rfl rfl rfl rfl (by decide) (Nat.le_of_ble_eq_true rfl) (by decide) rfl (Ri_kk (fun r_196 u_196 h_196 => ?_))
  obtain ⟨e_196, h_196⟩ := h_196
  rw [e_196]
  refine V.same (ws' := (PWd G p c T ++ (KWd G o b S))) rfl ?_
  rcases (has01 h_196) with ⟨q_196, rfl⟩ | ⟨q_196, rfl⟩
  · refine v_callV (pc := 199) (st := []) (q0 := 0) (wr := (PWd G p c T)) C (kX0_enterLoop G o b S l x (0 : Int32) hl hx) ykX0_enterLoop cvX0_enterLoop kw2_12 dX0_doLine_199 rfl rfl rfl rfl rfl (by decide) (Nat.le_of_ble_eq_true rfl) (by decide) rfl (Ri_kk (fun r_199 u_199 h_199 => ?_))
    refine V.same (ws' := (PWd G p c T ++ (KWd G o b u_199))) rfl ?_
    rcases (im2 h_199) with ⟨g_199, rfl, e_199⟩ | ⟨g_199, rfl, e_199⟩
    · rw [e_199]
      refine v_if_eqT (pc := 202) (tgt := 211) C (by decide) dX0_doLine_202 (by decide) ?_
      refine v_aload_n (pc := 211) C dX0_doLine_211 rfl ?_
      refine v_getN (pc := 212) (v := .ref (c 4)) C inX1 0 rfl rfl 4 (by decide) nw_16 rfl dX0_doLine_212 ?_
      refine v_iload_n (pc := 215) C dX0_doLine_215 rfl ?_
      refine v_ialdN (pc := 216) (i := (l)) (f := (mA T 4)) C 5 rfl (by omega) (by decide) dX0_doLine_216 ?_
      refine v_cv (y := (nI (e))) (em) ?_
      refine v_iconst (pc := 217) (v := 1) C dX0_doLine_217 (by decide) ?_
      refine v_iaddN (pc := 218) C (e) 1 rfl rfl dX0_doLine_218 ?_
      subst hQ
      exact v_iret (pc := 219) C dX0_doLine_219 (rfl) (S) rfl (⟨by rw [if_neg g_199], by rw [if_neg g_199]⟩)
    · rw [e_199]
      refine v_if_eqF (pc := 202) (tgt := 211) C (by decide) dX0_doLine_202 (by decide) ?_
      refine v_iload_n (pc := 205) C dX0_doLine_205 rfl ?_
      refine v_iconst (pc := 206) (v := 1) C dX0_doLine_206 (by decide) ?_
      refine v_iaddN (pc := 207) C (l) 1 rfl rfl dX0_doLine_207 ?_
      refine v_goto (pc := 208) (tgt := 219) C dX0_doLine_208 (by decide) ?_
      subst hQ
      exact v_iret (pc := 219) C dX0_doLine_219 (rfl) ((sL S (vp_updL (mL S) l ((mA S 0 x).toInt64 + (if (0 : Int32) = 0 then 0 else 1))))) rfl (⟨by rw [if_pos g_199], by rw [if_pos g_199, if_pos q_196]; rfl⟩)
  · refine v_callV (pc := 199) (st := []) (q0 := 0) (wr := (PWd G p c T)) C (kX0_enterLoop G o b S l x (1 : Int32) hl hx) ykX0_enterLoop cvX0_enterLoop kw2_12 dX0_doLine_199 rfl rfl rfl rfl rfl (by decide) (Nat.le_of_ble_eq_true rfl) (by decide) rfl (Ri_kk (fun r_199 u_199 h_199 => ?_))
    refine V.same (ws' := (PWd G p c T ++ (KWd G o b u_199))) rfl ?_
    rcases (im2 h_199) with ⟨g_199, rfl, e_199⟩ | ⟨g_199, rfl, e_199⟩
    · rw [e_199]
      refine v_if_eqT (pc := 202) (tgt := 211) C (by decide) dX0_doLine_202 (by decide) ?_
      refine v_aload_n (pc := 211) C dX0_doLine_211 rfl ?_
      refine v_getN (pc := 212) (v := .ref (c 4)) C inX1 0 rfl rfl 4 (by decide) nw_16 rfl dX0_doLine_212 ?_
      refine v_iload_n (pc := 215) C dX0_doLine_215 rfl ?_
      refine v_ialdN (pc := 216) (i := (l)) (f := (mA T 4)) C 5 rfl (by omega) (by decide) dX0_doLine_216 ?_
      refine v_cv (y := (nI (e))) (em) ?_
      refine v_iconst (pc := 217) (v := 1) C dX0_doLine_217 (by decide) ?_
      refine v_iaddN (pc := 218) C (e) 1 rfl rfl dX0_doLine_218 ?_
      subst hQ
      exact v_iret (pc := 219) C dX0_doLine_219 (rfl) (S) rfl (⟨by rw [if_neg g_199], by rw [if_neg g_199]⟩)
    · rw [e_199]
      refine v_if_eqF (pc := 202) (tgt := 211) C (by decide) dX0_doLine_202 (by decide) ?_
      refine v_iload_n (pc := 205) C dX0_doLine_205 rfl ?_
      refine v_iconst (pc := 206) (v := 1) C dX0_doLine_206 (by decide) ?_
      refine v_iaddN (pc := 207) C (l) 1 rfl rfl dX0_doLine_207 ?_
      refine v_goto (pc := 208) (tgt := 219) C dX0_doLine_208 (by decide) ?_
      subst hQ
      exact v_iret (pc := 219) C dX0_doLine_219 (rfl) ((sL S (vp_updL (mL S) l ((mA S 0 x).toInt64 + (if (1 : Int32) = 0 then 0 else 1))))) rfl (⟨by rw [if_pos g_199], by rw [if_pos g_199, if_neg q_196]; rfl⟩)
set_option maxHeartbeats 4000000 in
set_option maxRecDepth 100000 in
theorem kX0_doLine_5 (G : TG) (p o : Nat) (c b : Nat → Nat) (T S : MS) (l : Nat) (hl : l < 20) (ho : mA T 0 l = 5) (x : Nat) (ex : mA T 1 l = nI x) (y : Nat) (ey : mA T 2 l = nI y) (hx : x < 4) (hy : y < 4) (e : Nat) (he : e < 20) (em : mA T 4 l = nI e) : CT G yX0_doLine cX0_doLine 5 (some .int) rmX0_doLine 0 0 [.ref (o), .ref (p), .int (nI (l))] (PWd G p c T ++ (KWd G o b S)) (fun S : MS => PWd G p c T ++ KWd G o b S) (Ri (fun r S' => r = nI (if (mA S 0 x < mA S 0 y ∨ (¬ mI S 5 &&& 8 = 0 ∧ mA S 0 x = mA S 0 y)) then l + 1 else e + 1) ∧ S' = S)) := by
  refine CT.enter (by decide) (Nat.le_of_ble_eq_true rfl) (fun X C hnm => ?_)
  refine V.less [(0, .ref (o)), (1, .ref (p)), (2, .int (nI (l)))] ⟨rfl, rfl, rfl, trivial⟩ ?_
  generalize hQ : (QX G X (fun S : MS => PWd G p c T ++ KWd G o b S) (Ri (fun r S' => r = nI (if (mA S 0 x < mA S 0 y ∨ (¬ mI S 5 &&& 8 = 0 ∧ mA S 0 x = mA S 0 y)) then l + 1 else e + 1) ∧ S' = S)) 0 0) = Qq
  refine v_aload_n (pc := 0) C dX0_doLine_0 rfl ?_
  refine v_getN (pc := 1) (v := .ref (c 1)) C inX1 0 rfl rfl 1 (by decide) nw_12 rfl dX0_doLine_1 ?_
  refine v_iload_n (pc := 4) C dX0_doLine_4 rfl ?_
  refine v_ialdN (pc := 5) (i := (l)) (f := (mA T 1)) C 2 rfl (by omega) (by decide) dX0_doLine_5 ?_
  refine v_cv (y := (nI (x))) (ex) ?_
  refine v_istore_n (pc := 6) C dX0_doLine_6 (by decide) ?_
  refine v_aload_n (pc := 7) C dX0_doLine_7 rfl ?_
  refine v_getN (pc := 8) (v := .ref (c 2)) C inX1 0 rfl rfl 2 (by decide) nw_14 rfl dX0_doLine_8 ?_
  refine v_iload_n (pc := 11) C dX0_doLine_11 rfl ?_
  refine v_ialdN (pc := 12) (i := (l)) (f := (mA T 2)) C 3 rfl (by omega) (by decide) dX0_doLine_12 ?_
  refine v_cv (y := (nI (y))) (ey) ?_
  refine v_istore (pc := 13) C dX0_doLine_13 (by decide) ?_
  refine v_aload_n (pc := 15) C dX0_doLine_15 rfl ?_
  refine v_getN (pc := 16) (v := .ref (c 0)) C inX1 0 rfl rfl 0 (by decide) nw_10 rfl dX0_doLine_16 ?_
  refine v_iload_n (pc := 19) C dX0_doLine_19 rfl ?_
  refine v_ialdN (pc := 20) (i := (l)) (f := (mA T 0)) C 1 rfl (by omega) (by decide) dX0_doLine_20 ?_
  refine v_cv (y := (5 : Int32)) (ho) ?_
  refine v_tableIn (pc := 21) (tgt := 220) C dX0_doLine_21 (by decide) (by decide) rfl (by decide) ?_
  refine v_aload_n (pc := 220) C dX0_doLine_220 rfl ?_
  refine v_iload_n (pc := 221) C dX0_doLine_221 rfl ?_
  refine v_iload (pc := 222) C dX0_doLine_222 rfl ?_
  refine v_aload_n (pc := 224) C dX0_doLine_224 rfl ?_
  refine v_bipush (pc := 225) (v := 8) C dX0_doLine_225 (by decide) ?_
  refine v_callV (pc := 227) (st := [.int (nI (y)), .int (nI (x)), .ref (o)]) (q0 := 0) (wr := (PWd G p c T)) C (kX0_has G o b S 8) ykX0_has cvX0_has kw2_8 dX0_doLine_227 rfl rfl rfl rfl rfl (by decide) (Nat.le_of_ble_eq_true rfl) (by decide) rfl (Ri_kk (fun r_227 u_227 h_227 => ?_))
  obtain ⟨e_227, h_227⟩ := h_227
  rw [e_227]
  refine V.same (ws' := (PWd G p c T ++ (KWd G o b S))) rfl ?_
  rcases (has01 h_227) with ⟨q_227, rfl⟩ | ⟨q_227, rfl⟩
  · refine v_callV (pc := 230) (st := []) (q0 := 0) (wr := (PWd G p c T)) C (kX0_isLess G o b S x y (0 : Int32) hx hy) ykX0_isLess cvX0_isLess kw2_16 dX0_doLine_230 rfl rfl rfl rfl rfl (by decide) (Nat.le_of_ble_eq_true rfl) (by decide) rfl (Ri_kk (fun r_230 u_230 h_230 => ?_))
    obtain ⟨e_230, h_230⟩ := h_230
    rw [e_230]
    refine V.same (ws' := (PWd G p c T ++ (KWd G o b S))) rfl ?_
    rcases (if01 h_230) with ⟨q_230, rfl⟩ | ⟨q_230, rfl⟩
    · refine v_if_eqT (pc := 233) (tgt := 242) C (by decide) dX0_doLine_233 (by decide) ?_
      refine v_aload_n (pc := 242) C dX0_doLine_242 rfl ?_
      refine v_getN (pc := 243) (v := .ref (c 4)) C inX1 0 rfl rfl 4 (by decide) nw_16 rfl dX0_doLine_243 ?_
      refine v_iload_n (pc := 246) C dX0_doLine_246 rfl ?_
      refine v_ialdN (pc := 247) (i := (l)) (f := (mA T 4)) C 5 rfl (by omega) (by decide) dX0_doLine_247 ?_
      refine v_cv (y := (nI (e))) (em) ?_
      refine v_iconst (pc := 248) (v := 1) C dX0_doLine_248 (by decide) ?_
      refine v_iaddN (pc := 249) C (e) 1 rfl rfl dX0_doLine_249 ?_
      subst hQ
      exact v_iret (pc := 250) C dX0_doLine_250 (rfl) (S) rfl (⟨by rw [if_neg (fun z => z.elim (fun y => q_230 (Or.inl y)) (fun y => y.1 q_227))], rfl⟩)
    · refine v_if_eqF (pc := 233) (tgt := 242) C (by decide) dX0_doLine_233 (by decide) ?_
      refine v_iload_n (pc := 236) C dX0_doLine_236 rfl ?_
      refine v_iconst (pc := 237) (v := 1) C dX0_doLine_237 (by decide) ?_
      refine v_iaddN (pc := 238) C (l) 1 rfl rfl dX0_doLine_238 ?_
      refine v_goto (pc := 239) (tgt := 250) C dX0_doLine_239 (by decide) ?_
      subst hQ
      exact v_iret (pc := 250) C dX0_doLine_250 (rfl) (S) rfl (⟨by rw [if_pos (q_230.elim Or.inl (fun y => absurd rfl y.1))], rfl⟩)
  · refine v_callV (pc := 230) (st := []) (q0 := 0) (wr := (PWd G p c T)) C (kX0_isLess G o b S x y (1 : Int32) hx hy) ykX0_isLess cvX0_isLess kw2_16 dX0_doLine_230 rfl rfl rfl rfl rfl (by decide) (Nat.le_of_ble_eq_true rfl) (by decide) rfl (Ri_kk (fun r_230 u_230 h_230 => ?_))
    obtain ⟨e_230, h_230⟩ := h_230
    rw [e_230]
    refine V.same (ws' := (PWd G p c T ++ (KWd G o b S))) rfl ?_
    rcases (if01 h_230) with ⟨q_230, rfl⟩ | ⟨q_230, rfl⟩
    · refine v_if_eqT (pc := 233) (tgt := 242) C (by decide) dX0_doLine_233 (by decide) ?_
      refine v_aload_n (pc := 242) C dX0_doLine_242 rfl ?_
      refine v_getN (pc := 243) (v := .ref (c 4)) C inX1 0 rfl rfl 4 (by decide) nw_16 rfl dX0_doLine_243 ?_
      refine v_iload_n (pc := 246) C dX0_doLine_246 rfl ?_
      refine v_ialdN (pc := 247) (i := (l)) (f := (mA T 4)) C 5 rfl (by omega) (by decide) dX0_doLine_247 ?_
      refine v_cv (y := (nI (e))) (em) ?_
      refine v_iconst (pc := 248) (v := 1) C dX0_doLine_248 (by decide) ?_
      refine v_iaddN (pc := 249) C (e) 1 rfl rfl dX0_doLine_249 ?_
      subst hQ
      exact v_iret (pc := 250) C dX0_doLine_250 (rfl) (S) rfl (⟨by rw [if_neg (fun z => z.elim (fun y => q_230 (Or.inl y)) (fun y => q_230 (Or.inr ⟨by decide, y.2⟩)))], rfl⟩)
    · refine v_if_eqF (pc := 233) (tgt := 242) C (by decide) dX0_doLine_233 (by decide) ?_
      refine v_iload_n (pc := 236) C dX0_doLine_236 rfl ?_
      refine v_iconst (pc := 237) (v := 1) C dX0_doLine_237 (by decide) ?_
      refine v_iaddN (pc := 238) C (l) 1 rfl rfl dX0_doLine_238 ?_
      refine v_goto (pc := 239) (tgt := 250) C dX0_doLine_239 (by decide) ?_
      subst hQ
      exact v_iret (pc := 250) C dX0_doLine_250 (rfl) (S) rfl (⟨by rw [if_pos (q_230.elim Or.inl (fun y => Or.inr ⟨q_227, y.2⟩))], rfl⟩)
set_option maxHeartbeats 4000000 in
set_option maxRecDepth 100000 in
theorem kX0_doLine_6 (G : TG) (p o : Nat) (c b : Nat → Nat) (T S : MS) (l : Nat) (hl : l < 20) (ho : mA T 0 l = 6) (m : Nat) (hm : m < 20) (em : mA T 4 l = nI m) : CT G yX0_doLine cX0_doLine 5 (some .int) rmX0_doLine 0 0 [.ref (o), .ref (p), .int (nI (l))] (PWd G p c T ++ (KWd G o b S)) (fun S : MS => PWd G p c T ++ KWd G o b S) (Ri (fun r S' => (¬ mA T 0 m = 4 → r = nI (l + 1) ∧ S' = S) ∧ (mA T 0 m = 4 → r = nI (if 0 < mL S m - 1 then m + 1 else l + 1) ∧ S' = sL S (vp_updL (mL S) m (mL S m - 1))))) := by
  refine CT.enter (by decide) (Nat.le_of_ble_eq_true rfl) (fun X C hnm => ?_)
  refine V.less [(0, .ref (o)), (1, .ref (p)), (2, .int (nI (l)))] ⟨rfl, rfl, rfl, trivial⟩ ?_
  generalize hQ : (QX G X (fun S : MS => PWd G p c T ++ KWd G o b S) (Ri (fun r S' => (¬ mA T 0 m = 4 → r = nI (l + 1) ∧ S' = S) ∧ (mA T 0 m = 4 → r = nI (if 0 < mL S m - 1 then m + 1 else l + 1) ∧ S' = sL S (vp_updL (mL S) m (mL S m - 1))))) 0 0) = Qq
  refine v_aload_n (pc := 0) C dX0_doLine_0 rfl ?_
  refine v_getN (pc := 1) (v := .ref (c 1)) C inX1 0 rfl rfl 1 (by decide) nw_12 rfl dX0_doLine_1 ?_
  refine v_iload_n (pc := 4) C dX0_doLine_4 rfl ?_
  refine v_ialdN (pc := 5) (i := (l)) (f := (mA T 1)) C 2 rfl (by omega) (by decide) dX0_doLine_5 ?_
  refine v_istore_n (pc := 6) C dX0_doLine_6 (by decide) ?_
  refine v_aload_n (pc := 7) C dX0_doLine_7 rfl ?_
  refine v_getN (pc := 8) (v := .ref (c 2)) C inX1 0 rfl rfl 2 (by decide) nw_14 rfl dX0_doLine_8 ?_
  refine v_iload_n (pc := 11) C dX0_doLine_11 rfl ?_
  refine v_ialdN (pc := 12) (i := (l)) (f := (mA T 2)) C 3 rfl (by omega) (by decide) dX0_doLine_12 ?_
  refine v_istore (pc := 13) C dX0_doLine_13 (by decide) ?_
  refine v_aload_n (pc := 15) C dX0_doLine_15 rfl ?_
  refine v_getN (pc := 16) (v := .ref (c 0)) C inX1 0 rfl rfl 0 (by decide) nw_10 rfl dX0_doLine_16 ?_
  refine v_iload_n (pc := 19) C dX0_doLine_19 rfl ?_
  refine v_ialdN (pc := 20) (i := (l)) (f := (mA T 0)) C 1 rfl (by omega) (by decide) dX0_doLine_20 ?_
  refine v_cv (y := (6 : Int32)) (ho) ?_
  refine v_tableIn (pc := 21) (tgt := 251) C dX0_doLine_21 (by decide) (by decide) rfl (by decide) ?_
  refine v_aload_n (pc := 251) C dX0_doLine_251 rfl ?_
  refine v_aload_n (pc := 252) C dX0_doLine_252 rfl ?_
  refine v_iload_n (pc := 253) C dX0_doLine_253 rfl ?_
  refine v_callV0 (pc := 254) (st := []) (q0 := 7) C (kX0_goesRound G p o c b T S l m hl hm em) ykX0_goesRound cvX0_goesRound kw2_20 dX0_doLine_254 rfl rfl rfl rfl rfl (by decide) (Nat.le_of_ble_eq_true rfl) (by decide) rfl (Ri_kk (fun r_254 u_254 h_254 => ?_))
  rcases (im3 h_254) with ⟨g_254, rfl, e_254⟩ | ⟨g_254, z_254, rfl, e_254⟩ | ⟨g_254, z_254, rfl, e_254⟩
  · rw [e_254]
    refine v_if_eqT (pc := 257) (tgt := 271) C (by decide) dX0_doLine_257 (by decide) ?_
    refine v_iload_n (pc := 271) C dX0_doLine_271 rfl ?_
    refine v_iconst (pc := 272) (v := 1) C dX0_doLine_272 (by decide) ?_
    refine v_iaddN (pc := 273) C (l) 1 rfl rfl dX0_doLine_273 ?_
    subst hQ
    exact v_iret (pc := 274) C dX0_doLine_274 (rfl) (S) rfl (⟨fun _ => ⟨rfl, rfl⟩, fun q => absurd q g_254⟩)
  · rw [e_254]
    refine v_if_eqT (pc := 257) (tgt := 271) C (by decide) dX0_doLine_257 (by decide) ?_
    refine v_iload_n (pc := 271) C dX0_doLine_271 rfl ?_
    refine v_iconst (pc := 272) (v := 1) C dX0_doLine_272 (by decide) ?_
    refine v_iaddN (pc := 273) C (l) 1 rfl rfl dX0_doLine_273 ?_
    subst hQ
    exact v_iret (pc := 274) C dX0_doLine_274 (rfl) ((sL S (vp_updL (mL S) m (mL S m - 1)))) rfl (⟨fun q => absurd g_254 q, fun _ => ⟨by rw [if_neg z_254], rfl⟩⟩)
  · rw [e_254]
    refine v_if_eqF (pc := 257) (tgt := 271) C (by decide) dX0_doLine_257 (by decide) ?_
    refine v_aload_n (pc := 260) C dX0_doLine_260 rfl ?_
    refine v_getN (pc := 261) (v := .ref (c 4)) C inX1 0 rfl rfl 4 (by decide) nw_16 rfl dX0_doLine_261 ?_
    refine v_iload_n (pc := 264) C dX0_doLine_264 rfl ?_
    refine v_ialdN (pc := 265) (i := (l)) (f := (mA T 4)) C 5 rfl (by omega) (by decide) dX0_doLine_265 ?_
    refine v_cv (y := (nI (m))) (em) ?_
    refine v_iconst (pc := 266) (v := 1) C dX0_doLine_266 (by decide) ?_
    refine v_iaddN (pc := 267) C (m) 1 rfl rfl dX0_doLine_267 ?_
    refine v_goto (pc := 268) (tgt := 274) C dX0_doLine_268 (by decide) ?_
    subst hQ
    exact v_iret (pc := 274) C dX0_doLine_274 (rfl) ((sL S (vp_updL (mL S) m (mL S m - 1)))) rfl (⟨fun q => absurd g_254 q, fun _ => ⟨by rw [if_pos z_254], rfl⟩⟩)
set_option maxHeartbeats 4000000 in
set_option maxRecDepth 100000 in
theorem kX0_doLine_7 (G : TG) (p o : Nat) (c b : Nat → Nat) (T S : MS) (l : Nat) (hl : l < 20) (ho : mA T 0 l = 7) (x : Nat) (ex : mA T 1 l = nI x) (y : Nat) (ey : mA T 2 l = nI y) (hx : x < 8) (hy : y < 4) (hr : okK S) : CT G yX0_doLine cX0_doLine 5 (some .int) rmX0_doLine 0 0 [.ref (o), .ref (p), .int (nI (l))] (PWd G p c T ++ (KWd G o b S)) (fun S : MS => PWd G p c T ++ KWd G o b S) (Ri (fun r S' => r = nI (l + 1) ∧ S' = sA S 1 (upd (mA S 1) (tn (mA S 2 (x / 4)) + tn ((mA S 0 (x % 4) + 0) &&& 3)) (mA S 0 y)))) := by
  refine CT.enter (by decide) (Nat.le_of_ble_eq_true rfl) (fun X C hnm => ?_)
  refine V.less [(0, .ref (o)), (1, .ref (p)), (2, .int (nI (l)))] ⟨rfl, rfl, rfl, trivial⟩ ?_
  generalize hQ : (QX G X (fun S : MS => PWd G p c T ++ KWd G o b S) (Ri (fun r S' => r = nI (l + 1) ∧ S' = sA S 1 (upd (mA S 1) (tn (mA S 2 (x / 4)) + tn ((mA S 0 (x % 4) + 0) &&& 3)) (mA S 0 y)))) 0 0) = Qq
  obtain ⟨ρ, hρ, eρ, tρ⟩ := okK_at hr (show x / 4 < 2 by omega)
  obtain ⟨κ, hκ, eκ⟩ := pk_andE (mA S 0 (x % 4) + 0) (m := 3) 2 (by decide)
  have tκ : tn ((mA S 0 (x % 4) + 0) &&& 3) = κ := by rw [eκ]; exact tn_nI (n := κ) (by omega)
  refine v_aload_n (pc := 0) C dX0_doLine_0 rfl ?_
  refine v_getN (pc := 1) (v := .ref (c 1)) C inX1 0 rfl rfl 1 (by decide) nw_12 rfl dX0_doLine_1 ?_
  refine v_iload_n (pc := 4) C dX0_doLine_4 rfl ?_
  refine v_ialdN (pc := 5) (i := (l)) (f := (mA T 1)) C 2 rfl (by omega) (by decide) dX0_doLine_5 ?_
  refine v_cv (y := (nI (x))) (ex) ?_
  refine v_istore_n (pc := 6) C dX0_doLine_6 (by decide) ?_
  refine v_aload_n (pc := 7) C dX0_doLine_7 rfl ?_
  refine v_getN (pc := 8) (v := .ref (c 2)) C inX1 0 rfl rfl 2 (by decide) nw_14 rfl dX0_doLine_8 ?_
  refine v_iload_n (pc := 11) C dX0_doLine_11 rfl ?_
  refine v_ialdN (pc := 12) (i := (l)) (f := (mA T 2)) C 3 rfl (by omega) (by decide) dX0_doLine_12 ?_
  refine v_cv (y := (nI (y))) (ey) ?_
  refine v_istore (pc := 13) C dX0_doLine_13 (by decide) ?_
  refine v_aload_n (pc := 15) C dX0_doLine_15 rfl ?_
  refine v_getN (pc := 16) (v := .ref (c 0)) C inX1 0 rfl rfl 0 (by decide) nw_10 rfl dX0_doLine_16 ?_
  refine v_iload_n (pc := 19) C dX0_doLine_19 rfl ?_
  refine v_ialdN (pc := 20) (i := (l)) (f := (mA T 0)) C 1 rfl (by omega) (by decide) dX0_doLine_20 ?_
  refine v_cv (y := (7 : Int32)) (ho) ?_
  refine v_tableIn (pc := 21) (tgt := 275) C dX0_doLine_21 (by decide) (by decide) rfl (by decide) ?_
  refine v_aload_n (pc := 275) C dX0_doLine_275 rfl ?_
  refine v_get (pc := 276) (v := .ref (b 1)) C inX0 7 rfl rfl 1 (by decide) kw1_33 rfl dX0_doLine_276 ?_
  refine v_aload_n (pc := 279) C dX0_doLine_279 rfl ?_
  refine v_iload_n (pc := 280) C dX0_doLine_280 rfl ?_
  refine v_iconst (pc := 281) (v := 0) C dX0_doLine_281 (by decide) ?_
  refine v_callV (pc := 282) (st := [.ref (b 1)]) (q0 := 0) (wr := (PWd G p c T)) C (kX0_placeOf G o b S (x) (0 : Int32) (by omega) hr) ykX0_placeOf cvX0_placeOf kw2_24 dX0_doLine_282 rfl rfl rfl rfl rfl (by decide) (Nat.le_of_ble_eq_true rfl) (by decide) rfl (Ri_kk (fun r_282 u_282 h_282 => ?_))
  obtain ⟨e_282, er_282⟩ := h_282
  rw [e_282]
  subst er_282
  refine V.same (ws' := (PWd G p c T ++ (KWd G o b S))) rfl ?_
  refine v_aload_n (pc := 285) C dX0_doLine_285 rfl ?_
  refine v_get (pc := 286) (v := .ref (b 0)) C inX0 7 rfl rfl 0 (by decide) kw1_31 rfl dX0_doLine_286 ?_
  refine v_iload (pc := 289) C dX0_doLine_289 rfl ?_
  refine v_ialdN (pc := 291) (i := (y)) (f := (mA S 0)) C 8 rfl (by omega) (by decide) dX0_doLine_291 ?_
  refine v_iastN (pc := 292) (i := (tn (mA S 2 (x / 4)) + tn ((mA S 0 (x % 4) + 0) &&& 3))) (f := (mA S 1)) C 9 rfl (by omega) (by decide) dX0_doLine_292 (ws' := (PWd G p c T ++ (KWd G o b (sA S 1 (upd ((mA S 1)) (tn (mA S 2 (x / 4)) + tn ((mA S 0 (x % 4) + 0) &&& 3)) ((mA S 0) (y))))))) rfl ?_
  refine v_goto (pc := 293) (tgt := 342) C dX0_doLine_293 (by decide) ?_
  refine v_iload_n (pc := 342) C dX0_doLine_342 rfl ?_
  refine v_iconst (pc := 343) (v := 1) C dX0_doLine_343 (by decide) ?_
  refine v_iaddN (pc := 344) C (l) 1 rfl rfl dX0_doLine_344 ?_
  subst hQ
  exact v_iret (pc := 345) C dX0_doLine_345 (rfl) ((sA S 1 (upd ((mA S 1)) (tn (mA S 2 (x / 4)) + tn ((mA S 0 (x % 4) + 0) &&& 3)) ((mA S 0) (y))))) rfl (⟨rfl, rfl⟩)
set_option maxHeartbeats 4000000 in
set_option maxRecDepth 100000 in
theorem kX0_doLine_8 (G : TG) (p o : Nat) (c b : Nat → Nat) (T S : MS) (l : Nat) (hl : l < 20) (ho : mA T 0 l = 8) (x : Nat) (ex : mA T 1 l = nI x) (y : Nat) (ey : mA T 2 l = nI y) (hx : x < 4) (hy : y < 8) (hr : okK S) : CT G yX0_doLine cX0_doLine 5 (some .int) rmX0_doLine 0 0 [.ref (o), .ref (p), .int (nI (l))] (PWd G p c T ++ (KWd G o b S)) (fun S : MS => PWd G p c T ++ KWd G o b S) (Ri (fun r S' => r = nI (l + 1) ∧ S' = sA S 0 (upd (mA S 0) x (mA S 1 (tn (mA S 2 (y / 4)) + tn ((mA S 0 (y % 4) + (if mI S 5 &&& 32 = 0 then 0 else 1)) &&& 3)))))) := by
  refine CT.enter (by decide) (Nat.le_of_ble_eq_true rfl) (fun X C hnm => ?_)
  refine V.less [(0, .ref (o)), (1, .ref (p)), (2, .int (nI (l)))] ⟨rfl, rfl, rfl, trivial⟩ ?_
  generalize hQ : (QX G X (fun S : MS => PWd G p c T ++ KWd G o b S) (Ri (fun r S' => r = nI (l + 1) ∧ S' = sA S 0 (upd (mA S 0) x (mA S 1 (tn (mA S 2 (y / 4)) + tn ((mA S 0 (y % 4) + (if mI S 5 &&& 32 = 0 then 0 else 1)) &&& 3)))))) 0 0) = Qq
  obtain ⟨ρ, hρ, eρ, tρ⟩ := okK_at hr (show y / 4 < 2 by omega)
  obtain ⟨κ, hκ, eκ⟩ := pk_andE (mA S 0 (y % 4) + (if mI S 5 &&& 32 = 0 then 0 else 1)) (m := 3) 2 (by decide)
  have tκ : tn ((mA S 0 (y % 4) + (if mI S 5 &&& 32 = 0 then 0 else 1)) &&& 3) = κ := by rw [eκ]; exact tn_nI (n := κ) (by omega)
  refine v_aload_n (pc := 0) C dX0_doLine_0 rfl ?_
  refine v_getN (pc := 1) (v := .ref (c 1)) C inX1 0 rfl rfl 1 (by decide) nw_12 rfl dX0_doLine_1 ?_
  refine v_iload_n (pc := 4) C dX0_doLine_4 rfl ?_
  refine v_ialdN (pc := 5) (i := (l)) (f := (mA T 1)) C 2 rfl (by omega) (by decide) dX0_doLine_5 ?_
  refine v_cv (y := (nI (x))) (ex) ?_
  refine v_istore_n (pc := 6) C dX0_doLine_6 (by decide) ?_
  refine v_aload_n (pc := 7) C dX0_doLine_7 rfl ?_
  refine v_getN (pc := 8) (v := .ref (c 2)) C inX1 0 rfl rfl 2 (by decide) nw_14 rfl dX0_doLine_8 ?_
  refine v_iload_n (pc := 11) C dX0_doLine_11 rfl ?_
  refine v_ialdN (pc := 12) (i := (l)) (f := (mA T 2)) C 3 rfl (by omega) (by decide) dX0_doLine_12 ?_
  refine v_cv (y := (nI (y))) (ey) ?_
  refine v_istore (pc := 13) C dX0_doLine_13 (by decide) ?_
  refine v_aload_n (pc := 15) C dX0_doLine_15 rfl ?_
  refine v_getN (pc := 16) (v := .ref (c 0)) C inX1 0 rfl rfl 0 (by decide) nw_10 rfl dX0_doLine_16 ?_
  refine v_iload_n (pc := 19) C dX0_doLine_19 rfl ?_
  refine v_ialdN (pc := 20) (i := (l)) (f := (mA T 0)) C 1 rfl (by omega) (by decide) dX0_doLine_20 ?_
  refine v_cv (y := (8 : Int32)) (ho) ?_
  refine v_tableIn (pc := 21) (tgt := 296) C dX0_doLine_21 (by decide) (by decide) rfl (by decide) ?_
  refine v_aload_n (pc := 296) C dX0_doLine_296 rfl ?_
  refine v_get (pc := 297) (v := .ref (b 0)) C inX0 7 rfl rfl 0 (by decide) kw1_31 rfl dX0_doLine_297 ?_
  refine v_iload_n (pc := 300) C dX0_doLine_300 rfl ?_
  refine v_aload_n (pc := 301) C dX0_doLine_301 rfl ?_
  refine v_get (pc := 302) (v := .ref (b 1)) C inX0 7 rfl rfl 1 (by decide) kw1_33 rfl dX0_doLine_302 ?_
  refine v_aload_n (pc := 305) C dX0_doLine_305 rfl ?_
  refine v_iload (pc := 306) C dX0_doLine_306 rfl ?_
  refine v_aload_n (pc := 308) C dX0_doLine_308 rfl ?_
  refine v_bipush (pc := 309) (v := 32) C dX0_doLine_309 (by decide) ?_
  refine v_callV (pc := 311) (st := [.int (nI (y)), .ref (o), .ref (b 1), .int (nI (x)), .ref (b 0)]) (q0 := 0) (wr := (PWd G p c T)) C (kX0_has G o b S 32) ykX0_has cvX0_has kw2_8 dX0_doLine_311 rfl rfl rfl rfl rfl (by decide) (Nat.le_of_ble_eq_true rfl) (by decide) rfl (Ri_kk (fun r_311 u_311 h_311 => ?_))
  obtain ⟨e_311, h_311⟩ := h_311
  rw [e_311]
  refine V.same (ws' := (PWd G p c T ++ (KWd G o b S))) rfl ?_
  rcases (has01 h_311) with ⟨q_311, rfl⟩ | ⟨q_311, rfl⟩
  · refine v_if_eqT (pc := 314) (tgt := 321) C (by decide) dX0_doLine_314 (by decide) ?_
    refine v_iconst (pc := 321) (v := 0) C dX0_doLine_321 (by decide) ?_
    refine v_cv (y := (if mI S 5 &&& 32 = 0 then (0 : Int32) else 1)) (by rw [if_pos q_311]) ?_
    refine v_callV (pc := 322) (st := [.ref (b 1), .int (nI (x)), .ref (b 0)]) (q0 := 0) (wr := (PWd G p c T)) C (kX0_placeOf G o b S (y) (if mI S 5 &&& 32 = 0 then (0 : Int32) else 1) (by omega) hr) ykX0_placeOf cvX0_placeOf kw2_24 dX0_doLine_322 rfl rfl rfl rfl rfl (by decide) (Nat.le_of_ble_eq_true rfl) (by decide) rfl (Ri_kk (fun r_322 u_322 h_322 => ?_))
    obtain ⟨e_322, er_322⟩ := h_322
    rw [e_322]
    subst er_322
    refine V.same (ws' := (PWd G p c T ++ (KWd G o b S))) rfl ?_
    refine v_ialdN (pc := 325) (i := (tn (mA S 2 (y / 4)) + tn ((mA S 0 (y % 4) + (if mI S 5 &&& 32 = 0 then 0 else 1)) &&& 3))) (f := (mA S 1)) C 9 rfl (by omega) (by decide) dX0_doLine_325 ?_
    refine v_iastN (pc := 326) (i := (x)) (f := (mA S 0)) C 8 rfl (by omega) (by decide) dX0_doLine_326 (ws' := (PWd G p c T ++ (KWd G o b (sA S 0 (upd ((mA S 0)) (x) ((mA S 1) (tn (mA S 2 (y / 4)) + tn ((mA S 0 (y % 4) + (if mI S 5 &&& 32 = 0 then 0 else 1)) &&& 3)))))))) rfl ?_
    refine v_goto (pc := 327) (tgt := 342) C dX0_doLine_327 (by decide) ?_
    refine v_iload_n (pc := 342) C dX0_doLine_342 rfl ?_
    refine v_iconst (pc := 343) (v := 1) C dX0_doLine_343 (by decide) ?_
    refine v_iaddN (pc := 344) C (l) 1 rfl rfl dX0_doLine_344 ?_
    subst hQ
    exact v_iret (pc := 345) C dX0_doLine_345 (rfl) ((sA S 0 (upd ((mA S 0)) (x) ((mA S 1) (tn (mA S 2 (y / 4)) + tn ((mA S 0 (y % 4) + (if mI S 5 &&& 32 = 0 then 0 else 1)) &&& 3)))))) rfl (⟨rfl, rfl⟩)
  · refine v_if_eqF (pc := 314) (tgt := 321) C (by decide) dX0_doLine_314 (by decide) ?_
    refine v_iconst (pc := 317) (v := 1) C dX0_doLine_317 (by decide) ?_
    refine v_cv (y := (if mI S 5 &&& 32 = 0 then (0 : Int32) else 1)) (by rw [if_neg q_311]) ?_
    refine v_goto (pc := 318) (tgt := 322) C dX0_doLine_318 (by decide) ?_
    refine v_callV (pc := 322) (st := [.ref (b 1), .int (nI (x)), .ref (b 0)]) (q0 := 0) (wr := (PWd G p c T)) C (kX0_placeOf G o b S (y) (if mI S 5 &&& 32 = 0 then (0 : Int32) else 1) (by omega) hr) ykX0_placeOf cvX0_placeOf kw2_24 dX0_doLine_322 rfl rfl rfl rfl rfl (by decide) (Nat.le_of_ble_eq_true rfl) (by decide) rfl (Ri_kk (fun r_322 u_322 h_322 => ?_))
    obtain ⟨e_322, er_322⟩ := h_322
    rw [e_322]
    subst er_322
    refine V.same (ws' := (PWd G p c T ++ (KWd G o b S))) rfl ?_
    refine v_ialdN (pc := 325) (i := (tn (mA S 2 (y / 4)) + tn ((mA S 0 (y % 4) + (if mI S 5 &&& 32 = 0 then 0 else 1)) &&& 3))) (f := (mA S 1)) C 9 rfl (by omega) (by decide) dX0_doLine_325 ?_
    refine v_iastN (pc := 326) (i := (x)) (f := (mA S 0)) C 8 rfl (by omega) (by decide) dX0_doLine_326 (ws' := (PWd G p c T ++ (KWd G o b (sA S 0 (upd ((mA S 0)) (x) ((mA S 1) (tn (mA S 2 (y / 4)) + tn ((mA S 0 (y % 4) + (if mI S 5 &&& 32 = 0 then 0 else 1)) &&& 3)))))))) rfl ?_
    refine v_goto (pc := 327) (tgt := 342) C dX0_doLine_327 (by decide) ?_
    refine v_iload_n (pc := 342) C dX0_doLine_342 rfl ?_
    refine v_iconst (pc := 343) (v := 1) C dX0_doLine_343 (by decide) ?_
    refine v_iaddN (pc := 344) C (l) 1 rfl rfl dX0_doLine_344 ?_
    subst hQ
    exact v_iret (pc := 345) C dX0_doLine_345 (rfl) ((sA S 0 (upd ((mA S 0)) (x) ((mA S 1) (tn (mA S 2 (y / 4)) + tn ((mA S 0 (y % 4) + (if mI S 5 &&& 32 = 0 then 0 else 1)) &&& 3)))))) rfl (⟨rfl, rfl⟩)
set_option maxHeartbeats 4000000 in
set_option maxRecDepth 100000 in
theorem kX0_doLine_9 (G : TG) (p o : Nat) (c b : Nat → Nat) (T S : MS) (l : Nat) (hl : l < 20) (ho : mA T 0 l = 9) (x : Nat) (ex : mA T 1 l = nI x) (y : Nat) (ey : mA T 2 l = nI y) (hx : x < 2) (hy : y < 2) (hm : mI S 5 &&& 1 = 0) : CT G yX0_doLine cX0_doLine 5 (some .int) rmX0_doLine 0 0 [.ref (o), .ref (p), .int (nI (l))] (PWd G p c T ++ (KWd G o b S)) (fun S : MS => PWd G p c T ++ KWd G o b S) (Ri (fun r S' => r = nI (l + 1) ∧ S' = sA S 2 (upd (mA S 2) x (mA S 2 y)))) := by
  refine CT.enter (by decide) (Nat.le_of_ble_eq_true rfl) (fun X C hnm => ?_)
  refine V.less [(0, .ref (o)), (1, .ref (p)), (2, .int (nI (l)))] ⟨rfl, rfl, rfl, trivial⟩ ?_
  generalize hQ : (QX G X (fun S : MS => PWd G p c T ++ KWd G o b S) (Ri (fun r S' => r = nI (l + 1) ∧ S' = sA S 2 (upd (mA S 2) x (mA S 2 y)))) 0 0) = Qq
  refine v_aload_n (pc := 0) C dX0_doLine_0 rfl ?_
  refine v_getN (pc := 1) (v := .ref (c 1)) C inX1 0 rfl rfl 1 (by decide) nw_12 rfl dX0_doLine_1 ?_
  refine v_iload_n (pc := 4) C dX0_doLine_4 rfl ?_
  refine v_ialdN (pc := 5) (i := (l)) (f := (mA T 1)) C 2 rfl (by omega) (by decide) dX0_doLine_5 ?_
  refine v_cv (y := (nI (x))) (ex) ?_
  refine v_istore_n (pc := 6) C dX0_doLine_6 (by decide) ?_
  refine v_aload_n (pc := 7) C dX0_doLine_7 rfl ?_
  refine v_getN (pc := 8) (v := .ref (c 2)) C inX1 0 rfl rfl 2 (by decide) nw_14 rfl dX0_doLine_8 ?_
  refine v_iload_n (pc := 11) C dX0_doLine_11 rfl ?_
  refine v_ialdN (pc := 12) (i := (l)) (f := (mA T 2)) C 3 rfl (by omega) (by decide) dX0_doLine_12 ?_
  refine v_cv (y := (nI (y))) (ey) ?_
  refine v_istore (pc := 13) C dX0_doLine_13 (by decide) ?_
  refine v_aload_n (pc := 15) C dX0_doLine_15 rfl ?_
  refine v_getN (pc := 16) (v := .ref (c 0)) C inX1 0 rfl rfl 0 (by decide) nw_10 rfl dX0_doLine_16 ?_
  refine v_iload_n (pc := 19) C dX0_doLine_19 rfl ?_
  refine v_ialdN (pc := 20) (i := (l)) (f := (mA T 0)) C 1 rfl (by omega) (by decide) dX0_doLine_20 ?_
  refine v_cv (y := (9 : Int32)) (ho) ?_
  refine v_tableOut (pc := 21) (tgt := 330) C dX0_doLine_21 (by decide) (by decide) ?_
  refine v_aload_n (pc := 330) C dX0_doLine_330 rfl ?_
  refine v_iload_n (pc := 331) C dX0_doLine_331 rfl ?_
  refine v_iload (pc := 332) C dX0_doLine_332 rfl ?_
  refine v_aload_n (pc := 334) C dX0_doLine_334 rfl ?_
  refine v_iconst (pc := 335) (v := 1) C dX0_doLine_335 (by decide) ?_
  refine v_callV (pc := 336) (st := [.int (nI (y)), .int (nI (x)), .ref (o)]) (q0 := 0) (wr := (PWd G p c T)) C (kX0_has G o b S 1) ykX0_has cvX0_has kw2_8 dX0_doLine_336 rfl rfl rfl rfl rfl (by decide) (Nat.le_of_ble_eq_true rfl) (by decide) rfl (Ri_kk (fun r_336 u_336 h_336 => ?_))
  obtain ⟨e_336, h_336⟩ := h_336
  rw [e_336]
  rw [if_pos hm] at h_336
  subst h_336
  refine V.same (ws' := (PWd G p c T ++ (KWd G o b S))) rfl ?_
  refine v_callV (pc := 339) (st := []) (q0 := 0) (wr := (PWd G p c T)) C (kX0_doShare_0 G o b S x y hx hy) ykX0_doShare cvX0_doShare kw2_28 dX0_doLine_339 rfl rfl rfl rfl rfl (by decide) (Nat.le_of_ble_eq_true rfl) (by decide) rfl (Rv_kk (fun u_339 h_339 => ?_))
  rw [h_339]
  refine V.same (ws' := (PWd G p c T ++ (KWd G o b (sA S 2 (upd (mA S 2) x (mA S 2 y)))))) rfl ?_
  refine v_iload_n (pc := 342) C dX0_doLine_342 rfl ?_
  refine v_iconst (pc := 343) (v := 1) C dX0_doLine_343 (by decide) ?_
  refine v_iaddN (pc := 344) C (l) 1 rfl rfl dX0_doLine_344 ?_
  subst hQ
  exact v_iret (pc := 345) C dX0_doLine_345 (rfl) ((sA S 2 (upd (mA S 2) x (mA S 2 y)))) rfl (⟨rfl, rfl⟩)
set_option maxHeartbeats 4000000 in
set_option maxRecDepth 100000 in
theorem kX0_doLine_9s (G : TG) (p o : Nat) (c b : Nat → Nat) (T S : MS) (l : Nat) (hl : l < 20) (ho : mA T 0 l = 9) (x : Nat) (ex : mA T 1 l = nI x) (y : Nat) (ey : mA T 2 l = nI y) (hx : x < 2) (hy : y < 2) (hm : ¬ mI S 5 &&& 1 = 0) (τ φ : Nat) (ht : τ < 2) (hf : φ < 2) (etx : mA S 2 x = nI (4 * τ)) (ety : mA S 2 y = nI (4 * φ)) : CT G yX0_doLine cX0_doLine 5 (some .int) rmX0_doLine 0 0 [.ref (o), .ref (p), .int (nI (l))] (PWd G p c T ++ (KWd G o b S)) (fun S : MS => PWd G p c T ++ KWd G o b S) (Ri (fun r S' => r = nI (l + 1) ∧ S' = sA S 1 (cpk (mA S 1) φ τ 4))) := by
  refine CT.enter (by decide) (Nat.le_of_ble_eq_true rfl) (fun X C hnm => ?_)
  refine V.less [(0, .ref (o)), (1, .ref (p)), (2, .int (nI (l)))] ⟨rfl, rfl, rfl, trivial⟩ ?_
  generalize hQ : (QX G X (fun S : MS => PWd G p c T ++ KWd G o b S) (Ri (fun r S' => r = nI (l + 1) ∧ S' = sA S 1 (cpk (mA S 1) φ τ 4))) 0 0) = Qq
  refine v_aload_n (pc := 0) C dX0_doLine_0 rfl ?_
  refine v_getN (pc := 1) (v := .ref (c 1)) C inX1 0 rfl rfl 1 (by decide) nw_12 rfl dX0_doLine_1 ?_
  refine v_iload_n (pc := 4) C dX0_doLine_4 rfl ?_
  refine v_ialdN (pc := 5) (i := (l)) (f := (mA T 1)) C 2 rfl (by omega) (by decide) dX0_doLine_5 ?_
  refine v_cv (y := (nI (x))) (ex) ?_
  refine v_istore_n (pc := 6) C dX0_doLine_6 (by decide) ?_
  refine v_aload_n (pc := 7) C dX0_doLine_7 rfl ?_
  refine v_getN (pc := 8) (v := .ref (c 2)) C inX1 0 rfl rfl 2 (by decide) nw_14 rfl dX0_doLine_8 ?_
  refine v_iload_n (pc := 11) C dX0_doLine_11 rfl ?_
  refine v_ialdN (pc := 12) (i := (l)) (f := (mA T 2)) C 3 rfl (by omega) (by decide) dX0_doLine_12 ?_
  refine v_cv (y := (nI (y))) (ey) ?_
  refine v_istore (pc := 13) C dX0_doLine_13 (by decide) ?_
  refine v_aload_n (pc := 15) C dX0_doLine_15 rfl ?_
  refine v_getN (pc := 16) (v := .ref (c 0)) C inX1 0 rfl rfl 0 (by decide) nw_10 rfl dX0_doLine_16 ?_
  refine v_iload_n (pc := 19) C dX0_doLine_19 rfl ?_
  refine v_ialdN (pc := 20) (i := (l)) (f := (mA T 0)) C 1 rfl (by omega) (by decide) dX0_doLine_20 ?_
  refine v_cv (y := (9 : Int32)) (ho) ?_
  refine v_tableOut (pc := 21) (tgt := 330) C dX0_doLine_21 (by decide) (by decide) ?_
  refine v_aload_n (pc := 330) C dX0_doLine_330 rfl ?_
  refine v_iload_n (pc := 331) C dX0_doLine_331 rfl ?_
  refine v_iload (pc := 332) C dX0_doLine_332 rfl ?_
  refine v_aload_n (pc := 334) C dX0_doLine_334 rfl ?_
  refine v_iconst (pc := 335) (v := 1) C dX0_doLine_335 (by decide) ?_
  refine v_callV (pc := 336) (st := [.int (nI (y)), .int (nI (x)), .ref (o)]) (q0 := 0) (wr := (PWd G p c T)) C (kX0_has G o b S 1) ykX0_has cvX0_has kw2_8 dX0_doLine_336 rfl rfl rfl rfl rfl (by decide) (Nat.le_of_ble_eq_true rfl) (by decide) rfl (Ri_kk (fun r_336 u_336 h_336 => ?_))
  obtain ⟨e_336, h_336⟩ := h_336
  rw [e_336]
  rw [if_neg hm] at h_336
  subst h_336
  refine V.same (ws' := (PWd G p c T ++ (KWd G o b S))) rfl ?_
  refine v_callV (pc := 339) (st := []) (q0 := 0) (wr := (PWd G p c T)) C (kX0_doShare_1 G o b S x y τ φ hx hy ht hf etx ety) ykX0_doShare cvX0_doShare kw2_28 dX0_doLine_339 rfl rfl rfl rfl rfl (by decide) (Nat.le_of_ble_eq_true rfl) (by decide) rfl (Rv_kk (fun u_339 h_339 => ?_))
  rw [h_339]
  refine V.same (ws' := (PWd G p c T ++ (KWd G o b (sA S 1 (cpk (mA S 1) φ τ 4))))) rfl ?_
  refine v_iload_n (pc := 342) C dX0_doLine_342 rfl ?_
  refine v_iconst (pc := 343) (v := 1) C dX0_doLine_343 (by decide) ?_
  refine v_iaddN (pc := 344) C (l) 1 rfl rfl dX0_doLine_344 ?_
  subst hQ
  exact v_iret (pc := 345) C dX0_doLine_345 (rfl) ((sA S 1 (cpk (mA S 1) φ τ 4))) rfl (⟨rfl, rfl⟩)
