/-! the reference: sets, set -/
theorem setL_len {A : AS} {u : Nat} : (setL A u).length ≤ 64 := fsK_len 64
noncomputable def s_sets (A : AS) (u : Int32) : Int32 := if u < 0 ∨ nI 10 ≤ u then -1 else nI (setL A (tn u)).length
noncomputable def s_set (A : AS) (u i : Int32) : Int32 := if u < 0 ∨ nI 10 ≤ u then -1 else if i < 0 then -1 else if nI (setL A (tn u)).length ≤ i then -1 else nI ((setL A (tn u)).getD (tn i) 0)
def rmX5_sets : Room := { frames := 7, cells := 0, slots := 0, locals := 172 }
set_option maxHeartbeats 4000000 in
set_option maxRecDepth 100000 in
theorem kX5_sets (G : TG) (o : Nat) (a : Nat → Nat) (S : MS) (A : AS) (hI : AInv A) (hM : MRel A S) (u : Int32) : CT G yX5_sets cX5_sets 2 (some .int) rmX5_sets 0 0 [.ref (o), .int (u)] (MW G o a S) (fun S : MS => MW G o a S) (Ri (fun r S' => r = s_sets A u ∧ MRel A S')) := by
  refine CT.enter (by decide) (Nat.le_of_ble_eq_true rfl) (fun X C hnm => ?_)
  refine V.less [(0, .ref (o)), (1, .int (u))] ⟨rfl, rfl, trivial⟩ ?_
  generalize hQ : (QX G X (fun S : MS => MW G o a S) (Ri (fun r S' => r = s_sets A u ∧ MRel A S')) 0 0) = Qq
  have hnp := hI.1
  have hnq := hI.2.2.2.2.1
  refine v_iload_n (pc := 0) C dX5_sets_0 rfl ?_
  refine v_callS0 (pc := 1) (st := []) C (kX5_isPupil G _ u) ykX5_isPupil kw4_9 kw4_8 dX5_sets_1 rfl rfl rfl (by decide) (Nat.le_of_ble_eq_true rfl) (by decide) rfl (Ri_kk (fun r_1 u_1 h_1 => ?_))
  rcases (is01 (x := 10) (n := 10) (by omega) rfl h_1) with ⟨b_u, rfl⟩ | ⟨e, he, rfl, rfl⟩
  · refine v_if_neF (pc := 4) (tgt := 9) C (by decide) dX5_sets_4 (by decide) ?_
    refine v_iconst (pc := 7) (v := (-1)) C dX5_sets_7 (by decide) ?_
    subst hQ
    exact v_iret (pc := 8) C dX5_sets_8 (rfl) (S) rfl (⟨by unfold s_sets; rw [if_pos b_u], hM⟩)
  · refine v_if_neT (pc := 4) (tgt := 9) C (by decide) dX5_sets_4 (by decide) ?_
    refine v_aload_n (pc := 9) C dX5_sets_9 rfl ?_
    refine v_iload_n (pc := 10) C dX5_sets_10 rfl ?_
    refine v_callV0 (pc := 11) (st := []) (q0 := 0) C (kX5_findSets G o a S A hI hM e he) ykX5_findSets cvX5_findSets kw4_30 dX5_sets_11 rfl rfl rfl rfl rfl (by decide) (Nat.le_of_ble_eq_true rfl) (by decide) rfl (Rv_kk (fun u_11 h_11 => ?_))
    obtain ⟨hK, hs⟩ := h_11
    have hM2 := MRel_keep2 hM hK
    have hlen := setL_len (A := A) (u := e)
    refine v_aload_n (pc := 14) C dX5_sets_14 rfl ?_
    refine v_get (pc := 15) (v := .int (mI u_11 30)) C inX5 0 rfl rfl 30 (by decide) kw3_55 rfl dX5_sets_15 ?_
    refine v_cv (y := (nI ((setL A e).length))) (hs.1) ?_
    subst hQ
    exact v_iret (pc := 18) C dX5_sets_18 (rfl) (u_11) rfl (⟨by unfold s_sets; rw [if_neg (nbad (n := 10) he (by omega)), tn_nI (n := e) (by omega)], hM2⟩)
def rmX5_set : Room := { frames := 7, cells := 0, slots := 0, locals := 172 }
set_option maxHeartbeats 4000000 in
set_option maxRecDepth 100000 in
theorem kX5_set (G : TG) (o : Nat) (a : Nat → Nat) (S : MS) (A : AS) (hI : AInv A) (hM : MRel A S) (u i : Int32) : CT G yX5_set cX5_set 3 (some .int) rmX5_set 0 0 [.ref (o), .int (u), .int (i)] (MW G o a S) (fun S : MS => MW G o a S) (Ri (fun r S' => r = s_set A u i ∧ MRel A S')) := by
  refine CT.enter (by decide) (Nat.le_of_ble_eq_true rfl) (fun X C hnm => ?_)
  refine V.less [(0, .ref (o)), (1, .int (u)), (2, .int (i))] ⟨rfl, rfl, rfl, trivial⟩ ?_
  generalize hQ : (QX G X (fun S : MS => MW G o a S) (Ri (fun r S' => r = s_set A u i ∧ MRel A S')) 0 0) = Qq
  have hnp := hI.1
  have hnq := hI.2.2.2.2.1
  refine v_iload_n (pc := 0) C dX5_set_0 rfl ?_
  refine v_callS0 (pc := 1) (st := []) C (kX5_isPupil G _ u) ykX5_isPupil kw4_9 kw4_8 dX5_set_1 rfl rfl rfl (by decide) (Nat.le_of_ble_eq_true rfl) (by decide) rfl (Ri_kk (fun r_1 u_1 h_1 => ?_))
  rcases (is01 (x := 10) (n := 10) (by omega) rfl h_1) with ⟨b_u, rfl⟩ | ⟨e, he, rfl, rfl⟩
  · refine v_if_eqT (pc := 4) (tgt := 11) C (by decide) dX5_set_4 (by decide) ?_
    refine v_iconst (pc := 11) (v := (-1)) C dX5_set_11 (by decide) ?_
    subst hQ
    exact v_iret (pc := 12) C dX5_set_12 (rfl) (S) rfl (⟨by unfold s_set; rw [if_pos b_u], hM⟩)
  · refine v_if_eqF (pc := 4) (tgt := 11) C (by decide) dX5_set_4 (by decide) ?_
    refine v_iload_n (pc := 7) C dX5_set_7 rfl ?_
    refine v_if_ge (pc := 8) (tgt := 13) C dX5_set_8 (by decide) (fun c_8 => ?_) (fun c_8 => ?_)
    · refine v_aload_n (pc := 13) C dX5_set_13 rfl ?_
      refine v_iload_n (pc := 14) C dX5_set_14 rfl ?_
      refine v_callV0 (pc := 15) (st := []) (q0 := 0) C (kX5_findSets G o a S A hI hM e he) ykX5_findSets cvX5_findSets kw4_30 dX5_set_15 rfl rfl rfl rfl rfl (by decide) (Nat.le_of_ble_eq_true rfl) (by decide) rfl (Rv_kk (fun u_15 h_15 => ?_))
      obtain ⟨hK, hs⟩ := h_15
      have hM2 := MRel_keep2 hM hK
      have hlen := setL_len (A := A) (u := e)
      refine v_iload_n (pc := 18) C dX5_set_18 rfl ?_
      refine v_aload_n (pc := 19) C dX5_set_19 rfl ?_
      refine v_get (pc := 20) (v := .int (mI u_15 30)) C inX5 0 rfl rfl 30 (by decide) kw3_55 rfl dX5_set_20 ?_
      refine v_cv (y := (nI ((setL A e).length))) (hs.1) ?_
      refine v_icmp_ge (pc := 23) (tgt := 35) C dX5_set_23 (by decide) (fun c_23 => ?_) (fun c_23 => ?_)
      · refine v_iconst (pc := 35) (v := (-1)) C dX5_set_35 (by decide) ?_
        subst hQ
        exact v_iret (pc := 36) C dX5_set_36 (rfl) (u_15) rfl (⟨by unfold s_set; rw [if_neg (nbad (n := 10) he (by omega)), if_neg (Int32.not_lt.mpr c_8), tn_nI (n := e) (by omega), if_pos c_23], hM2⟩)
      · obtain ⟨k, hk, rfl⟩ := ixN (fun z => absurd z (Int32.not_lt.mpr c_8)) c_23 (by omega)
        refine v_aload_n (pc := 26) C dX5_set_26 rfl ?_
        refine v_get (pc := 27) (v := .ref (a 29)) C inX5 0 rfl rfl 29 (by decide) kw3_54 rfl dX5_set_27 ?_
        refine v_iload_n (pc := 30) C dX5_set_30 rfl ?_
        refine v_ialdN (pc := 31) (i := (k)) (f := (mA u_15 29)) C 23 rfl (by omega) (by decide) dX5_set_31 ?_
        refine v_cv (y := (nI ((setL A e).getD k 0))) (hs.2 k _ (getD_at (d := 0) hk)) ?_
        refine v_goto (pc := 32) (tgt := 36) C dX5_set_32 (by decide) ?_
        subst hQ
        exact v_iret (pc := 36) C dX5_set_36 (rfl) (u_15) rfl (⟨by unfold s_set; rw [if_neg (nbad (n := 10) he (by omega)), if_neg (Int32.not_lt.mpr c_8), tn_nI (n := e) (by omega), if_neg c_23, tn_nI (n := k) (by omega)], hM2⟩)
    · refine v_iconst (pc := 11) (v := (-1)) C dX5_set_11 (by decide) ?_
      subst hQ
      exact v_iret (pc := 12) C dX5_set_12 (rfl) (S) rfl (⟨by unfold s_set; rw [if_neg (nbad (n := 10) he (by omega)), if_pos (Int32.not_le.mp c_8)], hM⟩)
