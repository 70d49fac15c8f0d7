/-! the reference: cost -/
def bcN (m : Nat) : Nat := m % 2 + m / 2 % 2 + m / 4 % 2 + m / 8 % 2 + m / 16 % 2 + m / 32 % 2
theorem bt_eq : ∀ m, m < 64 → ∀ k, k < 6 → (nI m >>> (nI k &&& 31)) &&& 1 = nI (m / 2 ^ k % 2) := by decide +kernel
theorem bits_eq : ∀ m, m < 64 → bitsI (nI m) 6 = nI (bcN m) := by decide +kernel
theorem bcN_le : ∀ m, m < 64 → bcN m ≤ 6 := by decide +kernel
def slipN (A : AS) (m : Nat) : Nat → Nat
  | 0 => 0
  | k + 1 => slipN A m k + (m / 2 ^ k % 2) * aP A k
noncomputable def gsN (A : AS) (u m q : Nat) : Nat := match aG A u q with
  | none => 0
  | some v => if ansA A q (nI m) = v then 0 else aP A 6
noncomputable def costK (A : AS) (u m : Nat) : Nat → Nat
  | 0 => slipN A m 6
  | q + 1 => costK A u m q + gsN A u m q
noncomputable def costN (A : AS) (u m : Nat) : Nat := costK A u m (aNq A)
theorem gs_none {A : AS} {S : MS} {u m q x : Nat} (hg : (aG A u q = none ∧ mA S 26 x = 0) ∨ ∃ v, aG A u q = some v ∧ mA S 26 x = 1 ∧ mA S 27 x = v) (h : mA S 26 x = 0) : gsN A u m q = 0 := by
  rcases hg with ⟨a, -⟩ | ⟨v, -, b, -⟩
  · unfold gsN; rw [a]
  · rw [h] at b; exact absurd b (by decide)
theorem gs_some {A : AS} {S S2 : MS} {u m q x : Nat} (hg : (aG A u q = none ∧ mA S 26 x = 0) ∨ ∃ v, aG A u q = some v ∧ mA S 26 x = 1 ∧ mA S 27 x = v) (h : ¬ mA S 26 x = 0) (hg2 : (aG A u q = none ∧ mA S2 26 x = 0) ∨ ∃ v, aG A u q = some v ∧ mA S2 26 x = 1 ∧ mA S2 27 x = v) : gsN A u m q = if ansA A q (nI m) = mA S2 27 x then 0 else aP A 6 := by
  rcases hg with ⟨-, b⟩ | ⟨v, a, -, -⟩
  · exact absurd b h
  · rcases hg2 with ⟨a2, -⟩ | ⟨v2, a2, -, c2⟩
    · rw [a] at a2; cases a2
    · unfold gsN; rw [a2]; show (if _ = v2 then 0 else _) = _; rw [c2]
noncomputable def s_cost (A : AS) (u m : Int32) : Int32 := if u < 0 ∨ nI 10 ≤ u then -1 else if m < 0 ∨ 63 < m then -1 else if 2 < bcN (tn m) then -1 else nI (costN A (tn u) (tn m))
def rmX5_costOf : Room := { frames := 5, cells := 0, slots := 0, locals := 123 }
set_option maxHeartbeats 4000000 in
set_option maxRecDepth 100000 in
theorem kX5_costOf (G : TG) (o : Nat) (a : Nat → Nat) (S : MS) (A : AS) (hI : AInv A) (hM : MRel A S) (u m : Nat) (hu : u < 10) (hm : m < 64) : CT G yX5_costOf cX5_costOf 6 (some .int) rmX5_costOf 0 0 [.ref (o), .int (nI (u)), .int (nI (m))] (MW G o a S) (fun S : MS => MW G o a S) (Ri (fun r S' => r = nI (costN A u m) ∧ Keep S S')) := by
  refine CT.enter (by decide) (Nat.le_of_ble_eq_true rfl) (fun X C hnm => ?_)
  refine V.less [(0, .ref (o)), (1, .int (nI (u))), (2, .int (nI (m)))] ⟨rfl, rfl, rfl, trivial⟩ ?_
  generalize hQ : (QX G X (fun S : MS => MW G o a S) (Ri (fun r S' => r = nI (costN A u m) ∧ Keep S S')) 0 0) = Qq
  have hnp := hI.1
  have hnq := hI.2.2.2.2.1
  refine v_iconst (pc := 0) (v := 0) C dX5_costOf_0 (by decide) ?_
  refine v_istore_n (pc := 1) C dX5_costOf_1 (by decide) ?_
  refine v_iconst (pc := 2) (v := 0) C dX5_costOf_2 (by decide) ?_
  refine v_istore (pc := 3) C dX5_costOf_3 (by decide) ?_
  have L5 : ∀ (fu : Nat) (k : Nat), (6 < k + fu) → (k ≤ 6) → V G X cX5_costOf 6 rmX5_costOf Qq 0 0 5 (lvo [(0, .ref (o)), (1, .int (nI (u))), (2, .int (nI (m))), (3, .int (nI (slipN A m k))), (4, .int (nI (k)))]) [] (MW G o a S) := by
    intro fu
    induction fu with
    | zero => intro k hf hk; exfalso; omega
    | succ fu ih =>
      intro k hf hk
      refine v_iload (pc := 5) C dX5_costOf_5 rfl ?_
      refine v_bipush (pc := 7) (v := 6) C dX5_costOf_7 (by decide) ?_
      refine v_icmp_geN (pc := 9) (tgt := 35) C (k) 6 rfl rfl (by omega) (by omega) dX5_costOf_9 (by decide) (fun c_9 => ?_) (fun c_9 => ?_)
      · refine v_iconst (pc := 35) (v := 0) C dX5_costOf_35 (by decide) ?_
        refine v_istore (pc := 36) C dX5_costOf_36 (by decide) ?_
        have L38 : ∀ (fu : Nat) (q : Nat) (S1 : MS), (aNq A < q + fu) → (q ≤ aNq A) → (Keep S S1) → V G X cX5_costOf 6 rmX5_costOf Qq 0 0 38 (lvo [(0, .ref (o)), (1, .int (nI (u))), (2, .int (nI (m))), (3, .int (nI (costK A u m q))), (4, .int (nI (q)))]) [] (MW G o a S1) := by
          intro fu
          induction fu with
          | zero => intro q S1 hf hq hK1; exfalso; omega
          | succ fu ih =>
            intro q S1 hf hq hK1
            have hM1 := MRel_keep hM hK1
            refine v_iload (pc := 38) C dX5_costOf_38 rfl ?_
            refine v_aload_n (pc := 40) C dX5_costOf_40 rfl ?_
            refine v_get (pc := 41) (v := .int (mI S1 19)) C inX5 0 rfl rfl 19 (by decide) kw3_44 rfl dX5_costOf_41 ?_
            refine v_cv (y := (nI (aNq A))) (hM1.2.2.2.1) ?_
            refine v_icmp_geN (pc := 44) (tgt := 103) C (q) (aNq A) rfl rfl (by omega) (by omega) dX5_costOf_44 (by decide) (fun c_44 => ?_) (fun c_44 => ?_)
            · refine v_iload_n (pc := 103) C dX5_costOf_103 rfl ?_
              subst hQ
              exact v_iret (pc := 104) C dX5_costOf_104 (rfl) (S1) rfl (⟨by rw [show q = aNq A by omega]; rfl, hK1⟩)
            · refine v_bipush (pc := 47) (v := 60) C dX5_costOf_47 (by decide) ?_
              refine v_iload_n (pc := 49) C dX5_costOf_49 rfl ?_
              refine v_imulN (pc := 50) C 60 (u) rfl rfl dX5_costOf_50 ?_
              refine v_iload (pc := 51) C dX5_costOf_51 rfl ?_
              refine v_iaddN (pc := 53) C (60 * (u)) (q) rfl rfl dX5_costOf_53 ?_
              refine v_istore (pc := 54) C dX5_costOf_54 (by decide) ?_
              refine v_iload_n (pc := 56) C dX5_costOf_56 rfl ?_
              have J95 : ∀ (S2 : MS), (Keep S S2) → V G X cX5_costOf 6 rmX5_costOf Qq 0 0 95 (lvo [(0, .ref (o)), (1, .int (nI (u))), (2, .int (nI (m))), (3, .int (nI (costK A u m q))), (4, .int (nI (q))), (5, .int (nI ((60 * (u)) + (q))))]) [.int (nI (gsN A u m q)), .int (nI (costK A u m q))] (MW G o a S2) := by
                intro S2 hK2
                refine v_iaddN (pc := 95) C (costK A u m q) (gsN A u m q) rfl rfl dX5_costOf_95 ?_
                refine v_istore_n (pc := 96) C dX5_costOf_96 (by decide) ?_
                refine v_iinc1 (pc := 97) C (q) rfl dX5_costOf_97 rfl ?_
                refine v_goto (pc := 100) (tgt := 38) C dX5_costOf_100 (by decide) ?_
                exact V.lessE (ih  (((q) + 1)) (S2) (by omega) (by omega) (hK2)) ⟨rfl, rfl, rfl, rfl, rfl, trivial⟩
              refine v_aload_n (pc := 57) C dX5_costOf_57 rfl ?_
              refine v_get (pc := 58) (v := .ref (a 26)) C inX5 0 rfl rfl 26 (by decide) kw3_51 rfl dX5_costOf_58 ?_
              refine v_iload (pc := 61) C dX5_costOf_61 rfl ?_
              refine v_zaldN (pc := 63) (i := ((60 * (u)) + (q))) (f := (mA S1 26)) C 20 rfl (by omega) (by decide) dX5_costOf_63 ?_
              refine v_if_eq (pc := 64) (tgt := 94) C dX5_costOf_64 (by decide) (fun c_64 => ?_) (fun c_64 => ?_)
              · refine v_iconst (pc := 94) (v := 0) C dX5_costOf_94 (by decide) ?_
                refine v_cv (y := (nI (gsN A u m q))) (by rw [gs_none (S := S1) (hM1.2.2.2.2.2.2.2.2.1 u q (by omega) (by omega)) c_64]; rfl) ?_
                exact V.lessE (J95  (S1) (hK1)) ⟨rfl, rfl, rfl, rfl, rfl, rfl, trivial⟩
              · refine v_aload_n (pc := 67) C dX5_costOf_67 rfl ?_
                refine v_iload (pc := 68) C dX5_costOf_68 rfl ?_
                refine v_iload_n (pc := 70) C dX5_costOf_70 rfl ?_
                refine v_callV0 (pc := 71) (st := [.int (nI (costK A u m q))]) (q0 := 0) C (kX5_answerOf G o a S1 A hI hM1 q (by omega) (nI m)) ykX5_answerOf cvX5_answerOf kw3_216 dX5_costOf_71 rfl rfl rfl rfl rfl (by decide) (Nat.le_of_ble_eq_true rfl) (by decide) rfl (Ri_kk (fun r_71 u_71 h_71 => ?_))
                obtain ⟨er_71, hK_71⟩ := h_71
                have hM_71 := MRel_keep hM1 hK_71
                refine v_aload_n (pc := 74) C dX5_costOf_74 rfl ?_
                refine v_get (pc := 75) (v := .ref (a 27)) C inX5 0 rfl rfl 27 (by decide) kw3_52 rfl dX5_costOf_75 ?_
                refine v_iload (pc := 78) C dX5_costOf_78 rfl ?_
                refine v_ialdN (pc := 80) (i := ((60 * (u)) + (q))) (f := (mA u_71 27)) C 21 rfl (by omega) (by decide) dX5_costOf_80 ?_
                refine v_icmp_eq (pc := 81) (tgt := 94) C dX5_costOf_81 (by decide) (fun c_81 => ?_) (fun c_81 => ?_)
                · refine v_iconst (pc := 94) (v := 0) C dX5_costOf_94 (by decide) ?_
                  refine v_cv (y := (nI (gsN A u m q))) (by rw [gs_some (S := S1) (S2 := u_71) (hM1.2.2.2.2.2.2.2.2.1 u q (by omega) (by omega)) c_64 (hM_71.2.2.2.2.2.2.2.2.1 u q (by omega) (by omega)), if_pos (by rw [← er_71]; exact c_81)]; rfl) ?_
                  exact V.lessE (J95  (u_71) (hK1.trans hK_71)) ⟨rfl, rfl, rfl, rfl, rfl, rfl, trivial⟩
                · refine v_aload_n (pc := 84) C dX5_costOf_84 rfl ?_
                  refine v_get (pc := 85) (v := .ref (a 28)) C inX5 0 rfl rfl 28 (by decide) kw3_53 rfl dX5_costOf_85 ?_
                  refine v_bipush (pc := 88) (v := 6) C dX5_costOf_88 (by decide) ?_
                  refine v_ialdN (pc := 90) (i := 6) (f := (mA u_71 28)) C 22 rfl (by omega) (by decide) dX5_costOf_90 ?_
                  refine v_cv (y := (nI (gsN A u m q))) (by rw [gs_some (S := S1) (S2 := u_71) (hM1.2.2.2.2.2.2.2.2.1 u q (by omega) (by omega)) c_64 (hM_71.2.2.2.2.2.2.2.2.1 u q (by omega) (by omega)), if_neg (by rw [← er_71]; exact c_81)]; exact hM_71.2.2.2.2.2.2.2.2.2 6 (by omega)) ?_
                  refine v_goto (pc := 91) (tgt := 95) C dX5_costOf_91 (by decide) ?_
                  exact V.lessE (J95  (u_71) (hK1.trans hK_71)) ⟨rfl, rfl, rfl, rfl, rfl, rfl, trivial⟩
        have hk6 : k = 6 := by omega
        subst hk6
        exact V.lessE (L38 (aNq A + 1) (0) (S) (by omega) (by omega) (Keep.refl S)) ⟨rfl, rfl, rfl, rfl, rfl, trivial⟩
      · refine v_iload_n (pc := 12) C dX5_costOf_12 rfl ?_
        refine v_iload_n (pc := 13) C dX5_costOf_13 rfl ?_
        refine v_iload (pc := 14) C dX5_costOf_14 rfl ?_
        refine v_ishr (pc := 16) C dX5_costOf_16 ?_
        refine v_iconst (pc := 17) (v := 1) C dX5_costOf_17 (by decide) ?_
        refine v_iand (pc := 18) C dX5_costOf_18 ?_
        refine v_cv (y := (nI (m / 2 ^ k % 2))) (bt_eq m hm k (by omega)) ?_
        refine v_aload_n (pc := 19) C dX5_costOf_19 rfl ?_
        refine v_get (pc := 20) (v := .ref (a 28)) C inX5 0 rfl rfl 28 (by decide) kw3_53 rfl dX5_costOf_20 ?_
        refine v_iload (pc := 23) C dX5_costOf_23 rfl ?_
        refine v_ialdN (pc := 25) (i := (k)) (f := (mA S 28)) C 22 rfl (by omega) (by decide) dX5_costOf_25 ?_
        refine v_cv (y := (nI (aP A k))) (hM.2.2.2.2.2.2.2.2.2 k (by omega)) ?_
        refine v_imulN (pc := 26) C (m / 2 ^ k % 2) (aP A k) rfl rfl dX5_costOf_26 ?_
        refine v_iaddN (pc := 27) C (slipN A m k) ((m / 2 ^ k % 2) * (aP A k)) rfl rfl dX5_costOf_27 ?_
        refine v_istore_n (pc := 28) C dX5_costOf_28 (by decide) ?_
        refine v_iinc1 (pc := 29) C (k) rfl dX5_costOf_29 rfl ?_
        refine v_goto (pc := 32) (tgt := 5) C dX5_costOf_32 (by decide) ?_
        exact V.lessE (ih  (((k) + 1)) (by omega) (by omega)) ⟨rfl, rfl, rfl, rfl, rfl, trivial⟩
  exact V.lessE (L5 (7) (0) (by omega) (by omega)) ⟨rfl, rfl, rfl, rfl, rfl, trivial⟩
def rmX5_cost : Room := { frames := 6, cells := 0, slots := 0, locals := 148 }
set_option maxHeartbeats 4000000 in
set_option maxRecDepth 100000 in
theorem kX5_cost (G : TG) (o : Nat) (a : Nat → Nat) (S : MS) (A : AS) (hI : AInv A) (hM : MRel A S) (u m : Int32) : CT G yX5_cost cX5_cost 3 (some .int) rmX5_cost 0 0 [.ref (o), .int (u), .int (m)] (MW G o a S) (fun S : MS => MW G o a S) (Ri (fun r S' => r = s_cost A u m ∧ MRel A S')) := by
  refine CT.enter (by decide) (Nat.le_of_ble_eq_true rfl) (fun X C hnm => ?_)
  refine V.less [(0, .ref (o)), (1, .int (u)), (2, .int (m))] ⟨rfl, rfl, rfl, trivial⟩ ?_
  generalize hQ : (QX G X (fun S : MS => MW G o a S) (Ri (fun r S' => r = s_cost A u m ∧ MRel A S')) 0 0) = Qq
  have hnp := hI.1
  have hnq := hI.2.2.2.2.1
  refine v_iload_n (pc := 0) C dX5_cost_0 rfl ?_
  refine v_callS0 (pc := 1) (st := []) C (kX5_isPupil G _ u) ykX5_isPupil kw4_9 kw4_8 dX5_cost_1 rfl rfl rfl (by decide) (Nat.le_of_ble_eq_true rfl) (by decide) rfl (Ri_kk (fun r_1 u_1 h_1 => ?_))
  rcases (is01 (x := 10) (n := 10) (by omega) rfl h_1) with ⟨b_u, rfl⟩ | ⟨e, he, rfl, rfl⟩
  · refine v_if_eqT (pc := 4) (tgt := 34) C (by decide) dX5_cost_4 (by decide) ?_
    refine v_iconst (pc := 34) (v := (-1)) C dX5_cost_34 (by decide) ?_
    subst hQ
    exact v_iret (pc := 35) C dX5_cost_35 (rfl) (S) rfl (⟨by unfold s_cost; rw [if_pos b_u], hM⟩)
  · refine v_if_eqF (pc := 4) (tgt := 34) C (by decide) dX5_cost_4 (by decide) ?_
    refine v_iload_n (pc := 7) C dX5_cost_7 rfl ?_
    refine v_iconst (pc := 8) (v := 0) C dX5_cost_8 (by decide) ?_
    refine v_bipush (pc := 9) (v := 63) C dX5_cost_9 (by decide) ?_
    refine v_callS0 (pc := 11) (st := []) C (kX5_within G _ m 0 63) ykX5_within kw3_142 kw3_141 dX5_cost_11 rfl rfl rfl (by decide) (Nat.le_of_ble_eq_true rfl) (by decide) rfl (Ri_kk (fun r_11 u_11 h_11 => ?_))
    rcases (w01 h_11) with ⟨q_11, rfl⟩ | ⟨q_11, rfl⟩
    · refine v_if_eqT (pc := 14) (tgt := 34) C (by decide) dX5_cost_14 (by decide) ?_
      refine v_iconst (pc := 34) (v := (-1)) C dX5_cost_34 (by decide) ?_
      subst hQ
      exact v_iret (pc := 35) C dX5_cost_35 (rfl) (S) rfl (⟨by unfold s_cost; rw [if_neg (nbad (n := 10) he (by omega)), if_pos q_11], hM⟩)
    · refine v_if_eqF (pc := 14) (tgt := 34) C (by decide) dX5_cost_14 (by decide) ?_
      obtain ⟨μ, hμ, rfl⟩ := wN (n := 63) q_11
      refine v_iload_n (pc := 17) C dX5_cost_17 rfl ?_
      refine v_callS0 (pc := 18) (st := []) C (kX5_bits G _ (nI μ)) ykX5_bits kw4_20 kw4_19 dX5_cost_18 rfl rfl rfl (by decide) (Nat.le_of_ble_eq_true rfl) (by decide) rfl (Ri_kk (fun r_18 u_18 h_18 => ?_))
      rw [bits_eq μ hμ] at h_18
      subst h_18
      have hbc := bcN_le μ hμ
      refine v_iconst (pc := 21) (v := 2) C dX5_cost_21 (by decide) ?_
      refine v_icmp_gtN (pc := 22) (tgt := 34) C (bcN μ) 2 rfl rfl (by omega) (by omega) dX5_cost_22 (by decide) (fun c_22 => ?_) (fun c_22 => ?_)
      · refine v_iconst (pc := 34) (v := (-1)) C dX5_cost_34 (by decide) ?_
        subst hQ
        exact v_iret (pc := 35) C dX5_cost_35 (rfl) (S) rfl (⟨by unfold s_cost; rw [if_neg (nbad (n := 10) he (by omega)), if_neg q_11, tn_nI (n := μ) (by omega), if_pos c_22], hM⟩)
      · refine v_aload_n (pc := 25) C dX5_cost_25 rfl ?_
        refine v_iload_n (pc := 26) C dX5_cost_26 rfl ?_
        refine v_iload_n (pc := 27) C dX5_cost_27 rfl ?_
        refine v_callV0 (pc := 28) (st := []) (q0 := 0) C (kX5_costOf G o a S A hI hM e μ he hμ) ykX5_costOf cvX5_costOf kw4_22 dX5_cost_28 rfl rfl rfl rfl rfl (by decide) (Nat.le_of_ble_eq_true rfl) (by decide) rfl (Ri_kk (fun r_28 u_28 h_28 => ?_))
        obtain ⟨er, hK⟩ := h_28
        have hM2 := MRel_keep hM hK
        refine v_goto (pc := 31) (tgt := 35) C dX5_cost_31 (by decide) ?_
        subst hQ
        exact v_iret (pc := 35) C dX5_cost_35 (rfl) (u_28) rfl (⟨by unfold s_cost; rw [if_neg (nbad (n := 10) he (by omega)), if_neg q_11, tn_nI (n := μ) (by omega), tn_nI (n := e) (by omega), if_neg (by omega)]; exact er, hM2⟩)
