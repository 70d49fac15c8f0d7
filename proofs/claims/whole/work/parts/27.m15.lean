/-! the reference: same -/
/-- two ends are alike as far as variable k -/
def smK (a b : Prop) (f g : Nat → Int32) (k : Nat) : Prop := (a ↔ b) ∧ ∀ z, z < k → b ∨ g z = f z
theorem smK_0 {a b : Prop} {f g : Nat → Int32} (h : a ↔ b) : smK a b f g 0 := ⟨h, fun z hz => absurd hz (Nat.not_lt_zero z)⟩
theorem smK_s {a b : Prop} {f g : Nat → Int32} {k : Nat} : smK a b f g (k + 1) ↔ smK a b f g k ∧ (b ∨ g k = f k) := by
  refine ⟨fun h => ⟨⟨h.1, fun z hz => h.2 z (by omega)⟩, h.2 k (by omega)⟩, fun h => ⟨h.1.1, fun z hz => ?_⟩⟩
  rcases Nat.lt_or_ge z k with q | q
  · exact h.1.2 z q
  · rw [show z = k by omega]; exact h.2
def sameP (A : AS) (p q n : Nat) : Prop := smK ((aRun A p 0 (nI n)).2.2.1 < aN A p) ((aRun A q 0 (nI n)).2.2.1 < aN A q) (aRun A p 0 (nI n)).2.2.2.1 (aRun A q 0 (nI n)).2.2.2.1 4
def SameR (A : AS) (p q : Nat) (r : Int32) : Prop := ∃ n, n ≤ 10 ∧ r = nI n ∧ (∀ m, m < n → sameP A p q m) ∧ (n < 10 → ¬ sameP A p q n)
noncomputable def sameV (A : AS) (p q : Nat) : Int32 := Classical.epsilon (SameR A p q)
theorem SameR.eq {A : AS} {p q : Nat} {r : Int32} (h : SameR A p q r) : r = sameV A p q := by
  have h2 : SameR A p q (sameV A p q) := Classical.epsilon_spec (p := SameR A p q) ⟨r, h⟩
  obtain ⟨n, a1, a2, a3, a4⟩ := h
  obtain ⟨m, b1, b2, b3, b4⟩ := h2
  rcases Nat.lt_trichotomy n m with z | z | z
  · exact absurd (b3 n z) (a4 (by omega))
  · rw [a2, b2, z]
  · exact absurd (a3 m z) (b4 (by omega))
noncomputable def s_same (A : AS) (p q : Int32) : Int32 := if p < 0 ∨ nI (aNp A) ≤ p then -1 else if q < 0 ∨ nI (aNp A) ≤ q then -1 else if ¬ dp (aO A (tn p)) (aN A (tn p)) = 0 then -3 else if ¬ dp (aO A (tn q)) (aN A (tn q)) = 0 then -3 else sameV A (tn p) (tn q)
theorem al1 {P : Prop} {al : Int32} (h : (al = 1 ∧ P) ∨ (al = 0 ∧ ¬ P)) (h0 : ¬ al = 0) : P := by
  rcases h with ⟨-, b⟩ | ⟨a, -⟩
  · exact b
  · exact absurd a h0
theorem al0 {P : Prop} {al : Int32} (h : (al = 1 ∧ P) ∨ (al = 0 ∧ ¬ P)) (h0 : al = 0) : ¬ P := by
  rcases h with ⟨a, -⟩ | ⟨-, b⟩
  · rw [h0] at a; exact absurd a (by decide)
  · exact b
theorem ext_lt {P : Nat → Prop} {n : Nat} (h : ∀ m, m < n → P m) (hn : P n) : ∀ m, m < n + 1 → P m := by
  intro m hm
  rcases Nat.lt_or_ge m n with q | q
  · exact h m q
  · rw [show m = n by omega]; exact hn
def rmX5_same : Room := { frames := 4, cells := 0, slots := 0, locals := 101 }
set_option maxHeartbeats 4000000 in
set_option maxRecDepth 100000 in
theorem kX5_same (G : TG) (o : Nat) (a : Nat → Nat) (S : MS) (A : AS) (hI : AInv A) (hM : MRel A S) (p q : Int32) : CT G yX5_same cX5_same 6 (some .int) rmX5_same 0 0 [.ref (o), .int (p), .int (q)] (MW G o a S) (fun S : MS => MW G o a S) (Ri (fun r S' => r = s_same A p q ∧ MRel A S')) := by
  refine CT.enter (by decide) (Nat.le_of_ble_eq_true rfl) (fun X C hnm => ?_)
  refine V.less [(0, .ref (o)), (1, .int (p)), (2, .int (q))] ⟨rfl, rfl, rfl, trivial⟩ ?_
  generalize hQ : (QX G X (fun S : MS => MW G o a S) (Ri (fun r S' => r = s_same A p q ∧ MRel A S')) 0 0) = Qq
  have hnp := hI.1
  have hnq := hI.2.2.2.2.1
  refine v_aload_n (pc := 0) C dX5_same_0 rfl ?_
  refine v_iload_n (pc := 1) C dX5_same_1 rfl ?_
  refine v_callV0 (pc := 2) (st := []) (q0 := 0) C (kX5_isProgram G o a S p) ykX5_isProgram cvX5_isProgram kw3_134 dX5_same_2 rfl rfl rfl rfl rfl (by decide) (Nat.le_of_ble_eq_true rfl) (by decide) rfl (Ri_kk (fun r_2 u_2 h_2 => ?_))
  obtain ⟨e_2, h_2⟩ := h_2
  rw [e_2]
  rcases (is01 (by omega) hM.1 h_2) with ⟨b_p, rfl⟩ | ⟨j, hj, rfl, rfl⟩
  · refine v_if_eqT (pc := 5) (tgt := 16) C (by decide) dX5_same_5 (by decide) ?_
    refine v_iconst (pc := 16) (v := (-1)) C dX5_same_16 (by decide) ?_
    subst hQ
    exact v_iret (pc := 17) C dX5_same_17 (rfl) (S) rfl (⟨by unfold s_same; rw [if_pos b_p], hM⟩)
  · refine v_if_eqF (pc := 5) (tgt := 16) C (by decide) dX5_same_5 (by decide) ?_
    refine v_aload_n (pc := 8) C dX5_same_8 rfl ?_
    refine v_iload_n (pc := 9) C dX5_same_9 rfl ?_
    refine v_callV0 (pc := 10) (st := []) (q0 := 0) C (kX5_isProgram G o a S q) ykX5_isProgram cvX5_isProgram kw3_134 dX5_same_10 rfl rfl rfl rfl rfl (by decide) (Nat.le_of_ble_eq_true rfl) (by decide) rfl (Ri_kk (fun r_10 u_10 h_10 => ?_))
    obtain ⟨e_10, h_10⟩ := h_10
    rw [e_10]
    rcases (is01 (by omega) hM.1 h_10) with ⟨b_q, rfl⟩ | ⟨l, hl, rfl, rfl⟩
    · refine v_if_neF (pc := 13) (tgt := 18) C (by decide) dX5_same_13 (by decide) ?_
      refine v_iconst (pc := 16) (v := (-1)) C dX5_same_16 (by decide) ?_
      subst hQ
      exact v_iret (pc := 17) C dX5_same_17 (rfl) (S) rfl (⟨by unfold s_same; rw [if_neg (nbad hj (by omega)), if_pos b_q], hM⟩)
    · refine v_if_neT (pc := 13) (tgt := 18) C (by decide) dX5_same_13 (by decide) ?_
      refine v_aload_n (pc := 18) C dX5_same_18 rfl ?_
      refine v_iload_n (pc := 19) C dX5_same_19 rfl ?_
      refine v_callV0 (pc := 20) (st := []) (q0 := 0) C (kX5_isWhole G o a S A hI hM j hj) ykX5_isWhole cvX5_isWhole kw3_157 dX5_same_20 rfl rfl rfl rfl rfl (by decide) (Nat.le_of_ble_eq_true rfl) (by decide) rfl (Ri_kk (fun r_20 u_20 h_20 => ?_))
      obtain ⟨e_20, h_20⟩ := h_20
      rw [e_20]
      rcases (if01 h_20) with ⟨q_20, rfl⟩ | ⟨q_20, rfl⟩
      · refine v_if_eqT (pc := 23) (tgt := 34) C (by decide) dX5_same_23 (by decide) ?_
        refine v_bipush (pc := 34) (v := (-3)) C dX5_same_34 (by decide) ?_
        subst hQ
        exact v_iret (pc := 36) C dX5_same_36 (rfl) (S) rfl (⟨by unfold s_same; rw [if_neg (nbad hj (by omega)), if_neg (nbad hl (by omega)), tn_nI (n := j) (by omega), tn_nI (n := l) (by omega), if_pos q_20], hM⟩)
      · refine v_if_eqF (pc := 23) (tgt := 34) C (by decide) dX5_same_23 (by decide) ?_
        refine v_aload_n (pc := 26) C dX5_same_26 rfl ?_
        refine v_iload_n (pc := 27) C dX5_same_27 rfl ?_
        refine v_callV0 (pc := 28) (st := []) (q0 := 0) C (kX5_isWhole G o a S A hI hM l hl) ykX5_isWhole cvX5_isWhole kw3_157 dX5_same_28 rfl rfl rfl rfl rfl (by decide) (Nat.le_of_ble_eq_true rfl) (by decide) rfl (Ri_kk (fun r_28 u_28 h_28 => ?_))
        obtain ⟨e_28, h_28⟩ := h_28
        rw [e_28]
        rcases (if01 h_28) with ⟨q_28, rfl⟩ | ⟨q_28, rfl⟩
        · refine v_if_neF (pc := 31) (tgt := 37) C (by decide) dX5_same_31 (by decide) ?_
          refine v_bipush (pc := 34) (v := (-3)) C dX5_same_34 (by decide) ?_
          subst hQ
          exact v_iret (pc := 36) C dX5_same_36 (rfl) (S) rfl (⟨by unfold s_same; rw [if_neg (nbad hj (by omega)), if_neg (nbad hl (by omega)), tn_nI (n := j) (by omega), tn_nI (n := l) (by omega), if_neg (fun z => z q_20), if_pos q_28], hM⟩)
        · refine v_if_neT (pc := 31) (tgt := 37) C (by decide) dX5_same_31 (by decide) ?_
          refine v_iconst (pc := 37) (v := 0) C dX5_same_37 (by decide) ?_
          refine v_istore_n (pc := 38) C dX5_same_38 (by decide) ?_
          have L39 : ∀ (fu : Nat) (n : Nat) (S1 : MS), (10 < n + fu) → (n ≤ 10) → (∀ m, m < n → sameP A j l m) → (MRel A S1) → V G X cX5_same 6 rmX5_same Qq 0 0 39 (lvo [(0, .ref (o)), (1, .int (nI (j))), (2, .int (nI (l))), (3, .int (nI (n)))]) [] (MW G o a S1) := by
            intro fu
            induction fu with
            | zero => intro n S1 hf hn10 hpre hM1; exfalso; omega
            | succ fu ih39 =>
              intro n S1 hf hn10 hpre hM1
              refine v_iload_n (pc := 39) C dX5_same_39 rfl ?_
              refine v_bipush (pc := 40) (v := 10) C dX5_same_40 (by decide) ?_
              refine v_icmp_geN (pc := 42) (tgt := 186) C (n) 10 rfl rfl (by omega) (by omega) dX5_same_42 (by decide) (fun c_42 => ?_) (fun c_42 => ?_)
              · refine v_bipush (pc := 186) (v := 10) C dX5_same_186 (by decide) ?_
                subst hQ
                exact v_iret (pc := 188) C dX5_same_188 (rfl) (S1) rfl (⟨by unfold s_same; rw [if_neg (nbad hj (by omega)), if_neg (nbad hl (by omega)), tn_nI (n := j) (by omega), tn_nI (n := l) (by omega), if_neg (fun z => z q_20), if_neg (fun z => z q_28)]; exact SameR.eq ⟨10, Nat.le_refl _, rfl, fun m hm => hpre m (by omega), fun z => absurd z (by omega)⟩, hM1⟩)
              · refine v_aload_n (pc := 45) C dX5_same_45 rfl ?_
                refine v_iload_n (pc := 46) C dX5_same_46 rfl ?_
                refine v_iload_n (pc := 47) C dX5_same_47 rfl ?_
                refine v_iconst (pc := 48) (v := 0) C dX5_same_48 (by decide) ?_
                refine v_iconst (pc := 49) (v := (-1)) C dX5_same_49 (by decide) ?_
                refine v_iconst (pc := 50) (v := 0) C dX5_same_50 (by decide) ?_
                refine v_callV0 (pc := 51) (st := []) (q0 := 0) C (kX5_runA G o a S1 A hI hM1 (j) (hj) (nI n) (0) (-1) 0 (aY A (j)) (noLn (hI.2.1 (j))) (okp_of hI (hj) q_20)) ykX5_runLines cvX5_runLines kw3_165 dX5_same_51 rfl rfl rfl rfl rfl (by decide) (Nat.le_of_ble_eq_true rfl) (by decide) rfl (Rv_kk (fun u_51 h_51 => ?_))
                obtain ⟨R, e_51, hxR, hrR⟩ := h_51
                have hM_R : MRel A u_51 := by rw [e_51]; exact hM1
                have h5R : mA u_51 5 = R.2.2.2.1 := by rw [e_51]; rfl
                have h7R : okr (mA u_51 7) := by rw [e_51]; exact hrR
                have h11R : mI u_51 11 = (if R.2.2.1 < (aN A (j)) then 1 else 0) := by rw [e_51]; rfl
                have hER : ∀ k, endM u_51 k = endR (aN A (j)) R k := fun k => by rw [e_51]; exact endM_put _ _ _ _
                refine v_iconst (pc := 54) (v := 0) C dX5_same_54 (by decide) ?_
                refine v_istore (pc := 55) C dX5_same_55 (by decide) ?_
                have L57 : ∀ (fu : Nat) (k : Nat) (t : Nat → Int32), (13 < k + fu) → (k ≤ 13) → (∀ z, z < k → t z = (endR (aN A j) R) z) → V G X cX5_same 6 rmX5_same Qq 0 0 57 (lvo [(0, .ref (o)), (1, .int (nI (j))), (2, .int (nI (l))), (3, .int (nI (n))), (4, .int (nI (k)))]) [] (MW G o a (sA u_51 25 t)) := by
                  intro fu
                  induction fu with
                  | zero => intro k t hf hk ht; exfalso; omega
                  | succ fu ih57 =>
                    intro k t hf hk ht
                    refine v_iload (pc := 57) C dX5_same_57 rfl ?_
                    refine v_bipush (pc := 59) (v := 13) C dX5_same_59 (by decide) ?_
                    refine v_icmp_geN (pc := 61) (tgt := 83) C (k) 13 rfl rfl (by omega) (by omega) dX5_same_61 (by decide) (fun c_61 => ?_) (fun c_61 => ?_)
                    · refine v_aload_n (pc := 83) C dX5_same_83 rfl ?_
                      refine v_iload_n (pc := 84) C dX5_same_84 rfl ?_
                      refine v_iload_n (pc := 85) C dX5_same_85 rfl ?_
                      refine v_iconst (pc := 86) (v := 0) C dX5_same_86 (by decide) ?_
                      refine v_iconst (pc := 87) (v := (-1)) C dX5_same_87 (by decide) ?_
                      refine v_iconst (pc := 88) (v := 0) C dX5_same_88 (by decide) ?_
                      refine v_callV0 (pc := 89) (st := []) (q0 := 0) C (kX5_runA G o a (sA u_51 25 t) A hI hM_R (l) (hl) (nI n) (0) (-1) 0 (aY A (l)) (noLn (hI.2.1 (l))) (okp_of hI (hl) q_28)) ykX5_runLines cvX5_runLines kw3_165 dX5_same_89 rfl rfl rfl rfl rfl (by decide) (Nat.le_of_ble_eq_true rfl) (by decide) rfl (Rv_kk (fun u_89 h_89 => ?_))
                      obtain ⟨R2, e_89, hxR2, hrR2⟩ := h_89
                      have hM_R2 : MRel A u_89 := by rw [e_89]; exact hM_R
                      have h5R2 : mA u_89 5 = R2.2.2.2.1 := by rw [e_89]; rfl
                      have h7R2 : okr (mA u_89 7) := by rw [e_89]; exact hrR2
                      have h11R2 : mI u_89 11 = (if R2.2.2.1 < (aN A (l)) then 1 else 0) := by rw [e_89]; rfl
                      have hER2 : ∀ k, endM u_89 k = endR (aN A (l)) R2 k := fun k => by rw [e_89]; exact endM_put _ _ _ _
                      have h25 : mA u_89 25 = t := by rw [e_89]; rfl
                      refine v_aload_n (pc := 92) C dX5_same_92 rfl ?_
                      refine v_get (pc := 93) (v := .int (mI u_89 11)) C inX5 0 rfl rfl 11 (by decide) kw3_36 rfl dX5_same_93 ?_
                      refine v_cv (y := ((if R2.2.2.1 < aN A l then (1 : Int32) else 0))) (h11R2) ?_
                      have J120 : ∀ (al : Int32), ((al = 1 ∧ smK (R.2.2.1 < aN A j) (R2.2.2.1 < aN A l) R.2.2.2.1 R2.2.2.2.1 0) ∨ (al = 0 ∧ ¬ smK (R.2.2.1 < aN A j) (R2.2.2.1 < aN A l) R.2.2.2.1 R2.2.2.2.1 0)) → V G X cX5_same 6 rmX5_same Qq 0 0 120 (lvo [(0, .ref (o)), (1, .int (nI (j))), (2, .int (nI (l))), (3, .int (nI (n))), (4, .int (nI (k)))]) [.int (al)] (MW G o a u_89) := by
                        intro al hal0
                        refine v_istore (pc := 120) C dX5_same_120 (by decide) ?_
                        refine v_iconst (pc := 122) (v := 0) C dX5_same_122 (by decide) ?_
                        refine v_istore (pc := 123) C dX5_same_123 (by decide) ?_
                        have L125 : ∀ (fu : Nat) (i : Nat) (al : Int32), (4 < i + fu) → (i ≤ 4) → ((al = 1 ∧ smK (R.2.2.1 < aN A j) (R2.2.2.1 < aN A l) R.2.2.2.1 R2.2.2.2.1 i) ∨ (al = 0 ∧ ¬ smK (R.2.2.1 < aN A j) (R2.2.2.1 < aN A l) R.2.2.2.1 R2.2.2.2.1 i)) → V G X cX5_same 6 rmX5_same Qq 0 0 125 (lvo [(0, .ref (o)), (1, .int (nI (j))), (2, .int (nI (l))), (3, .int (nI (n))), (4, .int (al)), (5, .int (nI (i)))]) [] (MW G o a u_89) := by
                          intro fu
                          induction fu with
                          | zero => intro i al hf hi hal; exfalso; omega
                          | succ fu ih125 =>
                            intro i al hf hi hal
                            refine v_iload (pc := 125) C dX5_same_125 rfl ?_
                            refine v_iconst (pc := 127) (v := 4) C dX5_same_127 (by decide) ?_
                            refine v_icmp_geN (pc := 128) (tgt := 173) C (i) 4 rfl rfl (by omega) (by omega) dX5_same_128 (by decide) (fun c_128 => ?_) (fun c_128 => ?_)
                            · have hi4 : i = 4 := by omega
                              subst hi4
                              have hS4 : (smK (R.2.2.1 < aN A j) (R2.2.2.1 < aN A l) R.2.2.2.1 R2.2.2.2.1 4) = sameP A j l n := by unfold sameP aRun; rw [← hxR.2.2.1, ← hxR.2.2.2.1, ← hxR2.2.2.1, ← hxR2.2.2.2.1]
                              refine v_iload (pc := 173) C dX5_same_173 rfl ?_
                              refine v_if_ne (pc := 175) (tgt := 180) C dX5_same_175 (by decide) (fun c_175 => ?_) (fun c_175 => ?_)
                              · refine v_iinc1 (pc := 180) C (n) rfl dX5_same_180 rfl ?_
                                refine v_goto (pc := 183) (tgt := 39) C dX5_same_183 (by decide) ?_
                                exact V.lessE (ih39  (((n) + 1)) (u_89) (by omega) (by omega) (ext_lt hpre (hS4 ▸ al1 hal c_175)) (hM_R2)) ⟨rfl, rfl, rfl, rfl, trivial⟩
                              · refine v_iload_n (pc := 178) C dX5_same_178 rfl ?_
                                subst hQ
                                exact v_iret (pc := 179) C dX5_same_179 (rfl) (u_89) rfl (⟨by unfold s_same; rw [if_neg (nbad hj (by omega)), if_neg (nbad hl (by omega)), tn_nI (n := j) (by omega), tn_nI (n := l) (by omega), if_neg (fun z => z q_20), if_neg (fun z => z q_28)]; exact SameR.eq ⟨n, by omega, rfl, hpre, fun _ => hS4 ▸ al0 hal c_175⟩, hM_R2⟩)
                            · refine v_iload (pc := 131) C dX5_same_131 rfl ?_
                              refine v_if_eq (pc := 133) (tgt := 164) C dX5_same_133 (by decide) (fun c_133 => ?_) (fun c_133 => ?_)
                              · refine v_iconst (pc := 164) (v := 0) C dX5_same_164 (by decide) ?_
                                refine v_istore (pc := 165) C dX5_same_165 (by decide) ?_
                                refine v_iinc1 (pc := 167) C (i) rfl dX5_same_167 rfl ?_
                                refine v_goto (pc := 170) (tgt := 125) C dX5_same_170 (by decide) ?_
                                exact V.lessE (ih125  (((i) + 1)) ((0 : Int32)) (by omega) (by omega) (Or.inr ⟨rfl, fun z => al0 hal c_133 (smK_s.mp z).1⟩)) ⟨rfl, rfl, rfl, rfl, rfl, rfl, trivial⟩
                              · refine v_aload_n (pc := 136) C dX5_same_136 rfl ?_
                                refine v_get (pc := 137) (v := .int (mI u_89 11)) C inX5 0 rfl rfl 11 (by decide) kw3_36 rfl dX5_same_137 ?_
                                refine v_cv (y := ((if R2.2.2.1 < aN A l then (1 : Int32) else 0))) (h11R2) ?_
                                refine v_if_ne (pc := 140) (tgt := 160) C dX5_same_140 (by decide) (fun c_140 => ?_) (fun c_140 => ?_)
                                · refine v_iconst (pc := 160) (v := 1) C dX5_same_160 (by decide) ?_
                                  refine v_goto (pc := 161) (tgt := 165) C dX5_same_161 (by decide) ?_
                                  refine v_istore (pc := 165) C dX5_same_165 (by decide) ?_
                                  refine v_iinc1 (pc := 167) C (i) rfl dX5_same_167 rfl ?_
                                  refine v_goto (pc := 170) (tgt := 125) C dX5_same_170 (by decide) ?_
                                  exact V.lessE (ih125  (((i) + 1)) ((1 : Int32)) (by omega) (by omega) (Or.inl ⟨rfl, smK_s.mpr ⟨al1 hal c_133, Or.inl (sp_t c_140)⟩⟩)) ⟨rfl, rfl, rfl, rfl, rfl, rfl, trivial⟩
                                · refine v_aload_n (pc := 143) C dX5_same_143 rfl ?_
                                  refine v_get (pc := 144) (v := .ref (a 5)) C inX5 0 rfl rfl 5 (by decide) kw3_30 rfl dX5_same_144 ?_
                                  refine v_iload (pc := 147) C dX5_same_147 rfl ?_
                                  refine v_ialdN (pc := 149) (i := (i)) (f := (mA u_89 5)) C 5 rfl (by omega) (by decide) dX5_same_149 ?_
                                  refine v_cv (y := (R2.2.2.2.1 i)) (congrFun h5R2 _) ?_
                                  refine v_aload_n (pc := 150) C dX5_same_150 rfl ?_
                                  refine v_get (pc := 151) (v := .ref (a 25)) C inX5 0 rfl rfl 25 (by decide) kw3_50 rfl dX5_same_151 ?_
                                  refine v_iload (pc := 154) C dX5_same_154 rfl ?_
                                  refine v_ialdN (pc := 156) (i := (i)) (f := (mA u_89 25)) C 19 rfl (by omega) (by decide) dX5_same_156 ?_
                                  refine v_cv (y := (R.2.2.2.1 i)) (by rw [h25, ht i (by omega)]; exact if_pos (by omega)) ?_
                                  refine v_icmp_ne (pc := 157) (tgt := 164) C dX5_same_157 (by decide) (fun c_157 => ?_) (fun c_157 => ?_)
                                  · refine v_iconst (pc := 164) (v := 0) C dX5_same_164 (by decide) ?_
                                    refine v_istore (pc := 165) C dX5_same_165 (by decide) ?_
                                    refine v_iinc1 (pc := 167) C (i) rfl dX5_same_167 rfl ?_
                                    refine v_goto (pc := 170) (tgt := 125) C dX5_same_170 (by decide) ?_
                                    exact V.lessE (ih125  (((i) + 1)) ((0 : Int32)) (by omega) (by omega) (Or.inr ⟨rfl, fun z => (smK_s.mp z).2.elim (fun y => sp_f c_140 y) (fun y => c_157 y)⟩)) ⟨rfl, rfl, rfl, rfl, rfl, rfl, trivial⟩
                                  · refine v_iconst (pc := 160) (v := 1) C dX5_same_160 (by decide) ?_
                                    refine v_goto (pc := 161) (tgt := 165) C dX5_same_161 (by decide) ?_
                                    refine v_istore (pc := 165) C dX5_same_165 (by decide) ?_
                                    refine v_iinc1 (pc := 167) C (i) rfl dX5_same_167 rfl ?_
                                    refine v_goto (pc := 170) (tgt := 125) C dX5_same_170 (by decide) ?_
                                    exact V.lessE (ih125  (((i) + 1)) ((1 : Int32)) (by omega) (by omega) (Or.inl ⟨rfl, smK_s.mpr ⟨al1 hal c_133, Or.inr c_157⟩⟩)) ⟨rfl, rfl, rfl, rfl, rfl, rfl, trivial⟩
                        exact V.lessE (L125 (5) (0) ((al)) (by omega) (by omega) (hal0)) ⟨rfl, rfl, rfl, rfl, rfl, rfl, trivial⟩
                      refine v_aload_n (pc := 96) C dX5_same_96 rfl ?_
                      refine v_get (pc := 97) (v := .ref (a 25)) C inX5 0 rfl rfl 25 (by decide) kw3_50 rfl dX5_same_97 ?_
                      refine v_bipush (pc := 100) (v := 12) C dX5_same_100 (by decide) ?_
                      refine v_ialdN (pc := 102) (i := 12) (f := (mA u_89 25)) C 19 rfl (by omega) (by decide) dX5_same_102 ?_
                      refine v_cv (y := ((if R.2.2.1 < aN A j then (1 : Int32) else 0))) (by rw [h25, ht 12 (by omega)]; rfl) ?_
                      refine v_iconst (pc := 103) (v := 1) C dX5_same_103 (by decide) ?_
                      refine v_icmp_ne (pc := 104) (tgt := 111) C dX5_same_104 (by decide) (fun c_104 => ?_) (fun c_104 => ?_)
                      · refine v_iconst (pc := 111) (v := 0) C dX5_same_111 (by decide) ?_
                        refine v_icmp_ne (pc := 112) (tgt := 119) C dX5_same_112 (by decide) (fun c_112 => ?_) (fun c_112 => ?_)
                        · refine v_iconst (pc := 119) (v := 0) C dX5_same_119 (by decide) ?_
                          exact V.lessE (J120  ((0 : Int32)) (Or.inr ⟨rfl, fun y => absurd y.1 (by by_cases z1 : R.2.2.1 < aN A j <;> by_cases z2 : R2.2.2.1 < aN A l <;> simp [z1, z2] at c_104 c_112 ⊢)⟩)) ⟨rfl, rfl, rfl, rfl, rfl, trivial⟩
                        · refine v_iconst (pc := 115) (v := 1) C dX5_same_115 (by decide) ?_
                          refine v_goto (pc := 116) (tgt := 120) C dX5_same_116 (by decide) ?_
                          exact V.lessE (J120  ((1 : Int32)) (Or.inl ⟨rfl, smK_0 (by by_cases z1 : R.2.2.1 < aN A j <;> by_cases z2 : R2.2.2.1 < aN A l <;> simp [z1, z2] at c_104 c_112 ⊢)⟩)) ⟨rfl, rfl, rfl, rfl, rfl, trivial⟩
                      · refine v_iconst (pc := 107) (v := 1) C dX5_same_107 (by decide) ?_
                        refine v_goto (pc := 108) (tgt := 112) C dX5_same_108 (by decide) ?_
                        refine v_icmp_ne (pc := 112) (tgt := 119) C dX5_same_112 (by decide) (fun c_112 => ?_) (fun c_112 => ?_)
                        · refine v_iconst (pc := 119) (v := 0) C dX5_same_119 (by decide) ?_
                          exact V.lessE (J120  ((0 : Int32)) (Or.inr ⟨rfl, fun y => absurd y.1 (by by_cases z1 : R.2.2.1 < aN A j <;> by_cases z2 : R2.2.2.1 < aN A l <;> simp [z1, z2] at c_104 c_112 ⊢)⟩)) ⟨rfl, rfl, rfl, rfl, rfl, trivial⟩
                        · refine v_iconst (pc := 115) (v := 1) C dX5_same_115 (by decide) ?_
                          refine v_goto (pc := 116) (tgt := 120) C dX5_same_116 (by decide) ?_
                          exact V.lessE (J120  ((1 : Int32)) (Or.inl ⟨rfl, smK_0 (by by_cases z1 : R.2.2.1 < aN A j <;> by_cases z2 : R2.2.2.1 < aN A l <;> simp [z1, z2] at c_104 c_112 ⊢)⟩)) ⟨rfl, rfl, rfl, rfl, rfl, trivial⟩
                    · refine v_aload_n (pc := 64) C dX5_same_64 rfl ?_
                      refine v_get (pc := 65) (v := .ref (a 25)) C inX5 0 rfl rfl 25 (by decide) kw3_50 rfl dX5_same_65 ?_
                      refine v_iload (pc := 68) C dX5_same_68 rfl ?_
                      refine v_aload_n (pc := 70) C dX5_same_70 rfl ?_
                      refine v_iload (pc := 71) C dX5_same_71 rfl ?_
                      refine v_callV0 (pc := 73) (st := [.int (nI (k)), .ref (a 25)]) (q0 := 0) C (kX5_end G o a (sA u_51 25 t) (k) (by omega) h7R) ykX5_end cvX5_end kw3_192 dX5_same_73 rfl rfl rfl rfl rfl (by decide) (Nat.le_of_ble_eq_true rfl) (by decide) rfl (Ri_kk (fun r_73 u_73 h_73 => ?_))
                      obtain ⟨e_73, er_73⟩ := h_73
                      rw [e_73]
                      refine v_iastN (pc := 76) (i := (k)) (f := t) C 19 rfl (by omega) (by decide) dX5_same_76 (ws' := (MW G o a (sA u_51 25 (upd (t) (k) (r_73))))) rfl ?_
                      refine v_iinc1 (pc := 77) C (k) rfl dX5_same_77 rfl ?_
                      refine v_goto (pc := 80) (tgt := 57) C dX5_same_80 (by decide) ?_
                      exact V.lessE (ih57  (((k) + 1)) ((upd (t) (k) (r_73))) (by omega) (by omega) (upd_in ht (er_73.trans (hER k)))) ⟨rfl, rfl, rfl, rfl, rfl, trivial⟩
                exact V.lessE (L57 (14) (0) ((mA u_51 25)) (by omega) (by omega) (fun z hz => absurd hz (Nat.not_lt_zero z))) ⟨rfl, rfl, rfl, rfl, rfl, trivial⟩
          exact V.lessE (L39 (11) (0) (S) (by omega) (by omega) (fun m hm => absurd hm (Nat.not_lt_zero m)) (hM)) ⟨rfl, rfl, rfl, rfl, trivial⟩
