/-! the reference: runs in the state's own words; run, question, answer -/
theorem okp_cong {O X Y P U Z : Nat → Int32} {n : Nat} (h : okp O X Y n) (hO : ∀ k, k < n → O k = P k) (hX : ∀ k, k < n → X k = U k) (hY : ∀ k, k < n → Y k = Z k) : okp P U Z n := by
  have hd := dp_cong hO
  refine ⟨h.1, fun k hk h6 => ?_, ?_, fun k hk => ?_⟩
  · rw [← hd k (by omega)]; exact h.2.1 k hk (by rw [hO k hk]; exact h6)
  · rw [← hd n (Nat.le_refl n)]; exact h.2.2.1
  · rw [← hO k hk, ← hX k hk, ← hY k hk]; exact h.2.2.2 k hk
theorem nI_ne_m1 {k : Nat} (h : k < 2 ^ 31) : ¬ nI k = -1 := fun q => by
  have := nI_toInt h
  rw [q] at this
  have z : (-1 : Int32).toInt = -1 := rfl
  omega
theorem kX5_runA (G : TG) (o : Nat) (a : Nat → Nat) (S : MS) (A : AS) (hI : AInv A) (hM : MRel A S) (p : Nat) (hp : p < aNp A) (inp mk ln ins : Int32) (Z : Nat → Int32) (hZ : ∀ k, k < aN A p → (if nI k = ln then ins else aY A p k) = Z k) (hok : okp (aO A p) (aX A p) Z (aN A p)) : CT G yX5_runLines cX5_runLines 7 none rmX5_runLines 0 0 [.ref o, .int (nI p), .int inp, .int mk, .int ln, .int ins] (MW G o a S) (fun S : MS => MW G o a S) (Rv (fun S' => ∃ R, S' = rnPut S (aN A p) R ∧ eqx R (RUN (aO A p) (aX A p) Z (aN A p) mk inp) ∧ okr R.2.2.2.2.2.1)) := by
  have hp10 : p < 10 := Nat.lt_of_lt_of_le hp hI.1
  have hn := hI.2.1 p
  have hO : ∀ k, k < aN A p → aO A p k = (fun k => mA S 0 (20 * p + k)) k := fun k hk => (hM.2.2.1 p k hp10 (by omega)).1.symm
  have hX : ∀ k, k < aN A p → aX A p k = (fun k => mA S 1 (20 * p + k)) k := fun k hk => (hM.2.2.1 p k hp10 (by omega)).2.1.symm
  have hY : ∀ k, k < aN A p → Z k = (fun k => if nI k = ln then ins else mA S 2 (20 * p + k)) k := fun k hk => by rw [← hZ k hk]; show _ = if _ then _ else _; rw [(hM.2.2.1 p k hp10 (by omega)).2.2]
  have hok2 := okp_cong hok hO hX hY
  exact (kX5_runLines G o a S p (aN A p) inp mk ln ins (fun k => if nI k = ln then ins else mA S 2 (20 * p + k)) hp10 (hM.2.1 p hp10) (fun _ => rfl) hok2).monoV (fun u h => ⟨_, h, rnR_sim _ _ hok2 (fun k hk => (hO k hk).symm) (fun k hk => (hX k hk).symm) (fun k hk => (hY k hk).symm), okr_R hok2⟩)
/-- what a run leaves alone -/
def Keep (S T : MS) : Prop := (∀ k, k ≠ 5 → k ≠ 6 → k ≠ 7 → k ≠ 9 → mA T k = mA S k) ∧ ∀ k, k ≠ 10 → k ≠ 11 → mI T k = mI S k
theorem Keep.refl (S : MS) : Keep S S := ⟨fun _ _ _ _ _ => rfl, fun _ _ _ => rfl⟩
theorem Keep.trans {S T U : MS} (h : Keep S T) (g : Keep T U) : Keep S U := ⟨fun k a b c d => (g.1 k a b c d).trans (h.1 k a b c d), fun k a b => (g.2 k a b).trans (h.2 k a b)⟩
theorem Keep_rnPut (S : MS) (n : Nat) (R : Nat × (Nat → Int32) × RS) : Keep S (rnPut S n R) := by
  refine ⟨fun k a b c d => ?_, fun k a b => ?_⟩
  · show va_up (va_up (va_up (va_up S.2.1 5 R.2.2.2.1) 6 R.2.2.2.2.1) 7 R.2.2.2.2.2.1) 9 R.2.1 k = S.2.1 k
    rw [va_up_ne _ _ d, va_up_ne _ _ c, va_up_ne _ _ b, va_up_ne _ _ a]
  · show va_up (va_up S.1 10 (nI R.1)) 11 (if R.2.2.1 < n then 1 else 0) k = S.1 k
    rw [va_up_ne _ _ b, va_up_ne _ _ a]
theorem MRel_keep {A : AS} {S T : MS} (h : MRel A S) (hk : Keep S T) : MRel A T := by
  unfold MRel
  rw [hk.2 4 (by decide) (by decide), hk.2 19 (by decide) (by decide), hk.2 14 (by decide) (by decide), hk.2 22 (by decide) (by decide), hk.2 24 (by decide) (by decide), hk.1 3 (by decide) (by decide) (by decide) (by decide), hk.1 0 (by decide) (by decide) (by decide) (by decide), hk.1 1 (by decide) (by decide) (by decide) (by decide), hk.1 2 (by decide) (by decide) (by decide) (by decide), hk.1 15 (by decide) (by decide) (by decide) (by decide), hk.1 16 (by decide) (by decide) (by decide) (by decide), hk.1 17 (by decide) (by decide) (by decide) (by decide), hk.1 18 (by decide) (by decide) (by decide) (by decide), hk.1 12 (by decide) (by decide) (by decide) (by decide), hk.1 13 (by decide) (by decide) (by decide) (by decide), hk.1 20 (by decide) (by decide) (by decide) (by decide), hk.1 21 (by decide) (by decide) (by decide) (by decide), hk.1 23 (by decide) (by decide) (by decide) (by decide), hk.1 26 (by decide) (by decide) (by decide) (by decide), hk.1 27 (by decide) (by decide) (by decide) (by decide), hk.1 28 (by decide) (by decide) (by decide) (by decide)]
  exact h
theorem noLn {A : AS} {p n : Nat} (hn : n ≤ 20) : ∀ k, k < n → (if nI k = -1 then 0 else aY A p k) = aY A p k := fun k hk => if_neg (nI_ne_m1 (by omega))
noncomputable def s_run (A : AS) (p n m : Int32) : Int32 × AS := if p < 0 ∨ nI (aNp A) ≤ p then (-1, A) else if n < 0 ∨ 9 < n then (-1, A) else if m < 0 ∨ 63 < m then (-1, A) else if dp (aO A (tn p)) (aN A (tn p)) = 0 then (nI (aRun A (tn p) m n).1, (A.1, A.2.1, some (aN A (tn p), endR (aN A (tn p)) (aRun A (tn p) m n), (aRun A (tn p) m n).2.1), A.2.2.2)) else (-3, A)
noncomputable def s_answer (A : AS) (q m : Int32) : Int32 := if q < 0 ∨ nI (aNq A) ≤ q then NV else if m < 0 ∨ 63 < m then NV else ansA A (tn q) m
def rmX5_run : Room := { frames := 4, cells := 0, slots := 0, locals := 101 }
set_option maxHeartbeats 4000000 in
set_option maxRecDepth 100000 in
theorem kX5_run (G : TG) (o : Nat) (a : Nat → Nat) (S : MS) (A : AS) (hI : AInv A) (hM : MRel A S) (p n m : Int32) : CT G yX5_run cX5_run 5 (some .int) rmX5_run 0 0 [.ref (o), .int (p), .int (n), .int (m)] (MW G o a S) (fun S : MS => MW G o a S) (Ri (fun r S' => r = (s_run A p n m).1 ∧ MRel (s_run A p n m).2 S')) := by
  refine CT.enter (by decide) (Nat.le_of_ble_eq_true rfl) (fun X C hnm => ?_)
  refine V.less [(0, .ref (o)), (1, .int (p)), (2, .int (n)), (3, .int (m))] ⟨rfl, rfl, rfl, rfl, trivial⟩ ?_
  generalize hQ : (QX G X (fun S : MS => MW G o a S) (Ri (fun r S' => r = (s_run A p n m).1 ∧ MRel (s_run A p n m).2 S')) 0 0) = Qq
  have hnp := hI.1
  have hnq := hI.2.2.2.2.1
  refine v_aload_n (pc := 0) C dX5_run_0 rfl ?_
  refine v_iload_n (pc := 1) C dX5_run_1 rfl ?_
  refine v_callV0 (pc := 2) (st := []) (q0 := 0) C (kX5_isProgram G o a S p) ykX5_isProgram cvX5_isProgram kw3_134 dX5_run_2 rfl rfl rfl rfl rfl (by decide) (Nat.le_of_ble_eq_true rfl) (by decide) rfl (Ri_kk (fun r_2 u_2 h_2 => ?_))
  obtain ⟨e_2, h_2⟩ := h_2
  rw [e_2]
  rcases (is01 (by omega) hM.1 h_2) with ⟨b_p, rfl⟩ | ⟨j, hj, rfl, rfl⟩
  · refine v_if_eqT (pc := 5) (tgt := 28) C (by decide) dX5_run_5 (by decide) ?_
    refine v_iconst (pc := 28) (v := (-1)) C dX5_run_28 (by decide) ?_
    subst hQ
    exact v_iret (pc := 29) C dX5_run_29 (rfl) (S) rfl (by unfold s_run; rw [if_pos b_p]; exact ⟨rfl, hM⟩)
  · refine v_if_eqF (pc := 5) (tgt := 28) C (by decide) dX5_run_5 (by decide) ?_
    refine v_iload_n (pc := 8) C dX5_run_8 rfl ?_
    refine v_iconst (pc := 9) (v := 0) C dX5_run_9 (by decide) ?_
    refine v_bipush (pc := 10) (v := 9) C dX5_run_10 (by decide) ?_
    refine v_callS0 (pc := 12) (st := []) C (kX5_within G _ n 0 9) ykX5_within kw3_142 kw3_141 dX5_run_12 rfl rfl rfl (by decide) (Nat.le_of_ble_eq_true rfl) (by decide) rfl (Ri_kk (fun r_12 u_12 h_12 => ?_))
    rcases (w01 h_12) with ⟨q_12, rfl⟩ | ⟨q_12, rfl⟩
    · refine v_if_eqT (pc := 15) (tgt := 28) C (by decide) dX5_run_15 (by decide) ?_
      refine v_iconst (pc := 28) (v := (-1)) C dX5_run_28 (by decide) ?_
      subst hQ
      exact v_iret (pc := 29) C dX5_run_29 (rfl) (S) rfl (by unfold s_run; rw [if_neg (nbad hj (by omega)), if_pos q_12]; exact ⟨rfl, hM⟩)
    · refine v_if_eqF (pc := 15) (tgt := 28) C (by decide) dX5_run_15 (by decide) ?_
      refine v_iload_n (pc := 18) C dX5_run_18 rfl ?_
      refine v_iconst (pc := 19) (v := 0) C dX5_run_19 (by decide) ?_
      refine v_bipush (pc := 20) (v := 63) C dX5_run_20 (by decide) ?_
      refine v_callS0 (pc := 22) (st := []) C (kX5_within G _ m 0 63) ykX5_within kw3_142 kw3_141 dX5_run_22 rfl rfl rfl (by decide) (Nat.le_of_ble_eq_true rfl) (by decide) rfl (Ri_kk (fun r_22 u_22 h_22 => ?_))
      rcases (w01 h_22) with ⟨q_22, rfl⟩ | ⟨q_22, rfl⟩
      · refine v_if_neF (pc := 25) (tgt := 30) C (by decide) dX5_run_25 (by decide) ?_
        refine v_iconst (pc := 28) (v := (-1)) C dX5_run_28 (by decide) ?_
        subst hQ
        exact v_iret (pc := 29) C dX5_run_29 (rfl) (S) rfl (by unfold s_run; rw [if_neg (nbad hj (by omega)), if_neg q_12, if_pos q_22]; exact ⟨rfl, hM⟩)
      · refine v_if_neT (pc := 25) (tgt := 30) C (by decide) dX5_run_25 (by decide) ?_
        refine v_aload_n (pc := 30) C dX5_run_30 rfl ?_
        refine v_iload_n (pc := 31) C dX5_run_31 rfl ?_
        refine v_callV0 (pc := 32) (st := []) (q0 := 0) C (kX5_isWhole G o a S A hI hM j hj) ykX5_isWhole cvX5_isWhole kw3_157 dX5_run_32 rfl rfl rfl rfl rfl (by decide) (Nat.le_of_ble_eq_true rfl) (by decide) rfl (Ri_kk (fun r_32 u_32 h_32 => ?_))
        obtain ⟨e_32, h_32⟩ := h_32
        rw [e_32]
        rcases (if01 h_32) with ⟨q_32, rfl⟩ | ⟨q_32, rfl⟩
        · refine v_if_neF (pc := 35) (tgt := 41) C (by decide) dX5_run_35 (by decide) ?_
          refine v_bipush (pc := 38) (v := (-3)) C dX5_run_38 (by decide) ?_
          subst hQ
          exact v_iret (pc := 40) C dX5_run_40 (rfl) (S) rfl (by unfold s_run; rw [if_neg (nbad hj (by omega)), if_neg q_12, if_neg q_22, tn_nI (n := j) (by omega), if_neg q_32]; exact ⟨rfl, hM⟩)
        · refine v_if_neT (pc := 35) (tgt := 41) C (by decide) dX5_run_35 (by decide) ?_
          refine v_aload_n (pc := 41) C dX5_run_41 rfl ?_
          refine v_iload_n (pc := 42) C dX5_run_42 rfl ?_
          refine v_iload_n (pc := 43) C dX5_run_43 rfl ?_
          refine v_iload_n (pc := 44) C dX5_run_44 rfl ?_
          refine v_iconst (pc := 45) (v := (-1)) C dX5_run_45 (by decide) ?_
          refine v_iconst (pc := 46) (v := 0) C dX5_run_46 (by decide) ?_
          refine v_callV0 (pc := 47) (st := []) (q0 := 0) C (kX5_runA G o a S A hI hM (j) (hj) (n) (m) (-1) 0 (aY A (j)) (noLn (hI.2.1 (j))) (okp_of hI (hj) q_32)) ykX5_runLines cvX5_runLines kw3_165 dX5_run_47 rfl rfl rfl rfl rfl (by decide) (Nat.le_of_ble_eq_true rfl) (by decide) rfl (Rv_kk (fun u_47 h_47 => ?_))
          obtain ⟨R, e_47, hxR, hrR⟩ := h_47
          refine V.same (ws' := MW G o a (sL (sA (sA (sA (sA (sI (sI S 10 (nI R.1)) 11 (if R.2.2.1 < (aN A (j)) then (1 : Int32) else 0)) 5 R.2.2.2.1) 6 R.2.2.2.2.1) 7 R.2.2.2.2.2.1) 9 R.2.1) R.2.2.2.2.2.2)) (by rw [e_47]; rfl) ?_
          refine v_iconst (pc := 50) (v := 0) C dX5_run_50 (by decide) ?_
          refine v_istore (pc := 51) C dX5_run_51 (by decide) ?_
          have L53 : ∀ (fu : Nat) (k : Nat) (t : Nat → Int32), (14 < k + fu) → (k ≤ 14) → (∀ z, z < k → t z = (endR (aN A j) R) z) → V G X cX5_run 5 rmX5_run Qq 0 0 53 (lvo [(0, .ref (o)), (1, .int (nI (j))), (2, .int (n)), (3, .int (m)), (4, .int (nI (k)))]) [] (MW G o a (sL (sA (sA (sA (sA (sA (sI (sI S 10 (nI R.1)) 11 (if R.2.2.1 < (aN A (j)) then (1 : Int32) else 0)) 5 R.2.2.2.1) 6 R.2.2.2.2.1) 7 R.2.2.2.2.2.1) 9 R.2.1) 12 t) R.2.2.2.2.2.2)) := by
            intro fu
            induction fu with
            | zero => intro k t hf hk ht; exfalso; omega
            | succ fu ih =>
              intro k t hf hk ht
              refine v_iload (pc := 53) C dX5_run_53 rfl ?_
              refine v_bipush (pc := 55) (v := 14) C dX5_run_55 (by decide) ?_
              refine v_icmp_geN (pc := 57) (tgt := 79) C (k) 14 rfl rfl (by omega) (by omega) dX5_run_57 (by decide) (fun c_57 => ?_) (fun c_57 => ?_)
              · refine v_aload_n (pc := 79) C dX5_run_79 rfl ?_
                refine v_aload_n (pc := 80) C dX5_run_80 rfl ?_
                refine v_get (pc := 81) (v := .ref (a 3)) C inX5 0 rfl rfl 3 (by decide) kw3_28 rfl dX5_run_81 ?_
                refine v_iload_n (pc := 84) C dX5_run_84 rfl ?_
                refine v_ialdN (pc := 85) (i := (j)) (f := (mA S 3)) C 4 rfl (by omega) (by decide) dX5_run_85 ?_
                refine v_cv (y := (nI (aN A j))) (hM.2.1 j (by omega)) ?_
                refine v_put (pc := 86) C inX5 tyX5 tyX5_ok nmX5 0 rfl rfl 14 (by decide) kw3_39 rfl (rfl) rfl (Nat.le_of_ble_eq_true rfl) dX5_run_86 (ws' := (MW G o a (sL (sA (sA (sA (sA (sA (sI (sI (sI S 10 (nI R.1)) 11 (if R.2.2.1 < (aN A (j)) then (1 : Int32) else 0)) 14 (nI (aN A j))) 5 R.2.2.2.1) 6 R.2.2.2.2.1) 7 R.2.2.2.2.2.1) 9 R.2.1) 12 t) R.2.2.2.2.2.2))) rfl ?_
                refine v_iconst (pc := 89) (v := 0) C dX5_run_89 (by decide) ?_
                refine v_istore (pc := 90) C dX5_run_90 (by decide) ?_
                have L92 : ∀ (fu : Nat) (k : Nat) (d : Nat → Int32), (20 < k + fu) → (k ≤ 20) → (∀ z, z < k → d z = R.2.1 z) → V G X cX5_run 5 rmX5_run Qq 0 0 92 (lvo [(0, .ref (o)), (1, .int (nI (j))), (2, .int (n)), (3, .int (m)), (4, .int (nI (k)))]) [] (MW G o a (sL (sA (sA (sA (sA (sA (sA (sI (sI (sI S 10 (nI R.1)) 11 (if R.2.2.1 < (aN A (j)) then (1 : Int32) else 0)) 14 (nI (aN A j))) 5 R.2.2.2.1) 6 R.2.2.2.2.1) 7 R.2.2.2.2.2.1) 9 R.2.1) 12 t) 13 d) R.2.2.2.2.2.2)) := by
                  intro fu
                  induction fu with
                  | zero => intro k d hf hk hd; exfalso; omega
                  | succ fu ih =>
                    intro k d hf hk hd
                    refine v_iload (pc := 92) C dX5_run_92 rfl ?_
                    refine v_bipush (pc := 94) (v := 20) C dX5_run_94 (by decide) ?_
                    refine v_icmp_geN (pc := 96) (tgt := 119) C (k) 20 rfl rfl (by omega) (by omega) dX5_run_96 (by decide) (fun c_96 => ?_) (fun c_96 => ?_)
                    · refine v_aload_n (pc := 119) C dX5_run_119 rfl ?_
                      refine v_get (pc := 120) (v := .int (nI (R.1))) C inX5 0 rfl rfl 10 (by decide) kw3_35 rfl dX5_run_120 ?_
                      subst hQ
                      exact v_iret (pc := 123) C dX5_run_123 (rfl) ((sL (sA (sA (sA (sA (sA (sA (sI (sI (sI S 10 (nI R.1)) 11 (if R.2.2.1 < (aN A (j)) then (1 : Int32) else 0)) 14 (nI (aN A j))) 5 R.2.2.2.1) 6 R.2.2.2.2.1) 7 R.2.2.2.2.2.1) 9 R.2.1) 12 t) 13 d) R.2.2.2.2.2.2)) rfl (by unfold s_run; rw [if_neg (nbad hj (by omega)), if_neg q_12, if_neg q_22, tn_nI (n := j) (by omega), if_pos q_32]; exact ⟨congrArg nI hxR.1, hM.1, hM.2.1, hM.2.2.1, hM.2.2.2.1, hM.2.2.2.2.1, Or.inr ⟨_, _, _, rfl, hI.2.1 j, rfl, fun z hz => (ht z (by omega)).trans (endR_x hxR), fun z hz => (hd z (by omega)).trans (congrFun hxR.2.1 z)⟩, hM.2.2.2.2.2.2⟩)
                    · refine v_aload_n (pc := 99) C dX5_run_99 rfl ?_
                      refine v_get (pc := 100) (v := .ref (a 13)) C inX5 0 rfl rfl 13 (by decide) kw3_38 rfl dX5_run_100 ?_
                      refine v_iload (pc := 103) C dX5_run_103 rfl ?_
                      refine v_aload_n (pc := 105) C dX5_run_105 rfl ?_
                      refine v_get (pc := 106) (v := .ref (a 9)) C inX5 0 rfl rfl 9 (by decide) kw3_34 rfl dX5_run_106 ?_
                      refine v_iload (pc := 109) C dX5_run_109 rfl ?_
                      refine v_ialdN (pc := 111) (i := (k)) (f := R.2.1) C 9 rfl (by omega) (by decide) dX5_run_111 ?_
                      refine v_iastN (pc := 112) (i := (k)) (f := d) C 11 rfl (by omega) (by decide) dX5_run_112 (ws' := (MW G o a (sL (sA (sA (sA (sA (sA (sA (sI (sI (sI S 10 (nI R.1)) 11 (if R.2.2.1 < (aN A (j)) then (1 : Int32) else 0)) 14 (nI (aN A j))) 5 R.2.2.2.1) 6 R.2.2.2.2.1) 7 R.2.2.2.2.2.1) 9 R.2.1) 12 t) 13 (upd (d) (k) (R.2.1 (k)))) R.2.2.2.2.2.2))) rfl ?_
                      refine v_iinc1 (pc := 113) C (k) rfl dX5_run_113 rfl ?_
                      refine v_goto (pc := 116) (tgt := 92) C dX5_run_116 (by decide) ?_
                      exact V.lessE (ih  (((k) + 1)) ((upd (d) (k) (R.2.1 (k)))) (by omega) (by omega) (upd_in hd rfl)) ⟨rfl, rfl, rfl, rfl, rfl, trivial⟩
                exact V.lessE (L92 (21) (0) ((mA S 13)) (by omega) (by omega) (fun z hz => absurd hz (Nat.not_lt_zero z))) ⟨rfl, rfl, rfl, rfl, rfl, trivial⟩
              · refine v_aload_n (pc := 60) C dX5_run_60 rfl ?_
                refine v_get (pc := 61) (v := .ref (a 12)) C inX5 0 rfl rfl 12 (by decide) kw3_37 rfl dX5_run_61 ?_
                refine v_iload (pc := 64) C dX5_run_64 rfl ?_
                refine v_aload_n (pc := 66) C dX5_run_66 rfl ?_
                refine v_iload (pc := 67) C dX5_run_67 rfl ?_
                refine v_callV0 (pc := 69) (st := [.int (nI (k)), .ref (a 12)]) (q0 := 0) C (kX5_end G o a (sL (sA (sA (sA (sA (sA (sI (sI S 10 (nI R.1)) 11 (if R.2.2.1 < (aN A (j)) then (1 : Int32) else 0)) 5 R.2.2.2.1) 6 R.2.2.2.2.1) 7 R.2.2.2.2.2.1) 9 R.2.1) 12 t) R.2.2.2.2.2.2) (k) (by omega) hrR) ykX5_end cvX5_end kw3_192 dX5_run_69 rfl rfl rfl rfl rfl (by decide) (Nat.le_of_ble_eq_true rfl) (by decide) rfl (Ri_kk (fun r_69 u_69 h_69 => ?_))
                obtain ⟨e_69, er_69⟩ := h_69
                rw [e_69]
                have er_69 : r_69 = endR (aN A j) R (k) := er_69.trans (endM_put S (aN A j) R (k))
                subst er_69
                refine v_iastN (pc := 72) (i := (k)) (f := t) C 10 rfl (by omega) (by decide) dX5_run_72 (ws' := (MW G o a (sL (sA (sA (sA (sA (sA (sI (sI S 10 (nI R.1)) 11 (if R.2.2.1 < (aN A (j)) then (1 : Int32) else 0)) 5 R.2.2.2.1) 6 R.2.2.2.2.1) 7 R.2.2.2.2.2.1) 9 R.2.1) 12 (upd (t) (k) (endR (aN A j) R (k)))) R.2.2.2.2.2.2))) rfl ?_
                refine v_iinc1 (pc := 73) C (k) rfl dX5_run_73 rfl ?_
                refine v_goto (pc := 76) (tgt := 53) C dX5_run_76 (by decide) ?_
                exact V.lessE (ih  (((k) + 1)) ((upd (t) (k) (endR (aN A j) R (k)))) (by omega) (by omega) (upd_in ht rfl)) ⟨rfl, rfl, rfl, rfl, rfl, trivial⟩
          exact V.lessE (L53 (15) (0) ((mA S 12)) (by omega) (by omega) (fun z hz => absurd hz (Nat.not_lt_zero z))) ⟨rfl, rfl, rfl, rfl, rfl, trivial⟩
def rmX5_answerOf : Room := { frames := 4, cells := 0, slots := 0, locals := 101 }
set_option maxHeartbeats 4000000 in
set_option maxRecDepth 100000 in
theorem kX5_answerOf (G : TG) (o : Nat) (a : Nat → Nat) (S : MS) (A : AS) (hI : AInv A) (hM : MRel A S) (j : Nat) (hj : j < aNq A) (mk : Int32) : CT G yX5_answerOf cX5_answerOf 3 (some .int) rmX5_answerOf 0 0 [.ref (o), .int (nI (j)), .int (mk)] (MW G o a S) (fun S : MS => MW G o a S) (Ri (fun r S' => r = ansA A j mk ∧ Keep S S')) := by
  refine CT.enter (by decide) (Nat.le_of_ble_eq_true rfl) (fun X C hnm => ?_)
  refine V.less [(0, .ref (o)), (1, .int (nI (j))), (2, .int (mk))] ⟨rfl, rfl, rfl, trivial⟩ ?_
  generalize hQ : (QX G X (fun S : MS => MW G o a S) (Ri (fun r S' => r = ansA A j mk ∧ Keep S S')) 0 0) = Qq
  have hnp := hI.1
  have hnq := hI.2.2.2.2.1
  obtain ⟨hqp, hq0, hqi, hqk, hw0, hw1, hw2⟩ := hI.2.2.2.2.2.1 j hj
  obtain ⟨m15, m16, m17, m18⟩ := hM.2.2.2.2.1 j hj
  have hn := hI.2.1 (aQp A j)
  refine v_aload_n (pc := 0) C dX5_answerOf_0 rfl ?_
  refine v_aload_n (pc := 1) C dX5_answerOf_1 rfl ?_
  refine v_get (pc := 2) (v := .ref (a 15)) C inX5 0 rfl rfl 15 (by decide) kw3_40 rfl dX5_answerOf_2 ?_
  refine v_iload_n (pc := 5) C dX5_answerOf_5 rfl ?_
  refine v_ialdN (pc := 6) (i := (j)) (f := (mA S 15)) C 12 rfl (by omega) (by decide) dX5_answerOf_6 ?_
  refine v_cv (y := (nI (aQp A j))) (m15) ?_
  refine v_aload_n (pc := 7) C dX5_answerOf_7 rfl ?_
  refine v_get (pc := 8) (v := .ref (a 16)) C inX5 0 rfl rfl 16 (by decide) kw3_41 rfl dX5_answerOf_8 ?_
  refine v_iload_n (pc := 11) C dX5_answerOf_11 rfl ?_
  refine v_ialdN (pc := 12) (i := (j)) (f := (mA S 16)) C 13 rfl (by omega) (by decide) dX5_answerOf_12 ?_
  refine v_cv (y := (nI (aQi A j))) (m16) ?_
  refine v_iload_n (pc := 13) C dX5_answerOf_13 rfl ?_
  refine v_iconst (pc := 14) (v := (-1)) C dX5_answerOf_14 (by decide) ?_
  refine v_iconst (pc := 15) (v := 0) C dX5_answerOf_15 (by decide) ?_
  refine v_callV0 (pc := 16) (st := []) (q0 := 0) C (kX5_runA G o a S A hI hM (aQp A j) (hqp) (nI (aQi A j)) (mk) (-1) 0 (aY A (aQp A j)) (noLn (hI.2.1 (aQp A j))) (okp_of hI (hqp) hq0)) ykX5_runLines cvX5_runLines kw3_165 dX5_answerOf_16 rfl rfl rfl rfl rfl (by decide) (Nat.le_of_ble_eq_true rfl) (by decide) rfl (Rv_kk (fun u_16 h_16 => ?_))
  obtain ⟨R, e_16, hxR, hrR⟩ := h_16
  refine V.same (ws' := MW G o a (sL (sA (sA (sA (sA (sI (sI S 10 (nI R.1)) 11 (if R.2.2.1 < (aN A (aQp A j)) then (1 : Int32) else 0)) 5 R.2.2.2.1) 6 R.2.2.2.2.1) 7 R.2.2.2.2.2.1) 9 R.2.1) R.2.2.2.2.2.2)) (by rw [e_16]; rfl) ?_
  refine v_aload_n (pc := 19) C dX5_answerOf_19 rfl ?_
  refine v_get (pc := 20) (v := .ref (a 17)) C inX5 0 rfl rfl 17 (by decide) kw3_42 rfl dX5_answerOf_20 ?_
  refine v_iload_n (pc := 23) C dX5_answerOf_23 rfl ?_
  refine v_ialdN (pc := 24) (i := (j)) (f := (mA S 17)) C 14 rfl (by omega) (by decide) dX5_answerOf_24 ?_
  refine v_cv (y := (nI (aQk A j))) (m17) ?_
  refine v_if_neN (pc := 25) (tgt := 42) C (aQk A j) rfl (by omega) dX5_answerOf_25 (by decide) (fun c_25 => ?_) (fun c_25 => ?_)
  · refine v_aload_n (pc := 42) C dX5_answerOf_42 rfl ?_
    refine v_get (pc := 43) (v := .ref (a 17)) C inX5 0 rfl rfl 17 (by decide) kw3_42 rfl dX5_answerOf_43 ?_
    refine v_iload_n (pc := 46) C dX5_answerOf_46 rfl ?_
    refine v_ialdN (pc := 47) (i := (j)) (f := (mA S 17)) C 14 rfl (by omega) (by decide) dX5_answerOf_47 ?_
    refine v_cv (y := (nI (aQk A j))) (m17) ?_
    refine v_iconst (pc := 48) (v := 1) C dX5_answerOf_48 (by decide) ?_
    refine v_icmp_neN (pc := 49) (tgt := 66) C (aQk A j) 1 rfl rfl (by omega) (by omega) dX5_answerOf_49 (by decide) (fun c_49 => ?_) (fun c_49 => ?_)
    · refine v_aload_n (pc := 66) C dX5_answerOf_66 rfl ?_
      refine v_iconst (pc := 67) (v := 4) C dX5_answerOf_67 (by decide) ?_
      refine v_aload_n (pc := 68) C dX5_answerOf_68 rfl ?_
      refine v_get (pc := 69) (v := .ref (a 18)) C inX5 0 rfl rfl 18 (by decide) kw3_43 rfl dX5_answerOf_69 ?_
      refine v_iload_n (pc := 72) C dX5_answerOf_72 rfl ?_
      refine v_ialdN (pc := 73) (i := (j)) (f := (mA S 18)) C 15 rfl (by omega) (by decide) dX5_answerOf_73 ?_
      refine v_cv (y := (nI (aQw A j))) (m18) ?_
      refine v_iaddN (pc := 74) C 4 (aQw A j) rfl rfl dX5_answerOf_74 ?_
      refine v_callV0 (pc := 75) (st := []) (q0 := 0) C (kX5_end G o a (sL (sA (sA (sA (sA (sI (sI S 10 (nI R.1)) 11 (if R.2.2.1 < (aN A (aQp A j)) then (1 : Int32) else 0)) 5 R.2.2.2.1) 6 R.2.2.2.2.1) 7 R.2.2.2.2.2.1) 9 R.2.1) R.2.2.2.2.2.2) (4 + aQw A j) (by omega) hrR) ykX5_end cvX5_end kw3_192 dX5_answerOf_75 rfl rfl rfl rfl rfl (by decide) (Nat.le_of_ble_eq_true rfl) (by decide) rfl (Ri_kk (fun r_75 u_75 h_75 => ?_))
      obtain ⟨e_75, er_75⟩ := h_75
      rw [e_75]
      have er_75 : r_75 = endR (aN A (aQp A j)) R (4 + aQw A j) := er_75.trans (endM_put S (aN A (aQp A j)) R (4 + aQw A j))
      subst er_75
      subst hQ
      exact v_iret (pc := 78) C dX5_answerOf_78 (rfl) ((sL (sA (sA (sA (sA (sI (sI S 10 (nI R.1)) 11 (if R.2.2.1 < (aN A (aQp A j)) then (1 : Int32) else 0)) 5 R.2.2.2.1) 6 R.2.2.2.2.1) 7 R.2.2.2.2.2.1) 9 R.2.1) R.2.2.2.2.2.2)) rfl (⟨by unfold ansA; rw [if_neg c_25, if_neg c_49]; exact endR_x hxR, Keep_rnPut S _ R⟩)
    · refine v_aload_n (pc := 52) C dX5_answerOf_52 rfl ?_
      refine v_get (pc := 53) (v := .ref (a 9)) C inX5 0 rfl rfl 9 (by decide) kw3_34 rfl dX5_answerOf_53 ?_
      refine v_aload_n (pc := 56) C dX5_answerOf_56 rfl ?_
      refine v_get (pc := 57) (v := .ref (a 18)) C inX5 0 rfl rfl 18 (by decide) kw3_43 rfl dX5_answerOf_57 ?_
      refine v_iload_n (pc := 60) C dX5_answerOf_60 rfl ?_
      refine v_ialdN (pc := 61) (i := (j)) (f := (mA S 18)) C 15 rfl (by omega) (by decide) dX5_answerOf_61 ?_
      refine v_cv (y := (nI (aQw A j))) (m18) ?_
      refine v_ialdN (pc := 62) (i := (aQw A j)) (f := R.2.1) C 9 rfl (by omega) (by decide) dX5_answerOf_62 ?_
      refine v_goto (pc := 63) (tgt := 78) C dX5_answerOf_63 (by decide) ?_
      subst hQ
      exact v_iret (pc := 78) C dX5_answerOf_78 (rfl) ((sL (sA (sA (sA (sA (sI (sI S 10 (nI R.1)) 11 (if R.2.2.1 < (aN A (aQp A j)) then (1 : Int32) else 0)) 5 R.2.2.2.1) 6 R.2.2.2.2.1) 7 R.2.2.2.2.2.1) 9 R.2.1) R.2.2.2.2.2.2)) rfl (⟨by unfold ansA; rw [if_neg c_25, if_pos c_49]; exact congrFun hxR.2.1 _, Keep_rnPut S _ R⟩)
  · refine v_aload_n (pc := 28) C dX5_answerOf_28 rfl ?_
    refine v_get (pc := 29) (v := .ref (a 5)) C inX5 0 rfl rfl 5 (by decide) kw3_30 rfl dX5_answerOf_29 ?_
    refine v_aload_n (pc := 32) C dX5_answerOf_32 rfl ?_
    refine v_get (pc := 33) (v := .ref (a 18)) C inX5 0 rfl rfl 18 (by decide) kw3_43 rfl dX5_answerOf_33 ?_
    refine v_iload_n (pc := 36) C dX5_answerOf_36 rfl ?_
    refine v_ialdN (pc := 37) (i := (j)) (f := (mA S 18)) C 15 rfl (by omega) (by decide) dX5_answerOf_37 ?_
    refine v_cv (y := (nI (aQw A j))) (m18) ?_
    refine v_ialdN (pc := 38) (i := (aQw A j)) (f := R.2.2.2.1) C 5 rfl (by omega) (by decide) dX5_answerOf_38 ?_
    refine v_goto (pc := 39) (tgt := 78) C dX5_answerOf_39 (by decide) ?_
    subst hQ
    exact v_iret (pc := 78) C dX5_answerOf_78 (rfl) ((sL (sA (sA (sA (sA (sI (sI S 10 (nI R.1)) 11 (if R.2.2.1 < (aN A (aQp A j)) then (1 : Int32) else 0)) 5 R.2.2.2.1) 6 R.2.2.2.2.1) 7 R.2.2.2.2.2.1) 9 R.2.1) R.2.2.2.2.2.2)) rfl (⟨by unfold ansA; rw [if_pos c_25]; exact congrFun hxR.2.2.2.1 _, Keep_rnPut S _ R⟩)
def rmX5_answer : Room := { frames := 5, cells := 0, slots := 0, locals := 123 }
set_option maxHeartbeats 4000000 in
set_option maxRecDepth 100000 in
theorem kX5_answer (G : TG) (o : Nat) (a : Nat → Nat) (S : MS) (A : AS) (hI : AInv A) (hM : MRel A S) (q m : Int32) : CT G yX5_answer cX5_answer 3 (some .int) rmX5_answer 0 0 [.ref (o), .int (q), .int (m)] (MW G o a S) (fun S : MS => MW G o a S) (Ri (fun r S' => r = s_answer A q m ∧ MRel A S')) := by
  refine CT.enter (by decide) (Nat.le_of_ble_eq_true rfl) (fun X C hnm => ?_)
  refine V.less [(0, .ref (o)), (1, .int (q)), (2, .int (m))] ⟨rfl, rfl, rfl, trivial⟩ ?_
  generalize hQ : (QX G X (fun S : MS => MW G o a S) (Ri (fun r S' => r = s_answer A q m ∧ MRel A S')) 0 0) = Qq
  have hnp := hI.1
  have hnq := hI.2.2.2.2.1
  refine v_aload_n (pc := 0) C dX5_answer_0 rfl ?_
  refine v_iload_n (pc := 1) C dX5_answer_1 rfl ?_
  refine v_callV0 (pc := 2) (st := []) (q0 := 0) C (kX5_isQuestion G o a S q) ykX5_isQuestion cvX5_isQuestion kw3_212 dX5_answer_2 rfl rfl rfl rfl rfl (by decide) (Nat.le_of_ble_eq_true rfl) (by decide) rfl (Ri_kk (fun r_2 u_2 h_2 => ?_))
  obtain ⟨e_2, h_2⟩ := h_2
  rw [e_2]
  rcases (is01 (by omega) hM.2.2.2.1 h_2) with ⟨b_q, rfl⟩ | ⟨j, hj, rfl, rfl⟩
  · refine v_if_eqT (pc := 5) (tgt := 27) C (by decide) dX5_answer_5 (by decide) ?_
    refine v_ldc (pc := 27) C dX5_answer_27 kw3_152 ?_
    subst hQ
    exact v_iret (pc := 29) C dX5_answer_29 (rfl) (S) rfl (⟨by unfold s_answer; rw [if_pos b_q]; rfl, hM⟩)
  · refine v_if_eqF (pc := 5) (tgt := 27) C (by decide) dX5_answer_5 (by decide) ?_
    refine v_iload_n (pc := 8) C dX5_answer_8 rfl ?_
    refine v_iconst (pc := 9) (v := 0) C dX5_answer_9 (by decide) ?_
    refine v_bipush (pc := 10) (v := 63) C dX5_answer_10 (by decide) ?_
    refine v_callS0 (pc := 12) (st := []) C (kX5_within G _ m 0 63) ykX5_within kw3_142 kw3_141 dX5_answer_12 rfl rfl rfl (by decide) (Nat.le_of_ble_eq_true rfl) (by decide) rfl (Ri_kk (fun r_12 u_12 h_12 => ?_))
    rcases (w01 h_12) with ⟨q_12, rfl⟩ | ⟨q_12, rfl⟩
    · refine v_if_eqT (pc := 15) (tgt := 27) C (by decide) dX5_answer_15 (by decide) ?_
      refine v_ldc (pc := 27) C dX5_answer_27 kw3_152 ?_
      subst hQ
      exact v_iret (pc := 29) C dX5_answer_29 (rfl) (S) rfl (⟨by unfold s_answer; rw [if_neg (nbad hj (by omega)), if_pos q_12]; rfl, hM⟩)
    · refine v_if_eqF (pc := 15) (tgt := 27) C (by decide) dX5_answer_15 (by decide) ?_
      refine v_aload_n (pc := 18) C dX5_answer_18 rfl ?_
      refine v_iload_n (pc := 19) C dX5_answer_19 rfl ?_
      refine v_iload_n (pc := 20) C dX5_answer_20 rfl ?_
      refine v_callV0 (pc := 21) (st := []) (q0 := 0) C (kX5_answerOf G o a S A hI hM j hj m) ykX5_answerOf cvX5_answerOf kw3_216 dX5_answer_21 rfl rfl rfl rfl rfl (by decide) (Nat.le_of_ble_eq_true rfl) (by decide) rfl (Ri_kk (fun r_21 u_21 h_21 => ?_))
      obtain ⟨er, hK⟩ := h_21
      have hM2 := MRel_keep hM hK
      refine v_goto (pc := 24) (tgt := 29) C dX5_answer_24 (by decide) ?_
      subst hQ
      exact v_iret (pc := 29) C dX5_answer_29 (rfl) (u_21) rfl (⟨by unfold s_answer; rw [if_neg (nbad hj (by omega)), if_neg q_12, tn_nI (n := j) (by omega)]; exact er, hM2⟩)
