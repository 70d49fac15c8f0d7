/-! the reference: question, why, give -/
theorem sp_t {c : Prop} [Decidable c] (h : ¬ (if c then (1 : Int32) else 0) = 0) : c := Classical.byContradiction (fun q => h (if_neg q))
theorem sp_f {c : Prop} [Decidable c] (h : (if c then (1 : Int32) else 0) = 0) : ¬ c := fun q => by rw [if_pos q] at h; exact absurd h (by decide)
theorem tnI {x : Int32} (h : ¬ x < 0) : nI (tn x) = x := by
  obtain ⟨j, hj, e⟩ := nI_of h
  rw [e, tn_nI hj]
def wlim (A : AS) (j : Nat) (k : Int32) : Int32 := if k = 0 then 3 else if k = 1 then nI (aN A j) - 1 else 7
def addQ (A : AS) (j : Nat) (n k w : Int32) : AS := (A.1, (aNq A + 1, (fun q => if q = aNq A then j else aQp A q), (fun q => if q = aNq A then tn n else aQi A q), (fun q => if q = aNq A then tn k else aQk A q), (fun q => if q = aNq A then tn w else aQw A q)), A.2.2)
noncomputable def s_question (A : AS) (p n k w : Int32) : Int32 × AS :=
  if p < 0 ∨ nI (aNp A) ≤ p then (-1, A) else if n < 0 ∨ 9 < n then (-1, A) else if k < 0 ∨ 2 < k then (-1, A) else if w < 0 ∨ wlim A (tn p) k < w then (-1, A) else if ¬ dp (aO A (tn p)) (aN A (tn p)) = 0 then (-3, A) else if (aRun A (tn p) 0 n).2.2.1 < aN A (tn p) then (-3, A) else if aNq A = 60 then (-2, A) else (nI (aNq A), addQ A (tn p) n k w)
theorem MRel_addQ {A : AS} {S : MS} {j : Nat} {n k w : Int32} (hM : MRel A S) (hn : ¬ n < 0) (hk : ¬ k < 0) (hw : ¬ w < 0) : MRel (addQ A j n k w) (sA (sA (sA (sA (sI S 19 (nI (aNq A + 1))) 15 (upd (mA S 15) (aNq A) (nI j))) 16 (upd (mA S 16) (aNq A) n)) 17 (upd (mA S 17) (aNq A) k)) 18 (upd (mA S 18) (aNq A) w)) := by
  have key : ∀ {f : Nat → Int32} {g : Nat → Nat} {v : Int32} {y q : Nat}, v = nI y → (q < aNq A → f q = nI (g q)) → q < aNq A + 1 → upd f (aNq A) v q = nI (if q = aNq A then y else g q) := by
    intro f g v y q hv h hq
    by_cases e : q = aNq A
    · rw [if_pos e, e, pk_us, hv]
    · rw [if_neg e, pk_un e, h (by omega)]
  refine ⟨hM.1, hM.2.1, hM.2.2.1, rfl, fun q hq => ⟨?_, ?_, ?_, ?_⟩, hM.2.2.2.2.2⟩
  · exact key rfl (fun h => (hM.2.2.2.2.1 q h).1) hq
  · exact key (tnI hn).symm (fun h => (hM.2.2.2.2.1 q h).2.1) hq
  · exact key (tnI hk).symm (fun h => (hM.2.2.2.2.1 q h).2.2.1) hq
  · exact key (tnI hw).symm (fun h => (hM.2.2.2.2.1 q h).2.2.2) hq
noncomputable def whyI (A : AS) (j : Nat) (v : Int32) : Nat → Int32
  | 0 => 0
  | n + 1 => whyI A j v n ||| (if ¬ (aRun A (aQp A j) 0 (nI n)).2.2.1 < aN A (aQp A j) ∧ (aRun A (aQp A j) 0 (nI n)).2.2.2.1 (aQw A j) = v then (1 : Int32) <<< (nI n &&& 31) else 0)
noncomputable def s_why (A : AS) (q v : Int32) : Int32 := if q < 0 ∨ nI (aNq A) ≤ q then -1 else if aQk A (tn q) = 0 then whyI A (tn q) v 10 else -1
def gvn (g : Nat → Option Int32) : Nat → Nat
  | 0 => 0
  | q + 1 => gvn g q + (if (g q).isSome then 1 else 0)
def putG (A : AS) (u q : Nat) (v : Int32) : AS := (A.1, A.2.1, A.2.2.1, A.2.2.2.1, A.2.2.2.2.1, (fun x y => if x = u ∧ y = q then some v else aG A x y), A.2.2.2.2.2.2)
def s_give (A : AS) (u q v : Int32) : Int32 × AS := if u < 0 ∨ nI 10 ≤ u then (-1, A) else if q < 0 ∨ nI (aNq A) ≤ q then (-1, A) else (nI (gvn (aG (putG A (tn u) (tn q) v) (tn u)) (aNq A)), putG A (tn u) (tn q) v)
theorem upd60 {f : Nat → Int32} {p k j n : Nat} {v : Int32} (hk : k < 60) (hn : n < 60) : upd f (60 * j + n) v (60 * p + k) = if p = j ∧ k = n then v else f (60 * p + k) := by
  by_cases h : p = j ∧ k = n
  · rw [if_pos h, h.1, h.2, pk_us]
  · rw [if_neg h, pk_un (by omega)]
theorem MRel_putG {A : AS} {S : MS} {u q : Nat} {v : Int32} (hM : MRel A S) (hq : q < 60) : MRel (putG A u q v) (sA (sA S 26 (upd (mA S 26) (60 * u + q) 1)) 27 (upd (mA S 27) (60 * u + q) v)) := by
  refine ⟨hM.1, hM.2.1, hM.2.2.1, hM.2.2.2.1, hM.2.2.2.2.1, hM.2.2.2.2.2.1, hM.2.2.2.2.2.2.1, hM.2.2.2.2.2.2.2.1, fun x y hx hy => ?_, hM.2.2.2.2.2.2.2.2.2⟩
  show ((if x = u ∧ y = q then some v else aG A x y) = none ∧ upd (mA S 26) (60 * u + q) 1 (60 * x + y) = 0) ∨ ∃ z, (if x = u ∧ y = q then some v else aG A x y) = some z ∧ upd (mA S 26) (60 * u + q) 1 (60 * x + y) = 1 ∧ upd (mA S 27) (60 * u + q) v (60 * x + y) = z
  rw [upd60 hy hq, upd60 hy hq]
  by_cases h : x = u ∧ y = q
  · rw [if_pos h, if_pos h, if_pos h]; exact Or.inr ⟨v, rfl, rfl, rfl⟩
  · rw [if_neg h, if_neg h, if_neg h]; exact hM.2.2.2.2.2.2.2.2.1 x y hx hy
def rmX5_question : Room := { frames := 4, cells := 0, slots := 0, locals := 101 }
set_option maxHeartbeats 4000000 in
set_option maxRecDepth 100000 in
theorem kX5_question (G : TG) (o : Nat) (a : Nat → Nat) (S : MS) (A : AS) (hI : AInv A) (hM : MRel A S) (p n k w : Int32) : CT G yX5_question cX5_question 5 (some .int) rmX5_question 0 0 [.ref (o), .int (p), .int (n), .int (k), .int (w)] (MW G o a S) (fun S : MS => MW G o a S) (Ri (fun r S' => r = (s_question A p n k w).1 ∧ MRel (s_question A p n k w).2 S')) := by
  refine CT.enter (by decide) (Nat.le_of_ble_eq_true rfl) (fun X C hnm => ?_)
  refine V.less [(0, .ref (o)), (1, .int (p)), (2, .int (n)), (3, .int (k)), (4, .int (w))] ⟨rfl, rfl, rfl, rfl, rfl, trivial⟩ ?_
  generalize hQ : (QX G X (fun S : MS => MW G o a S) (Ri (fun r S' => r = (s_question A p n k w).1 ∧ MRel (s_question A p n k w).2 S')) 0 0) = Qq
  have hnp := hI.1
  have hnq := hI.2.2.2.2.1
  refine v_aload_n (pc := 0) C dX5_question_0 rfl ?_
  refine v_iload_n (pc := 1) C dX5_question_1 rfl ?_
  refine v_callV0 (pc := 2) (st := []) (q0 := 0) C (kX5_isProgram G o a S p) ykX5_isProgram cvX5_isProgram kw3_134 dX5_question_2 rfl rfl rfl rfl rfl (by decide) (Nat.le_of_ble_eq_true rfl) (by decide) rfl (Ri_kk (fun r_2 u_2 h_2 => ?_))
  obtain ⟨e_2, h_2⟩ := h_2
  rw [e_2]
  rcases (is01 (by omega) hM.1 h_2) with ⟨b_p, rfl⟩ | ⟨j, hj, rfl, rfl⟩
  · refine v_if_eqT (pc := 5) (tgt := 62) C (by decide) dX5_question_5 (by decide) ?_
    refine v_iconst (pc := 62) (v := (-1)) C dX5_question_62 (by decide) ?_
    subst hQ
    exact v_iret (pc := 63) C dX5_question_63 (rfl) (S) rfl (by unfold s_question; rw [if_pos b_p]; exact ⟨rfl, hM⟩)
  · refine v_if_eqF (pc := 5) (tgt := 62) C (by decide) dX5_question_5 (by decide) ?_
    refine v_iload_n (pc := 8) C dX5_question_8 rfl ?_
    refine v_iconst (pc := 9) (v := 0) C dX5_question_9 (by decide) ?_
    refine v_bipush (pc := 10) (v := 9) C dX5_question_10 (by decide) ?_
    refine v_callS0 (pc := 12) (st := []) C (kX5_within G _ n 0 9) ykX5_within kw3_142 kw3_141 dX5_question_12 rfl rfl rfl (by decide) (Nat.le_of_ble_eq_true rfl) (by decide) rfl (Ri_kk (fun r_12 u_12 h_12 => ?_))
    rcases (w01 h_12) with ⟨q_12, rfl⟩ | ⟨q_12, rfl⟩
    · refine v_if_eqT (pc := 15) (tgt := 62) C (by decide) dX5_question_15 (by decide) ?_
      refine v_iconst (pc := 62) (v := (-1)) C dX5_question_62 (by decide) ?_
      subst hQ
      exact v_iret (pc := 63) C dX5_question_63 (rfl) (S) rfl (by unfold s_question; rw [if_neg (nbad hj (by omega)), if_pos q_12]; exact ⟨rfl, hM⟩)
    · refine v_if_eqF (pc := 15) (tgt := 62) C (by decide) dX5_question_15 (by decide) ?_
      refine v_iload_n (pc := 18) C dX5_question_18 rfl ?_
      refine v_iconst (pc := 19) (v := 0) C dX5_question_19 (by decide) ?_
      refine v_iconst (pc := 20) (v := 2) C dX5_question_20 (by decide) ?_
      refine v_callS0 (pc := 21) (st := []) C (kX5_within G _ k 0 2) ykX5_within kw3_142 kw3_141 dX5_question_21 rfl rfl rfl (by decide) (Nat.le_of_ble_eq_true rfl) (by decide) rfl (Ri_kk (fun r_21 u_21 h_21 => ?_))
      rcases (w01 h_21) with ⟨q_21, rfl⟩ | ⟨q_21, rfl⟩
      · refine v_if_eqT (pc := 24) (tgt := 62) C (by decide) dX5_question_24 (by decide) ?_
        refine v_iconst (pc := 62) (v := (-1)) C dX5_question_62 (by decide) ?_
        subst hQ
        exact v_iret (pc := 63) C dX5_question_63 (rfl) (S) rfl (by unfold s_question; rw [if_neg (nbad hj (by omega)), if_neg q_12, if_pos q_21]; exact ⟨rfl, hM⟩)
      · refine v_if_eqF (pc := 24) (tgt := 62) C (by decide) dX5_question_24 (by decide) ?_
        refine v_iload (pc := 27) C dX5_question_27 rfl ?_
        refine v_iconst (pc := 29) (v := 0) C dX5_question_29 (by decide) ?_
        have J56 : ∀ (lim : Int32), (lim = wlim A j k) → V G X cX5_question 5 rmX5_question Qq 0 0 56 (lvo [(0, .ref (o)), (1, .int (nI (j))), (2, .int (n)), (3, .int (k)), (4, .int (w))]) [.int (lim), .int 0, .int (w)] (MW G o a S) := by
          intro lim hlim
          refine v_callS0 (pc := 56) (st := []) C (kX5_within G _ w 0 lim) ykX5_within kw3_142 kw3_141 dX5_question_56 rfl rfl rfl (by decide) (Nat.le_of_ble_eq_true rfl) (by decide) rfl (Ri_kk (fun r_56 u_56 h_56 => ?_))
          rw [hlim] at h_56
          rcases (w01 h_56) with ⟨q_56, rfl⟩ | ⟨q_56, rfl⟩
          · refine v_if_neF (pc := 59) (tgt := 64) C (by decide) dX5_question_59 (by decide) ?_
            refine v_iconst (pc := 62) (v := (-1)) C dX5_question_62 (by decide) ?_
            subst hQ
            exact v_iret (pc := 63) C dX5_question_63 (rfl) (S) rfl (by unfold s_question; rw [if_neg (nbad hj (by omega)), if_neg q_12, if_neg q_21, tn_nI (n := j) (by omega), if_pos q_56]; exact ⟨rfl, hM⟩)
          · refine v_if_neT (pc := 59) (tgt := 64) C (by decide) dX5_question_59 (by decide) ?_
            refine v_aload_n (pc := 64) C dX5_question_64 rfl ?_
            refine v_iload_n (pc := 65) C dX5_question_65 rfl ?_
            refine v_callV0 (pc := 66) (st := []) (q0 := 0) C (kX5_isWhole G o a S A hI hM j hj) ykX5_isWhole cvX5_isWhole kw3_157 dX5_question_66 rfl rfl rfl rfl rfl (by decide) (Nat.le_of_ble_eq_true rfl) (by decide) rfl (Ri_kk (fun r_66 u_66 h_66 => ?_))
            obtain ⟨e_66, h_66⟩ := h_66
            rw [e_66]
            rcases (if01 h_66) with ⟨q_66, rfl⟩ | ⟨q_66, rfl⟩
            · refine v_if_neF (pc := 69) (tgt := 75) C (by decide) dX5_question_69 (by decide) ?_
              refine v_bipush (pc := 72) (v := (-3)) C dX5_question_72 (by decide) ?_
              subst hQ
              exact v_iret (pc := 74) C dX5_question_74 (rfl) (S) rfl (by unfold s_question; rw [if_neg (nbad hj (by omega)), if_neg q_12, if_neg q_21, tn_nI (n := j) (by omega), if_neg q_56, if_pos q_66]; exact ⟨rfl, hM⟩)
            · refine v_if_neT (pc := 69) (tgt := 75) C (by decide) dX5_question_69 (by decide) ?_
              refine v_aload_n (pc := 75) C dX5_question_75 rfl ?_
              refine v_iload_n (pc := 76) C dX5_question_76 rfl ?_
              refine v_iload_n (pc := 77) C dX5_question_77 rfl ?_
              refine v_iconst (pc := 78) (v := 0) C dX5_question_78 (by decide) ?_
              refine v_iconst (pc := 79) (v := (-1)) C dX5_question_79 (by decide) ?_
              refine v_iconst (pc := 80) (v := 0) C dX5_question_80 (by decide) ?_
              refine v_callV0 (pc := 81) (st := []) (q0 := 0) C (kX5_runA G o a S A hI hM (j) (hj) (n) (0) (-1) 0 (aY A (j)) (noLn (hI.2.1 (j))) (okp_of hI (hj) q_66)) ykX5_runLines cvX5_runLines kw3_165 dX5_question_81 rfl rfl rfl rfl rfl (by decide) (Nat.le_of_ble_eq_true rfl) (by decide) rfl (Rv_kk (fun u_81 h_81 => ?_))
              obtain ⟨R, e_81, hxR, hrR⟩ := h_81
              have hM_R : MRel A u_81 := by rw [e_81]; exact hM
              have h5R : mA u_81 5 = R.2.2.2.1 := by rw [e_81]; rfl
              have h7R : okr (mA u_81 7) := by rw [e_81]; exact hrR
              have h11R : mI u_81 11 = (if R.2.2.1 < (aN A (j)) then 1 else 0) := by rw [e_81]; rfl
              have hER : ∀ k, endM u_81 k = endR (aN A (j)) R k := fun k => by rw [e_81]; exact endM_put _ _ _ _
              refine v_aload_n (pc := 84) C dX5_question_84 rfl ?_
              refine v_get (pc := 85) (v := .int (mI u_81 11)) C inX5 0 rfl rfl 11 (by decide) kw3_36 rfl dX5_question_85 ?_
              refine v_if_eq (pc := 88) (tgt := 94) C dX5_question_88 (by decide) (fun c_88 => ?_) (fun c_88 => ?_)
              · refine v_aload_n (pc := 94) C dX5_question_94 rfl ?_
                refine v_get (pc := 95) (v := .int (mI u_81 19)) C inX5 0 rfl rfl 19 (by decide) kw3_44 rfl dX5_question_95 ?_
                refine v_cv (y := (nI (aNq A))) (hM_R.2.2.2.1) ?_
                refine v_bipush (pc := 98) (v := 60) C dX5_question_98 (by decide) ?_
                refine v_icmp_neN (pc := 100) (tgt := 106) C (aNq A) 60 rfl rfl (by omega) (by omega) dX5_question_100 (by decide) (fun c_100 => ?_) (fun c_100 => ?_)
                · refine v_aload_n (pc := 106) C dX5_question_106 rfl ?_
                  refine v_get (pc := 107) (v := .ref (a 15)) C inX5 0 rfl rfl 15 (by decide) kw3_40 rfl dX5_question_107 ?_
                  refine v_aload_n (pc := 110) C dX5_question_110 rfl ?_
                  refine v_get (pc := 111) (v := .int (mI u_81 19)) C inX5 0 rfl rfl 19 (by decide) kw3_44 rfl dX5_question_111 ?_
                  refine v_cv (y := (nI (aNq A))) (hM_R.2.2.2.1) ?_
                  refine v_iload_n (pc := 114) C dX5_question_114 rfl ?_
                  refine v_iastN (pc := 115) (i := (aNq A)) (f := (mA u_81 15)) C 12 rfl (by omega) (by decide) dX5_question_115 (ws' := (MW G o a (sA u_81 15 (upd ((mA u_81 15)) (aNq A) (nI (j)))))) rfl ?_
                  refine v_aload_n (pc := 116) C dX5_question_116 rfl ?_
                  refine v_get (pc := 117) (v := .ref (a 16)) C inX5 0 rfl rfl 16 (by decide) kw3_41 rfl dX5_question_117 ?_
                  refine v_aload_n (pc := 120) C dX5_question_120 rfl ?_
                  refine v_get (pc := 121) (v := .int (mI u_81 19)) C inX5 0 rfl rfl 19 (by decide) kw3_44 rfl dX5_question_121 ?_
                  refine v_cv (y := (nI (aNq A))) (hM_R.2.2.2.1) ?_
                  refine v_iload_n (pc := 124) C dX5_question_124 rfl ?_
                  refine v_iastN (pc := 125) (i := (aNq A)) (f := (mA u_81 16)) C 13 rfl (by omega) (by decide) dX5_question_125 (ws' := (MW G o a (sA (sA u_81 15 (upd ((mA u_81 15)) (aNq A) (nI (j)))) 16 (upd ((mA u_81 16)) (aNq A) (n))))) rfl ?_
                  refine v_aload_n (pc := 126) C dX5_question_126 rfl ?_
                  refine v_get (pc := 127) (v := .ref (a 17)) C inX5 0 rfl rfl 17 (by decide) kw3_42 rfl dX5_question_127 ?_
                  refine v_aload_n (pc := 130) C dX5_question_130 rfl ?_
                  refine v_get (pc := 131) (v := .int (mI u_81 19)) C inX5 0 rfl rfl 19 (by decide) kw3_44 rfl dX5_question_131 ?_
                  refine v_cv (y := (nI (aNq A))) (hM_R.2.2.2.1) ?_
                  refine v_iload_n (pc := 134) C dX5_question_134 rfl ?_
                  refine v_iastN (pc := 135) (i := (aNq A)) (f := (mA u_81 17)) C 14 rfl (by omega) (by decide) dX5_question_135 (ws' := (MW G o a (sA (sA (sA u_81 15 (upd ((mA u_81 15)) (aNq A) (nI (j)))) 16 (upd ((mA u_81 16)) (aNq A) (n))) 17 (upd ((mA u_81 17)) (aNq A) (k))))) rfl ?_
                  refine v_aload_n (pc := 136) C dX5_question_136 rfl ?_
                  refine v_get (pc := 137) (v := .ref (a 18)) C inX5 0 rfl rfl 18 (by decide) kw3_43 rfl dX5_question_137 ?_
                  refine v_aload_n (pc := 140) C dX5_question_140 rfl ?_
                  refine v_get (pc := 141) (v := .int (mI u_81 19)) C inX5 0 rfl rfl 19 (by decide) kw3_44 rfl dX5_question_141 ?_
                  refine v_cv (y := (nI (aNq A))) (hM_R.2.2.2.1) ?_
                  refine v_iload (pc := 144) C dX5_question_144 rfl ?_
                  refine v_iastN (pc := 146) (i := (aNq A)) (f := (mA u_81 18)) C 15 rfl (by omega) (by decide) dX5_question_146 (ws' := (MW G o a (sA (sA (sA (sA u_81 15 (upd ((mA u_81 15)) (aNq A) (nI (j)))) 16 (upd ((mA u_81 16)) (aNq A) (n))) 17 (upd ((mA u_81 17)) (aNq A) (k))) 18 (upd ((mA u_81 18)) (aNq A) (w))))) rfl ?_
                  refine v_aload_n (pc := 147) C dX5_question_147 rfl ?_
                  refine v_dup (pc := 148) C dX5_question_148 rfl ?_
                  refine v_get (pc := 149) (v := .int (mI u_81 19)) C inX5 0 rfl rfl 19 (by decide) kw3_44 rfl dX5_question_149 ?_
                  refine v_cv (y := (nI (aNq A))) (hM_R.2.2.2.1) ?_
                  refine v_iconst (pc := 152) (v := 1) C dX5_question_152 (by decide) ?_
                  refine v_iaddN (pc := 153) C (aNq A) 1 rfl rfl dX5_question_153 ?_
                  refine v_put (pc := 154) C inX5 tyX5 tyX5_ok nmX5 0 rfl rfl 19 (by decide) kw3_44 rfl (rfl) rfl (Nat.le_of_ble_eq_true rfl) dX5_question_154 (ws' := (MW G o a (sA (sA (sA (sA (sI u_81 19 (nI ((aNq A) + 1))) 15 (upd ((mA u_81 15)) (aNq A) (nI (j)))) 16 (upd ((mA u_81 16)) (aNq A) (n))) 17 (upd ((mA u_81 17)) (aNq A) (k))) 18 (upd ((mA u_81 18)) (aNq A) (w))))) rfl ?_
                  refine v_aload_n (pc := 157) C dX5_question_157 rfl ?_
                  refine v_get (pc := 158) (v := .int (nI (((aNq A) + 1)))) C inX5 0 rfl rfl 19 (by decide) kw3_44 rfl dX5_question_158 ?_
                  refine v_iconst (pc := 161) (v := 1) C dX5_question_161 (by decide) ?_
                  refine v_isubN (pc := 162) C (((aNq A) + 1)) 1 rfl rfl (by omega) dX5_question_162 ?_
                  subst hQ
                  exact v_iret (pc := 163) C dX5_question_163 (rfl) ((sA (sA (sA (sA (sI u_81 19 (nI ((aNq A) + 1))) 15 (upd ((mA u_81 15)) (aNq A) (nI (j)))) 16 (upd ((mA u_81 16)) (aNq A) (n))) 17 (upd ((mA u_81 17)) (aNq A) (k))) 18 (upd ((mA u_81 18)) (aNq A) (w)))) rfl (by rw [h11R] at c_88; have z : ¬ (aRun A j 0 n).2.2.1 < aN A j := (by have q := sp_f c_88; rw [hxR.2.2.1] at q; exact q); unfold s_question; rw [if_neg (nbad hj (by omega)), if_neg q_12, if_neg q_21, tn_nI (n := j) (by omega), if_neg q_56, if_neg (fun z => z q_66), if_neg z, if_neg c_100]; exact ⟨congrArg nI (by omega), MRel_addQ hM_R (fun z => q_12 (Or.inl z)) (fun z => q_21 (Or.inl z)) (fun z => q_56 (Or.inl z))⟩)
                · refine v_bipush (pc := 103) (v := (-2)) C dX5_question_103 (by decide) ?_
                  subst hQ
                  exact v_iret (pc := 105) C dX5_question_105 (rfl) (u_81) rfl (by rw [h11R] at c_88; have z : ¬ (aRun A j 0 n).2.2.1 < aN A j := (by have q := sp_f c_88; rw [hxR.2.2.1] at q; exact q); unfold s_question; rw [if_neg (nbad hj (by omega)), if_neg q_12, if_neg q_21, tn_nI (n := j) (by omega), if_neg q_56, if_neg (fun z => z q_66), if_neg z, if_pos c_100]; exact ⟨rfl, hM_R⟩)
              · refine v_bipush (pc := 91) (v := (-3)) C dX5_question_91 (by decide) ?_
                subst hQ
                exact v_iret (pc := 93) C dX5_question_93 (rfl) (u_81) rfl (by rw [h11R] at c_88; have z : (aRun A j 0 n).2.2.1 < aN A j := (by have q := sp_t c_88; rw [hxR.2.2.1] at q; exact q); unfold s_question; rw [if_neg (nbad hj (by omega)), if_neg q_12, if_neg q_21, tn_nI (n := j) (by omega), if_neg q_56, if_neg (fun z => z q_66), if_pos z]; exact ⟨rfl, hM_R⟩)
        refine v_iload_n (pc := 30) C dX5_question_30 rfl ?_
        refine v_if_ne (pc := 31) (tgt := 38) C dX5_question_31 (by decide) (fun c_31 => ?_) (fun c_31 => ?_)
        · refine v_iload_n (pc := 38) C dX5_question_38 rfl ?_
          refine v_iconst (pc := 39) (v := 1) C dX5_question_39 (by decide) ?_
          refine v_icmp_ne (pc := 40) (tgt := 54) C dX5_question_40 (by decide) (fun c_40 => ?_) (fun c_40 => ?_)
          · refine v_bipush (pc := 54) (v := 7) C dX5_question_54 (by decide) ?_
            exact V.lessE (J56  ((7 : Int32)) (by unfold wlim; rw [if_neg c_31, if_neg c_40])) ⟨rfl, rfl, rfl, rfl, rfl, trivial⟩
          · refine v_aload_n (pc := 43) C dX5_question_43 rfl ?_
            refine v_get (pc := 44) (v := .ref (a 3)) C inX5 0 rfl rfl 3 (by decide) kw3_28 rfl dX5_question_44 ?_
            refine v_iload_n (pc := 47) C dX5_question_47 rfl ?_
            refine v_ialdN (pc := 48) (i := (j)) (f := (mA S 3)) C 4 rfl (by omega) (by decide) dX5_question_48 ?_
            refine v_cv (y := (nI (aN A j))) (hM.2.1 j (by omega)) ?_
            refine v_iconst (pc := 49) (v := 1) C dX5_question_49 (by decide) ?_
            refine v_isub (pc := 50) C dX5_question_50 ?_
            refine v_goto (pc := 51) (tgt := 56) C dX5_question_51 (by decide) ?_
            exact V.lessE (J56  (((nI (aN A j)) - (1 : Int32))) (by unfold wlim; rw [if_neg c_31, if_pos c_40])) ⟨rfl, rfl, rfl, rfl, rfl, trivial⟩
        · refine v_iconst (pc := 34) (v := 3) C dX5_question_34 (by decide) ?_
          refine v_goto (pc := 35) (tgt := 56) C dX5_question_35 (by decide) ?_
          exact V.lessE (J56  ((3 : Int32)) (by unfold wlim; rw [if_pos c_31])) ⟨rfl, rfl, rfl, rfl, rfl, trivial⟩
def rmX5_why : Room := { frames := 4, cells := 0, slots := 0, locals := 101 }
set_option maxHeartbeats 4000000 in
set_option maxRecDepth 100000 in
theorem kX5_why (G : TG) (o : Nat) (a : Nat → Nat) (S : MS) (A : AS) (hI : AInv A) (hM : MRel A S) (q v : Int32) : CT G yX5_why cX5_why 5 (some .int) rmX5_why 0 0 [.ref (o), .int (q), .int (v)] (MW G o a S) (fun S : MS => MW G o a S) (Ri (fun r S' => r = s_why A q v ∧ MRel A S')) := by
  refine CT.enter (by decide) (Nat.le_of_ble_eq_true rfl) (fun X C hnm => ?_)
  refine V.less [(0, .ref (o)), (1, .int (q)), (2, .int (v))] ⟨rfl, rfl, rfl, trivial⟩ ?_
  generalize hQ : (QX G X (fun S : MS => MW G o a S) (Ri (fun r S' => r = s_why A q v ∧ MRel A S')) 0 0) = Qq
  have hnp := hI.1
  have hnq := hI.2.2.2.2.1
  refine v_aload_n (pc := 0) C dX5_why_0 rfl ?_
  refine v_iload_n (pc := 1) C dX5_why_1 rfl ?_
  refine v_callV0 (pc := 2) (st := []) (q0 := 0) C (kX5_isQuestion G o a S q) ykX5_isQuestion cvX5_isQuestion kw3_212 dX5_why_2 rfl rfl rfl rfl rfl (by decide) (Nat.le_of_ble_eq_true rfl) (by decide) rfl (Ri_kk (fun r_2 u_2 h_2 => ?_))
  obtain ⟨e_2, h_2⟩ := h_2
  rw [e_2]
  rcases (is01 (by omega) hM.2.2.2.1 h_2) with ⟨b_q, rfl⟩ | ⟨j, hj, rfl, rfl⟩
  · refine v_if_eqT (pc := 5) (tgt := 17) C (by decide) dX5_why_5 (by decide) ?_
    refine v_iconst (pc := 17) (v := (-1)) C dX5_why_17 (by decide) ?_
    subst hQ
    exact v_iret (pc := 18) C dX5_why_18 (rfl) (S) rfl (⟨by unfold s_why; rw [if_pos b_q], hM⟩)
  · refine v_if_eqF (pc := 5) (tgt := 17) C (by decide) dX5_why_5 (by decide) ?_
    obtain ⟨hqp, hq0, hqi, hqk, hw0, hw1, hw2⟩ := hI.2.2.2.2.2.1 j hj
    have hn := hI.2.1 (aQp A j)
    refine v_aload_n (pc := 8) C dX5_why_8 rfl ?_
    refine v_get (pc := 9) (v := .ref (a 17)) C inX5 0 rfl rfl 17 (by decide) kw3_42 rfl dX5_why_9 ?_
    refine v_iload_n (pc := 12) C dX5_why_12 rfl ?_
    refine v_ialdN (pc := 13) (i := (j)) (f := (mA S 17)) C 14 rfl (by omega) (by decide) dX5_why_13 ?_
    refine v_cv (y := (nI (aQk A j))) ((hM.2.2.2.2.1 j hj).2.2.1) ?_
    refine v_if_eqN (pc := 14) (tgt := 19) C (aQk A j) rfl (by omega) dX5_why_14 (by decide) (fun c_14 => ?_) (fun c_14 => ?_)
    · have hw4 := hw0 c_14
      refine v_iconst (pc := 19) (v := 0) C dX5_why_19 (by decide) ?_
      refine v_istore_n (pc := 20) C dX5_why_20 (by decide) ?_
      refine v_iconst (pc := 21) (v := 0) C dX5_why_21 (by decide) ?_
      refine v_istore (pc := 22) C dX5_why_22 (by decide) ?_
      have L24 : ∀ (fu : Nat) (n : Nat) (b : Int32) (S1 : MS), (10 < n + fu) → (n ≤ 10) → (b = whyI A j v n) → (MRel A S1) → V G X cX5_why 5 rmX5_why Qq 0 0 24 (lvo [(0, .ref (o)), (1, .int (nI (j))), (2, .int (v)), (3, .int (b)), (4, .int (nI (n)))]) [] (MW G o a S1) := by
        intro fu
        induction fu with
        | zero => intro n b S1 hf hn10 hb hM1; exfalso; omega
        | succ fu ih =>
          intro n b S1 hf hn10 hb hM1
          refine v_iload (pc := 24) C dX5_why_24 rfl ?_
          refine v_bipush (pc := 26) (v := 10) C dX5_why_26 (by decide) ?_
          refine v_icmp_geN (pc := 28) (tgt := 85) C (n) 10 rfl rfl (by omega) (by omega) dX5_why_28 (by decide) (fun c_28 => ?_) (fun c_28 => ?_)
          · refine v_iload_n (pc := 85) C dX5_why_85 rfl ?_
            subst hQ
            exact v_iret (pc := 86) C dX5_why_86 (rfl) (S1) rfl (⟨by unfold s_why; rw [if_neg (nbad hj (by omega)), tn_nI (n := j) (by omega), if_pos c_14, hb, show n = 10 by omega], hM1⟩)
          · refine v_aload_n (pc := 31) C dX5_why_31 rfl ?_
            refine v_aload_n (pc := 32) C dX5_why_32 rfl ?_
            refine v_get (pc := 33) (v := .ref (a 15)) C inX5 0 rfl rfl 15 (by decide) kw3_40 rfl dX5_why_33 ?_
            refine v_iload_n (pc := 36) C dX5_why_36 rfl ?_
            refine v_ialdN (pc := 37) (i := (j)) (f := (mA S1 15)) C 12 rfl (by omega) (by decide) dX5_why_37 ?_
            refine v_cv (y := (nI (aQp A j))) ((hM1.2.2.2.2.1 j hj).1) ?_
            refine v_iload (pc := 38) C dX5_why_38 rfl ?_
            refine v_iconst (pc := 40) (v := 0) C dX5_why_40 (by decide) ?_
            refine v_iconst (pc := 41) (v := (-1)) C dX5_why_41 (by decide) ?_
            refine v_iconst (pc := 42) (v := 0) C dX5_why_42 (by decide) ?_
            refine v_callV0 (pc := 43) (st := []) (q0 := 0) C (kX5_runA G o a S1 A hI hM1 (aQp A j) (hqp) (nI n) (0) (-1) 0 (aY A (aQp A j)) (noLn (hI.2.1 (aQp A j))) (okp_of hI (hqp) hq0)) ykX5_runLines cvX5_runLines kw3_165 dX5_why_43 rfl rfl rfl rfl rfl (by decide) (Nat.le_of_ble_eq_true rfl) (by decide) rfl (Rv_kk (fun u_43 h_43 => ?_))
            obtain ⟨R, e_43, hxR, hrR⟩ := h_43
            have hM_R : MRel A u_43 := by rw [e_43]; exact hM1
            have h5R : mA u_43 5 = R.2.2.2.1 := by rw [e_43]; rfl
            have h7R : okr (mA u_43 7) := by rw [e_43]; exact hrR
            have h11R : mI u_43 11 = (if R.2.2.1 < (aN A (aQp A j)) then 1 else 0) := by rw [e_43]; rfl
            have hER : ∀ k, endM u_43 k = endR (aN A (aQp A j)) R k := fun k => by rw [e_43]; exact endM_put _ _ _ _
            refine v_iload_n (pc := 46) C dX5_why_46 rfl ?_
            refine v_aload_n (pc := 47) C dX5_why_47 rfl ?_
            have J77 : ∀ (dl : Int32), (dl = if ¬ (aRun A (aQp A j) 0 (nI n)).2.2.1 < aN A (aQp A j) ∧ (aRun A (aQp A j) 0 (nI n)).2.2.2.1 (aQw A j) = v then (1 : Int32) <<< (nI n &&& 31) else 0) → V G X cX5_why 5 rmX5_why Qq 0 0 77 (lvo [(0, .ref (o)), (1, .int (nI (j))), (2, .int (v)), (3, .int (b)), (4, .int (nI (n)))]) [.int (dl), .int (b)] (MW G o a u_43) := by
              intro dl hdl
              refine v_ior (pc := 77) C dX5_why_77 ?_
              refine v_istore_n (pc := 78) C dX5_why_78 (by decide) ?_
              refine v_iinc1 (pc := 79) C (n) rfl dX5_why_79 rfl ?_
              refine v_goto (pc := 82) (tgt := 24) C dX5_why_82 (by decide) ?_
              exact V.lessE (ih  (((n) + 1)) (((b) ||| (dl))) (u_43) (by omega) (by omega) (by rw [hdl, hb]; rfl) (hM_R)) ⟨rfl, rfl, rfl, rfl, rfl, trivial⟩
            refine v_get (pc := 48) (v := .int (mI u_43 11)) C inX5 0 rfl rfl 11 (by decide) kw3_36 rfl dX5_why_48 ?_
            refine v_if_ne (pc := 51) (tgt := 76) C dX5_why_51 (by decide) (fun c_51 => ?_) (fun c_51 => ?_)
            · refine v_iconst (pc := 76) (v := 0) C dX5_why_76 (by decide) ?_
              exact V.lessE (J77  ((0 : Int32)) (by have hc := congrFun hxR.2.2.2.1 (aQw A j); rw [h11R] at c_51; have z := sp_t c_51; rw [hxR.2.2.1] at z; rw [if_neg (fun q => q.1 z)])) ⟨rfl, rfl, rfl, rfl, rfl, trivial⟩
            · refine v_aload_n (pc := 54) C dX5_why_54 rfl ?_
              refine v_get (pc := 55) (v := .ref (a 5)) C inX5 0 rfl rfl 5 (by decide) kw3_30 rfl dX5_why_55 ?_
              refine v_aload_n (pc := 58) C dX5_why_58 rfl ?_
              refine v_get (pc := 59) (v := .ref (a 18)) C inX5 0 rfl rfl 18 (by decide) kw3_43 rfl dX5_why_59 ?_
              refine v_iload_n (pc := 62) C dX5_why_62 rfl ?_
              refine v_ialdN (pc := 63) (i := (j)) (f := (mA u_43 18)) C 15 rfl (by omega) (by decide) dX5_why_63 ?_
              refine v_cv (y := (nI (aQw A j))) ((hM_R.2.2.2.2.1 j hj).2.2.2) ?_
              refine v_ialdN (pc := 64) (i := (aQw A j)) (f := (mA u_43 5)) C 5 rfl (by omega) (by decide) dX5_why_64 ?_
              refine v_iload_n (pc := 65) C dX5_why_65 rfl ?_
              refine v_icmp_ne (pc := 66) (tgt := 76) C dX5_why_66 (by decide) (fun c_66 => ?_) (fun c_66 => ?_)
              · refine v_iconst (pc := 76) (v := 0) C dX5_why_76 (by decide) ?_
                exact V.lessE (J77  ((0 : Int32)) (by have hc := congrFun hxR.2.2.2.1 (aQw A j); rw [h11R] at c_51; rw [h5R] at c_66; rw [if_neg (fun z => c_66 (hc.trans z.2))])) ⟨rfl, rfl, rfl, rfl, rfl, trivial⟩
              · refine v_iconst (pc := 69) (v := 1) C dX5_why_69 (by decide) ?_
                refine v_iload (pc := 70) C dX5_why_70 rfl ?_
                refine v_ishl (pc := 72) C dX5_why_72 ?_
                refine v_goto (pc := 73) (tgt := 77) C dX5_why_73 (by decide) ?_
                exact V.lessE (J77  (((1 : Int32) <<< ((nI (n)) &&& 31))) (by have hc := congrFun hxR.2.2.2.1 (aQw A j); rw [h11R] at c_51; have z := sp_f c_51; rw [hxR.2.2.1] at z; rw [h5R] at c_66; rw [if_pos ⟨z, hc.symm.trans c_66⟩])) ⟨rfl, rfl, rfl, rfl, rfl, trivial⟩
      exact V.lessE (L24 (11) (0) ((0 : Int32)) (S) (by omega) (by omega) (rfl) (hM)) ⟨rfl, rfl, rfl, rfl, rfl, trivial⟩
    · refine v_iconst (pc := 17) (v := (-1)) C dX5_why_17 (by decide) ?_
      subst hQ
      exact v_iret (pc := 18) C dX5_why_18 (rfl) (S) rfl (⟨by unfold s_why; rw [if_neg (nbad hj (by omega)), tn_nI (n := j) (by omega), if_neg c_14], hM⟩)
def rmX5_give : Room := { frames := 1, cells := 0, slots := 0, locals := 21 }
set_option maxHeartbeats 4000000 in
set_option maxRecDepth 100000 in
theorem kX5_give (G : TG) (o : Nat) (a : Nat → Nat) (S : MS) (A : AS) (hI : AInv A) (hM : MRel A S) (u q v : Int32) : CT G yX5_give cX5_give 6 (some .int) rmX5_give 0 0 [.ref (o), .int (u), .int (q), .int (v)] (MW G o a S) (fun S : MS => MW G o a S) (Ri (fun r S' => r = (s_give A u q v).1 ∧ MRel (s_give A u q v).2 S')) := by
  refine CT.enter (by decide) (Nat.le_of_ble_eq_true rfl) (fun X C hnm => ?_)
  refine V.less [(0, .ref (o)), (1, .int (u)), (2, .int (q)), (3, .int (v))] ⟨rfl, rfl, rfl, rfl, trivial⟩ ?_
  generalize hQ : (QX G X (fun S : MS => MW G o a S) (Ri (fun r S' => r = (s_give A u q v).1 ∧ MRel (s_give A u q v).2 S')) 0 0) = Qq
  have hnp := hI.1
  have hnq := hI.2.2.2.2.1
  refine v_iload_n (pc := 0) C dX5_give_0 rfl ?_
  refine v_callS0 (pc := 1) (st := []) C (kX5_isPupil G _ u) ykX5_isPupil kw4_9 kw4_8 dX5_give_1 rfl rfl rfl (by decide) (Nat.le_of_ble_eq_true rfl) (by decide) rfl (Ri_kk (fun r_1 u_1 h_1 => ?_))
  rcases (is01 (x := 10) (n := 10) (by omega) rfl h_1) with ⟨b_u, rfl⟩ | ⟨e, he, rfl, rfl⟩
  · refine v_if_eqT (pc := 4) (tgt := 15) C (by decide) dX5_give_4 (by decide) ?_
    refine v_iconst (pc := 15) (v := (-1)) C dX5_give_15 (by decide) ?_
    subst hQ
    exact v_iret (pc := 16) C dX5_give_16 (rfl) (S) rfl (by unfold s_give; rw [if_pos b_u]; exact ⟨rfl, hM⟩)
  · refine v_if_eqF (pc := 4) (tgt := 15) C (by decide) dX5_give_4 (by decide) ?_
    refine v_aload_n (pc := 7) C dX5_give_7 rfl ?_
    refine v_iload_n (pc := 8) C dX5_give_8 rfl ?_
    refine v_callV0 (pc := 9) (st := []) (q0 := 0) C (kX5_isQuestion G o a S q) ykX5_isQuestion cvX5_isQuestion kw3_212 dX5_give_9 rfl rfl rfl rfl rfl (by decide) (Nat.le_of_ble_eq_true rfl) (by decide) rfl (Ri_kk (fun r_9 u_9 h_9 => ?_))
    obtain ⟨e_9, h_9⟩ := h_9
    rw [e_9]
    rcases (is01 (by omega) hM.2.2.2.1 h_9) with ⟨b_q, rfl⟩ | ⟨j, hj, rfl, rfl⟩
    · refine v_if_neF (pc := 12) (tgt := 17) C (by decide) dX5_give_12 (by decide) ?_
      refine v_iconst (pc := 15) (v := (-1)) C dX5_give_15 (by decide) ?_
      subst hQ
      exact v_iret (pc := 16) C dX5_give_16 (rfl) (S) rfl (by unfold s_give; rw [if_neg (nbad (n := 10) he (by omega)), if_pos b_q]; exact ⟨rfl, hM⟩)
    · refine v_if_neT (pc := 12) (tgt := 17) C (by decide) dX5_give_12 (by decide) ?_
      have hMg := MRel_putG (v := v) (u := e) (q := j) hM (by omega)
      refine v_aload_n (pc := 17) C dX5_give_17 rfl ?_
      refine v_get (pc := 18) (v := .ref (a 26)) C inX5 0 rfl rfl 26 (by decide) kw3_51 rfl dX5_give_18 ?_
      refine v_bipush (pc := 21) (v := 60) C dX5_give_21 (by decide) ?_
      refine v_iload_n (pc := 23) C dX5_give_23 rfl ?_
      refine v_imulN (pc := 24) C 60 (e) rfl rfl dX5_give_24 ?_
      refine v_iload_n (pc := 25) C dX5_give_25 rfl ?_
      refine v_iaddN (pc := 26) C (60 * (e)) (j) rfl rfl dX5_give_26 ?_
      refine v_iconst (pc := 27) (v := 1) C dX5_give_27 (by decide) ?_
      refine v_zastN (pc := 28) (i := ((60 * (e)) + (j))) (f := (mA S 26)) C 20 rfl (by omega) (by decide) dX5_give_28 (ws' := (MW G o a (sA S 26 (upd ((mA S 26)) ((60 * (e)) + (j)) (1 : Int32))))) rfl ?_
      refine v_aload_n (pc := 29) C dX5_give_29 rfl ?_
      refine v_get (pc := 30) (v := .ref (a 27)) C inX5 0 rfl rfl 27 (by decide) kw3_52 rfl dX5_give_30 ?_
      refine v_bipush (pc := 33) (v := 60) C dX5_give_33 (by decide) ?_
      refine v_iload_n (pc := 35) C dX5_give_35 rfl ?_
      refine v_imulN (pc := 36) C 60 (e) rfl rfl dX5_give_36 ?_
      refine v_iload_n (pc := 37) C dX5_give_37 rfl ?_
      refine v_iaddN (pc := 38) C (60 * (e)) (j) rfl rfl dX5_give_38 ?_
      refine v_iload_n (pc := 39) C dX5_give_39 rfl ?_
      refine v_iastN (pc := 40) (i := ((60 * (e)) + (j))) (f := (mA S 27)) C 21 rfl (by omega) (by decide) dX5_give_40 (ws' := (MW G o a (sA (sA S 26 (upd ((mA S 26)) ((60 * (e)) + (j)) (1 : Int32))) 27 (upd ((mA S 27)) ((60 * (e)) + (j)) (v))))) rfl ?_
      refine v_iconst (pc := 41) (v := 0) C dX5_give_41 (by decide) ?_
      refine v_istore (pc := 42) C dX5_give_42 (by decide) ?_
      refine v_iconst (pc := 44) (v := 0) C dX5_give_44 (by decide) ?_
      refine v_istore (pc := 45) C dX5_give_45 (by decide) ?_
      have L47 : ∀ (fu : Nat) (k : Nat), (aNq A < k + fu) → (k ≤ aNq A) → V G X cX5_give 6 rmX5_give Qq 0 0 47 (lvo [(0, .ref (o)), (1, .int (nI (e))), (2, .int (nI (j))), (3, .int (v)), (4, .int (nI (gvn (aG (putG A e j v) e) k))), (5, .int (nI (k)))]) [] (MW G o a (sA (sA S 26 (upd ((mA S 26)) ((60 * (e)) + (j)) (1 : Int32))) 27 (upd ((mA S 27)) ((60 * (e)) + (j)) (v)))) := by
        intro fu
        induction fu with
        | zero => intro k hf hk; exfalso; omega
        | succ fu ih =>
          intro k hf hk
          refine v_iload (pc := 47) C dX5_give_47 rfl ?_
          refine v_aload_n (pc := 49) C dX5_give_49 rfl ?_
          refine v_get (pc := 50) (v := .int (mI S 19)) C inX5 0 rfl rfl 19 (by decide) kw3_44 rfl dX5_give_50 ?_
          refine v_cv (y := (nI (aNq A))) (hM.2.2.2.1) ?_
          refine v_icmp_geN (pc := 53) (tgt := 87) C (k) (aNq A) rfl rfl (by omega) (by omega) dX5_give_53 (by decide) (fun c_53 => ?_) (fun c_53 => ?_)
          · refine v_iload (pc := 87) C dX5_give_87 rfl ?_
            subst hQ
            exact v_iret (pc := 89) C dX5_give_89 (rfl) ((sA (sA S 26 (upd ((mA S 26)) ((60 * (e)) + (j)) (1 : Int32))) 27 (upd ((mA S 27)) ((60 * (e)) + (j)) (v)))) rfl (by unfold s_give; rw [if_neg (nbad (n := 10) he (by omega)), if_neg (nbad hj (by omega)), tn_nI (n := e) (by omega), tn_nI (n := j) (by omega)]; exact ⟨by rw [show k = aNq A by omega], hMg⟩)
          · have hmg := hMg.2.2.2.2.2.2.2.2.1 e k (by omega) (by omega)
            refine v_iload (pc := 56) C dX5_give_56 rfl ?_
            have J78 : V G X cX5_give 6 rmX5_give Qq 0 0 78 (lvo [(0, .ref (o)), (1, .int (nI (e))), (2, .int (nI (j))), (3, .int (v)), (4, .int (nI (gvn (aG (putG A e j v) e) k))), (5, .int (nI (k)))]) [.int (nI (if (aG (putG A e j v) e k).isSome then 1 else 0)), .int (nI (gvn (aG (putG A e j v) e) k))] (MW G o a (sA (sA S 26 (upd ((mA S 26)) ((60 * (e)) + (j)) (1 : Int32))) 27 (upd ((mA S 27)) ((60 * (e)) + (j)) (v)))) := by
              skip
              refine v_iaddN (pc := 78) C (gvn (aG (putG A e j v) e) k) (if (aG (putG A e j v) e k).isSome then 1 else 0) rfl rfl dX5_give_78 ?_
              refine v_istore (pc := 79) C dX5_give_79 (by decide) ?_
              refine v_iinc1 (pc := 81) C (k) rfl dX5_give_81 rfl ?_
              refine v_goto (pc := 84) (tgt := 47) C dX5_give_84 (by decide) ?_
              exact V.lessE (ih  (((k) + 1)) (by omega) (by omega)) ⟨rfl, rfl, rfl, rfl, rfl, rfl, trivial⟩
            refine v_aload_n (pc := 58) C dX5_give_58 rfl ?_
            refine v_get (pc := 59) (v := .ref (a 26)) C inX5 0 rfl rfl 26 (by decide) kw3_51 rfl dX5_give_59 ?_
            refine v_bipush (pc := 62) (v := 60) C dX5_give_62 (by decide) ?_
            refine v_iload_n (pc := 64) C dX5_give_64 rfl ?_
            refine v_imulN (pc := 65) C 60 (e) rfl rfl dX5_give_65 ?_
            refine v_iload (pc := 66) C dX5_give_66 rfl ?_
            refine v_iaddN (pc := 68) C (60 * (e)) (k) rfl rfl dX5_give_68 ?_
            refine v_zaldN (pc := 69) (i := ((60 * (e)) + (k))) (f := (upd ((mA S 26)) ((60 * (e)) + (j)) (1 : Int32))) C 20 rfl (by omega) (by decide) dX5_give_69 ?_
            refine v_if_eq (pc := 70) (tgt := 77) C dX5_give_70 (by decide) (fun c_70 => ?_) (fun c_70 => ?_)
            · refine v_iconst (pc := 77) (v := 0) C dX5_give_77 (by decide) ?_
              refine v_cv (y := (nI (if (aG (putG A e j v) e k).isSome then 1 else 0))) (by rw [if_neg (by rcases hmg with ⟨z1, z2⟩ | ⟨z, z1, z2, z3⟩; rw [z1]; decide; exact absurd (c_70.symm.trans z2) (by decide))]; rfl) ?_
              exact V.lessE (J78   ) ⟨rfl, rfl, rfl, rfl, rfl, rfl, trivial⟩
            · refine v_iconst (pc := 73) (v := 1) C dX5_give_73 (by decide) ?_
              refine v_cv (y := (nI (if (aG (putG A e j v) e k).isSome then 1 else 0))) (by rw [if_pos (by rcases hmg with ⟨z1, z2⟩ | ⟨z, z1, z2⟩; exact absurd z2 c_70; rw [z1]; rfl)]; rfl) ?_
              refine v_goto (pc := 74) (tgt := 78) C dX5_give_74 (by decide) ?_
              exact V.lessE (J78   ) ⟨rfl, rfl, rfl, rfl, rfl, rfl, trivial⟩
      exact V.lessE (L47 (aNq A + 1) (0) (by omega) (by omega)) ⟨rfl, rfl, rfl, rfl, rfl, rfl, trivial⟩
