/-! the reference: what its small calls answer -/
theorem ixN {x : Int32} {n : Nat} (h1 : ¬ x < 0) (h2 : ¬ nI n ≤ x) (hn : n < 2 ^ 31) : ∃ k, k < n ∧ x = nI k := by
  rcases pk_ix x hn with a | a | ⟨j, a, b⟩
  · exact absurd a h1
  · exact absurd a h2
  · exact ⟨j, a, b⟩
theorem oa_rel {A : AS} {S : MS} {p l : Nat} (hI : AInv A) (hM : MRel A S) (hp : p < aNp A) (hl : l ≤ aN A p) : oaI (fun k => mA S 0 (20 * p + k)) l = nI (dp (aO A p) l) := by
  have hp10 := hI.1
  have hn20 := hI.2.1 p
  have hF : ∀ k, k < aN A p → (fun k => mA S 0 (20 * p + k)) k = aO A p k := fun k hk => (hM.2.2.1 p k (by omega) (by omega)).1
  have hd := dp_cong hF
  have hw : wfd (fun k => mA S 0 (20 * p + k)) (aN A p) := by
    intro k hk h6
    rw [hd k (by omega)]
    exact (hI.2.2.2.1 p hp).1 k hk (by rw [← hF k hk]; exact h6)
  rw [oaI_dp hw l hl, hd l hl]
def NV : Int32 := -2000000000
def s_program (A : AS) : Int32 × AS := if aNp A = 10 then (-2, A) else (nI (aNp A), ((aNp A + 1, A.1.2), A.2))
def s_about (A : AS) (p l w : Int32) : Int32 := if p < 0 ∨ nI (aNp A) ≤ p then NV else if l < 0 then NV else if nI (aN A (tn p)) ≤ l then NV else if w < 0 ∨ 3 < w then NV else if w = 0 then aO A (tn p) (tn l) else if w = 1 then aX A (tn p) (tn l) else if w = 2 then aY A (tn p) (tn l) else nI (dp (aO A (tn p)) (tn l))
def s_whole (A : AS) (p : Int32) : Int32 := if p < 0 ∨ nI (aNp A) ≤ p then -1 else if dp (aO A (tn p)) (aN A (tn p)) = 0 then 1 else 0
def s_told (A : AS) (w : Int32) : Int32 := match aT A with
  | none => NV
  | some (_, t, _) => if w < 0 ∨ 13 < w then NV else t (tn w)
def s_done (A : AS) (l : Int32) : Int32 := match aT A with
  | none => -1
  | some (n, _, d) => if l < 0 then -1 else if nI n ≤ l then -1 else d (tn l)
def s_choice (A : AS) (i w : Int32) : Int32 := if i < 0 then NV else if nI (aC A).length ≤ i then NV else if w < 0 ∨ 1 < w then NV else if w = 0 then ((aC A).getD (tn i) (0, 0)).1 else ((aC A).getD (tn i) (0, 0)).2
def s_filling (A : AS) (i : Int32) : Int32 := if i < 0 then NV else if nI (aF A).length ≤ i then NV else (aF A).getD (tn i) 0
def s_price (A : AS) (k v : Int32) : Int32 × AS := if k < 0 ∨ 6 < k then (-1, A) else if v < 1 ∨ 99 < v then (-1, A) else (nI (aP A (tn k)), (A.1, A.2.1, A.2.2.1, A.2.2.2.1, A.2.2.2.2.1, A.2.2.2.2.2.1, fun j => if j = tn k then tn v else aP A j))
def linesA (A : AS) : Nat → Nat
  | 0 => 0
  | p + 1 => linesA A p + aN A p
def s_count (A : AS) (w : Int32) : Int32 := if w = 0 then nI (aNp A) else if w = 1 then nI (aNq A) else if w = 2 then nI (linesA A (aNp A)) else -1
theorem linesA_le {A : AS} (hI : AInv A) : ∀ p, linesA A p ≤ 20 * p
  | 0 => Nat.le_refl 0
  | p + 1 => by
    have := linesA_le hI p
    have := hI.2.1 p
    show linesA A p + aN A p ≤ _
    omega
theorem if01 {c : Prop} [Decidable c] {r : Int32} (h : r = if c then 1 else 0) : (¬ c ∧ r = 0) ∨ (c ∧ r = 1) := by
  by_cases q : c
  · exact Or.inr ⟨q, by rw [h, if_pos q]⟩
  · exact Or.inl ⟨q, by rw [h, if_neg q]⟩
def rmX5_end : Room := { frames := 0, cells := 0, slots := 0, locals := 0 }
set_option maxHeartbeats 4000000 in
set_option maxRecDepth 100000 in
theorem kX5_end (G : TG) (o : Nat) (a : Nat → Nat) (S : MS) (k : Nat) (hk : k < 14) (hr : okr (mA S 7)) : CT G yX5_end cX5_end 2 (some .int) rmX5_end 0 0 [.ref (o), .int (nI (k))] (MW G o a S) (fun S : MS => MW G o a S) (Ri (fun r S' => S' = S ∧ r = endM S k)) := by
  refine CT.enter (by decide) (Nat.le_of_ble_eq_true rfl) (fun X C hnm => ?_)
  refine V.less [(0, .ref (o)), (1, .int (nI (k)))] ⟨rfl, rfl, trivial⟩ ?_
  refine v_iload_n (pc := 0) C dX5_end_0 rfl ?_
  refine v_iconst (pc := 1) (v := 4) C dX5_end_1 (by decide) ?_
  refine v_icmp_geN (pc := 2) (tgt := 14) C (k) 4 rfl rfl (by omega) (by omega) dX5_end_2 (by decide) (fun c_2 => ?_) (fun c_2 => ?_)
  · refine v_iload_n (pc := 14) C dX5_end_14 rfl ?_
    refine v_bipush (pc := 15) (v := 12) C dX5_end_15 (by decide) ?_
    refine v_icmp_geN (pc := 17) (tgt := 44) C (k) 12 rfl rfl (by omega) (by omega) dX5_end_17 (by decide) (fun c_17 => ?_) (fun c_17 => ?_)
    · refine v_iload_n (pc := 44) C dX5_end_44 rfl ?_
      refine v_bipush (pc := 45) (v := 12) C dX5_end_45 (by decide) ?_
      refine v_icmp_neN (pc := 47) (tgt := 65) C (k) 12 rfl rfl (by omega) (by omega) dX5_end_47 (by decide) (fun c_47 => ?_) (fun c_47 => ?_)
      · refine v_aload_n (pc := 65) C dX5_end_65 rfl ?_
        refine v_get (pc := 66) (v := .ref (a 7)) C inX5 0 rfl rfl 7 (by decide) kw3_32 rfl dX5_end_66 ?_
        refine v_iconst (pc := 69) (v := 0) C dX5_end_69 (by decide) ?_
        refine v_ialdN (pc := 70) (i := 0) (f := (mA S 7)) C 7 rfl (by omega) (by decide) dX5_end_70 ?_
        refine v_aload_n (pc := 71) C dX5_end_71 rfl ?_
        refine v_get (pc := 72) (v := .ref (a 7)) C inX5 0 rfl rfl 7 (by decide) kw3_32 rfl dX5_end_72 ?_
        refine v_iconst (pc := 75) (v := 1) C dX5_end_75 (by decide) ?_
        refine v_ialdN (pc := 76) (i := 1) (f := (mA S 7)) C 7 rfl (by omega) (by decide) dX5_end_76 ?_
        refine v_icmp_ne (pc := 77) (tgt := 84) C dX5_end_77 (by decide) (fun c_77 => ?_) (fun c_77 => ?_)
        · refine v_iconst (pc := 84) (v := 0) C dX5_end_84 (by decide) ?_
          exact v_iret (pc := 85) C dX5_end_85 (rfl) (S) rfl (⟨rfl, by unfold endM; rw [if_neg (by omega), if_neg (by omega), if_neg c_47]; simp [c_77]⟩)
        · refine v_iconst (pc := 80) (v := 1) C dX5_end_80 (by decide) ?_
          refine v_goto (pc := 81) (tgt := 85) C dX5_end_81 (by decide) ?_
          exact v_iret (pc := 85) C dX5_end_85 (rfl) (S) rfl (⟨rfl, by unfold endM; rw [if_neg (by omega), if_neg (by omega), if_neg c_47]; simp [c_77]⟩)
      · refine v_aload_n (pc := 50) C dX5_end_50 rfl ?_
        refine v_get (pc := 51) (v := .int (mI S 11)) C inX5 0 rfl rfl 11 (by decide) kw3_36 rfl dX5_end_51 ?_
        refine v_if_eq (pc := 54) (tgt := 61) C dX5_end_54 (by decide) (fun c_54 => ?_) (fun c_54 => ?_)
        · refine v_iconst (pc := 61) (v := 0) C dX5_end_61 (by decide) ?_
          refine v_goto (pc := 62) (tgt := 85) C dX5_end_62 (by decide) ?_
          exact v_iret (pc := 85) C dX5_end_85 (rfl) (S) rfl (⟨rfl, by unfold endM; rw [if_neg (by omega), if_neg (by omega), if_pos c_47]; simp [c_54]⟩)
        · refine v_iconst (pc := 57) (v := 1) C dX5_end_57 (by decide) ?_
          refine v_goto (pc := 58) (tgt := 85) C dX5_end_58 (by decide) ?_
          exact v_iret (pc := 85) C dX5_end_85 (rfl) (S) rfl (⟨rfl, by unfold endM; rw [if_neg (by omega), if_neg (by omega), if_pos c_47]; simp [c_54]⟩)
    · obtain ⟨ρ, hρ, eρ, tρ⟩ := okr_at hr (show k / 4 - 1 < 2 by omega)
      refine v_aload_n (pc := 20) C dX5_end_20 rfl ?_
      refine v_get (pc := 21) (v := .ref (a 6)) C inX5 0 rfl rfl 6 (by decide) kw3_31 rfl dX5_end_21 ?_
      refine v_iconst (pc := 24) (v := 4) C dX5_end_24 (by decide) ?_
      refine v_aload_n (pc := 25) C dX5_end_25 rfl ?_
      refine v_get (pc := 26) (v := .ref (a 7)) C inX5 0 rfl rfl 7 (by decide) kw3_32 rfl dX5_end_26 ?_
      refine v_iload_n (pc := 29) C dX5_end_29 rfl ?_
      refine v_iconst (pc := 30) (v := 4) C dX5_end_30 (by decide) ?_
      refine v_idivN (pc := 31) C (k) 4 rfl rfl (by omega) (by omega) (by omega) dX5_end_31 ?_
      refine v_iconst (pc := 32) (v := 1) C dX5_end_32 (by decide) ?_
      refine v_isubN (pc := 33) C ((k) / 4) 1 rfl rfl (by omega) dX5_end_33 ?_
      refine v_ialdN (pc := 34) (i := (((k) / 4) - 1)) (f := (mA S 7)) C 7 rfl (by omega) (by decide) dX5_end_34 ?_
      refine v_cv (y := (nI (ρ))) (eρ) ?_
      refine v_imulN (pc := 35) C 4 (ρ) rfl rfl dX5_end_35 ?_
      refine v_iload_n (pc := 36) C dX5_end_36 rfl ?_
      refine v_iconst (pc := 37) (v := 4) C dX5_end_37 (by decide) ?_
      refine v_iremN (pc := 38) C (k) 4 rfl rfl (by omega) (by omega) (by omega) dX5_end_38 ?_
      refine v_iaddN (pc := 39) C (4 * (ρ)) ((k) % 4) rfl rfl dX5_end_39 ?_
      refine v_ialdN (pc := 40) (i := ((4 * (ρ)) + ((k) % 4))) (f := (mA S 6)) C 6 rfl (by omega) (by decide) dX5_end_40 ?_
      refine v_goto (pc := 41) (tgt := 85) C dX5_end_41 (by decide) ?_
      exact v_iret (pc := 85) C dX5_end_85 (rfl) (S) rfl (⟨rfl, by unfold endM; rw [if_neg (by omega), if_pos c_17, tρ]⟩)
  · refine v_aload_n (pc := 5) C dX5_end_5 rfl ?_
    refine v_get (pc := 6) (v := .ref (a 5)) C inX5 0 rfl rfl 5 (by decide) kw3_30 rfl dX5_end_6 ?_
    refine v_iload_n (pc := 9) C dX5_end_9 rfl ?_
    refine v_ialdN (pc := 10) (i := (k)) (f := (mA S 5)) C 5 rfl (by omega) (by decide) dX5_end_10 ?_
    refine v_goto (pc := 11) (tgt := 85) C dX5_end_11 (by decide) ?_
    exact v_iret (pc := 85) C dX5_end_85 (rfl) (S) rfl (⟨rfl, by unfold endM; rw [if_pos c_2]⟩)
def rmX5_isWhole : Room := { frames := 1, cells := 0, slots := 0, locals := 25 }
set_option maxHeartbeats 4000000 in
set_option maxRecDepth 100000 in
theorem kX5_isWhole (G : TG) (o : Nat) (a : Nat → Nat) (S : MS) (A : AS) (hI : AInv A) (hM : MRel A S) (p : Nat) (hp : p < aNp A) : CT G yX5_isWhole cX5_isWhole 2 (some .boolean) rmX5_isWhole 0 0 [.ref (o), .int (nI (p))] (MW G o a S) (fun S : MS => MW G o a S) (Ri (fun r S' => S' = S ∧ r = if dp (aO A p) (aN A p) = 0 then 1 else 0)) := by
  refine CT.enter (by decide) (Nat.le_of_ble_eq_true rfl) (fun X C hnm => ?_)
  refine V.less [(0, .ref (o)), (1, .int (nI (p)))] ⟨rfl, rfl, trivial⟩ ?_
  have hnp := hI.1
  have hnq := hI.2.2.2.2.1
  have hd := dp_le (aO A p) (aN A p)
  have hn := hI.2.1 p
  refine v_aload_n (pc := 0) C dX5_isWhole_0 rfl ?_
  refine v_iload_n (pc := 1) C dX5_isWhole_1 rfl ?_
  refine v_aload_n (pc := 2) C dX5_isWhole_2 rfl ?_
  refine v_get (pc := 3) (v := .ref (a 3)) C inX5 0 rfl rfl 3 (by decide) kw3_28 rfl dX5_isWhole_3 ?_
  refine v_iload_n (pc := 6) C dX5_isWhole_6 rfl ?_
  refine v_ialdN (pc := 7) (i := (p)) (f := (mA S 3)) C 4 rfl (by omega) (by decide) dX5_isWhole_7 ?_
  refine v_cv (y := (nI (aN A p))) (hM.2.1 p (by omega)) ?_
  refine v_callV0 (pc := 8) (st := []) (q0 := 0) C (kX5_openAhead G o a S p (aN A p) (by omega) hn) ykX5_openAhead cvX5_openAhead kw3_144 dX5_isWhole_8 rfl rfl rfl rfl rfl (by decide) (Nat.le_of_ble_eq_true rfl) (by decide) rfl (Ri_kk (fun r_8 u_8 h_8 => ?_))
  obtain ⟨e_8, e8⟩ := h_8
  rw [e_8]
  rw [oa_rel hI hM hp (Nat.le_refl _)] at e8
  subst e8
  refine v_if_neN (pc := 11) (tgt := 18) C (dp (aO A p) (aN A p)) rfl (by omega) dX5_isWhole_11 (by decide) (fun c_11 => ?_) (fun c_11 => ?_)
  · refine v_iconst (pc := 18) (v := 0) C dX5_isWhole_18 (by decide) ?_
    exact v_iret (pc := 19) C dX5_isWhole_19 (rfl) (S) rfl (⟨rfl, by rw [if_neg c_11]⟩)
  · refine v_iconst (pc := 14) (v := 1) C dX5_isWhole_14 (by decide) ?_
    refine v_goto (pc := 15) (tgt := 19) C dX5_isWhole_15 (by decide) ?_
    exact v_iret (pc := 19) C dX5_isWhole_19 (rfl) (S) rfl (⟨rfl, by rw [if_pos c_11]⟩)
def rmX5_whole : Room := { frames := 2, cells := 0, slots := 0, locals := 46 }
set_option maxHeartbeats 4000000 in
set_option maxRecDepth 100000 in
theorem kX5_whole (G : TG) (o : Nat) (a : Nat → Nat) (S : MS) (A : AS) (hI : AInv A) (hM : MRel A S) (p : Int32) : CT G yX5_whole cX5_whole 2 (some .int) rmX5_whole 0 0 [.ref (o), .int (p)] (MW G o a S) (fun S : MS => MW G o a S) (Ri (fun r S' => r = s_whole A p ∧ MRel A S')) := by
  refine CT.enter (by decide) (Nat.le_of_ble_eq_true rfl) (fun X C hnm => ?_)
  refine V.less [(0, .ref (o)), (1, .int (p))] ⟨rfl, rfl, trivial⟩ ?_
  have hnp := hI.1
  have hnq := hI.2.2.2.2.1
  refine v_aload_n (pc := 0) C dX5_whole_0 rfl ?_
  refine v_iload_n (pc := 1) C dX5_whole_1 rfl ?_
  refine v_callV0 (pc := 2) (st := []) (q0 := 0) C (kX5_isProgram G o a S p) ykX5_isProgram cvX5_isProgram kw3_134 dX5_whole_2 rfl rfl rfl rfl rfl (by decide) (Nat.le_of_ble_eq_true rfl) (by decide) rfl (Ri_kk (fun r_2 u_2 h_2 => ?_))
  obtain ⟨e_2, h_2⟩ := h_2
  rw [e_2]
  rcases (is01 (by omega) hM.1 h_2) with ⟨b_p, rfl⟩ | ⟨j, hj, rfl, rfl⟩
  · refine v_if_eqT (pc := 5) (tgt := 24) C (by decide) dX5_whole_5 (by decide) ?_
    refine v_iconst (pc := 24) (v := (-1)) C dX5_whole_24 (by decide) ?_
    exact v_iret (pc := 25) C dX5_whole_25 (rfl) (S) rfl (⟨by unfold s_whole; rw [if_pos b_p], hM⟩)
  · refine v_if_eqF (pc := 5) (tgt := 24) C (by decide) dX5_whole_5 (by decide) ?_
    refine v_aload_n (pc := 8) C dX5_whole_8 rfl ?_
    refine v_iload_n (pc := 9) C dX5_whole_9 rfl ?_
    refine v_callV0 (pc := 10) (st := []) (q0 := 0) C (kX5_isWhole G o a S A hI hM j hj) ykX5_isWhole cvX5_isWhole kw3_157 dX5_whole_10 rfl rfl rfl rfl rfl (by decide) (Nat.le_of_ble_eq_true rfl) (by decide) rfl (Ri_kk (fun r_10 u_10 h_10 => ?_))
    obtain ⟨e_10, h_10⟩ := h_10
    rw [e_10]
    rcases (if01 h_10) with ⟨q_10, rfl⟩ | ⟨q_10, rfl⟩
    · refine v_if_eqT (pc := 13) (tgt := 20) C (by decide) dX5_whole_13 (by decide) ?_
      refine v_iconst (pc := 20) (v := 0) C dX5_whole_20 (by decide) ?_
      refine v_goto (pc := 21) (tgt := 25) C dX5_whole_21 (by decide) ?_
      exact v_iret (pc := 25) C dX5_whole_25 (rfl) (S) rfl (⟨by unfold s_whole; rw [tn_nI (n := j) (by omega), if_neg (nbad hj (by omega)), if_neg q_10], hM⟩)
    · refine v_if_eqF (pc := 13) (tgt := 20) C (by decide) dX5_whole_13 (by decide) ?_
      refine v_iconst (pc := 16) (v := 1) C dX5_whole_16 (by decide) ?_
      refine v_goto (pc := 17) (tgt := 25) C dX5_whole_17 (by decide) ?_
      exact v_iret (pc := 25) C dX5_whole_25 (rfl) (S) rfl (⟨by unfold s_whole; rw [tn_nI (n := j) (by omega), if_neg (nbad hj (by omega)), if_pos q_10], hM⟩)
def rmX5_program : Room := { frames := 0, cells := 0, slots := 0, locals := 0 }
set_option maxHeartbeats 4000000 in
set_option maxRecDepth 100000 in
theorem kX5_program (G : TG) (o : Nat) (a : Nat → Nat) (S : MS) (A : AS) (hI : AInv A) (hM : MRel A S)  : CT G yX5_program cX5_program 1 (some .int) rmX5_program 0 0 [.ref (o)] (MW G o a S) (fun S : MS => MW G o a S) (Ri (fun r S' => r = (s_program A).1 ∧ MRel (s_program A).2 S')) := by
  refine CT.enter (by decide) (Nat.le_of_ble_eq_true rfl) (fun X C hnm => ?_)
  refine V.less [(0, .ref (o))] ⟨rfl, trivial⟩ ?_
  have hnp := hI.1
  have hnq := hI.2.2.2.2.1
  refine v_aload_n (pc := 0) C dX5_program_0 rfl ?_
  refine v_get (pc := 1) (v := .int (mI S 4)) C inX5 0 rfl rfl 4 (by decide) kw3_29 rfl dX5_program_1 ?_
  refine v_cv (y := (nI (aNp A))) (hM.1) ?_
  refine v_bipush (pc := 4) (v := 10) C dX5_program_4 (by decide) ?_
  refine v_icmp_neN (pc := 6) (tgt := 12) C (aNp A) 10 rfl rfl (by omega) (by omega) dX5_program_6 (by decide) (fun c_6 => ?_) (fun c_6 => ?_)
  · refine v_aload_n (pc := 12) C dX5_program_12 rfl ?_
    refine v_dup (pc := 13) C dX5_program_13 rfl ?_
    refine v_get (pc := 14) (v := .int (mI S 4)) C inX5 0 rfl rfl 4 (by decide) kw3_29 rfl dX5_program_14 ?_
    refine v_cv (y := (nI (aNp A))) (hM.1) ?_
    refine v_iconst (pc := 17) (v := 1) C dX5_program_17 (by decide) ?_
    refine v_iaddN (pc := 18) C (aNp A) 1 rfl rfl dX5_program_18 ?_
    refine v_put (pc := 19) C inX5 tyX5 tyX5_ok nmX5 0 rfl rfl 4 (by decide) kw3_29 rfl (rfl) rfl (Nat.le_of_ble_eq_true rfl) dX5_program_19 (ws' := (MW G o a (sI S 4 (nI ((aNp A) + 1))))) rfl ?_
    refine v_aload_n (pc := 22) C dX5_program_22 rfl ?_
    refine v_get (pc := 23) (v := .int (nI (((aNp A) + 1)))) C inX5 0 rfl rfl 4 (by decide) kw3_29 rfl dX5_program_23 ?_
    refine v_iconst (pc := 26) (v := 1) C dX5_program_26 (by decide) ?_
    refine v_isubN (pc := 27) C (((aNp A) + 1)) 1 rfl rfl (by omega) dX5_program_27 ?_
    exact v_iret (pc := 28) C dX5_program_28 (rfl) ((sI S 4 (nI ((aNp A) + 1)))) rfl (⟨by unfold s_program; rw [if_neg c_6]; exact congrArg nI (by omega), by unfold s_program; rw [if_neg c_6]; exact ⟨rfl, hM.2⟩⟩)
  · refine v_bipush (pc := 9) (v := (-2)) C dX5_program_9 (by decide) ?_
    exact v_iret (pc := 11) C dX5_program_11 (rfl) (S) rfl (⟨by unfold s_program; rw [if_pos c_6], by unfold s_program; rw [if_pos c_6]; exact hM⟩)
def rmX5_about : Room := { frames := 1, cells := 0, slots := 0, locals := 25 }
set_option maxHeartbeats 4000000 in
set_option maxRecDepth 100000 in
theorem kX5_about (G : TG) (o : Nat) (a : Nat → Nat) (S : MS) (A : AS) (hI : AInv A) (hM : MRel A S) (p l w : Int32) : CT G yX5_about cX5_about 5 (some .int) rmX5_about 0 0 [.ref (o), .int (p), .int (l), .int (w)] (MW G o a S) (fun S : MS => MW G o a S) (Ri (fun r S' => r = s_about A p l w ∧ MRel A S')) := by
  refine CT.enter (by decide) (Nat.le_of_ble_eq_true rfl) (fun X C hnm => ?_)
  refine V.less [(0, .ref (o)), (1, .int (p)), (2, .int (l)), (3, .int (w))] ⟨rfl, rfl, rfl, rfl, trivial⟩ ?_
  have hnp := hI.1
  have hnq := hI.2.2.2.2.1
  refine v_aload_n (pc := 0) C dX5_about_0 rfl ?_
  refine v_iload_n (pc := 1) C dX5_about_1 rfl ?_
  refine v_callV0 (pc := 2) (st := []) (q0 := 0) C (kX5_isProgram G o a S p) ykX5_isProgram cvX5_isProgram kw3_134 dX5_about_2 rfl rfl rfl rfl rfl (by decide) (Nat.le_of_ble_eq_true rfl) (by decide) rfl (Ri_kk (fun r_2 u_2 h_2 => ?_))
  obtain ⟨e_2, h_2⟩ := h_2
  rw [e_2]
  rcases (is01 (by omega) hM.1 h_2) with ⟨b_p, rfl⟩ | ⟨j, hj, rfl, rfl⟩
  · refine v_if_eqT (pc := 5) (tgt := 31) C (by decide) dX5_about_5 (by decide) ?_
    refine v_ldc (pc := 31) C dX5_about_31 kw3_152 ?_
    exact v_iret (pc := 33) C dX5_about_33 (rfl) (S) rfl (⟨by unfold s_about; rw [if_pos b_p]; rfl, hM⟩)
  · refine v_if_eqF (pc := 5) (tgt := 31) C (by decide) dX5_about_5 (by decide) ?_
    refine v_iload_n (pc := 8) C dX5_about_8 rfl ?_
    refine v_if_lt (pc := 9) (tgt := 31) C dX5_about_9 (by decide) (fun c_9 => ?_) (fun c_9 => ?_)
    · refine v_ldc (pc := 31) C dX5_about_31 kw3_152 ?_
      exact v_iret (pc := 33) C dX5_about_33 (rfl) (S) rfl (⟨by unfold s_about; rw [tn_nI (n := j) (by omega), if_neg (nbad hj (by omega)), if_pos c_9]; rfl, hM⟩)
    · refine v_iload_n (pc := 12) C dX5_about_12 rfl ?_
      refine v_aload_n (pc := 13) C dX5_about_13 rfl ?_
      refine v_get (pc := 14) (v := .ref (a 3)) C inX5 0 rfl rfl 3 (by decide) kw3_28 rfl dX5_about_14 ?_
      refine v_iload_n (pc := 17) C dX5_about_17 rfl ?_
      refine v_ialdN (pc := 18) (i := (j)) (f := (mA S 3)) C 4 rfl (by omega) (by decide) dX5_about_18 ?_
      refine v_cv (y := (nI (aN A j))) (hM.2.1 j (by omega)) ?_
      refine v_icmp_ge (pc := 19) (tgt := 31) C dX5_about_19 (by decide) (fun c_19 => ?_) (fun c_19 => ?_)
      · refine v_ldc (pc := 31) C dX5_about_31 kw3_152 ?_
        exact v_iret (pc := 33) C dX5_about_33 (rfl) (S) rfl (⟨by unfold s_about; rw [tn_nI (n := j) (by omega), if_neg (nbad hj (by omega)), if_neg c_9, if_pos c_19]; rfl, hM⟩)
      · have hn := hI.2.1 j
        obtain ⟨k, hk, rfl⟩ := ixN c_9 c_19 (by omega)
        refine v_iload_n (pc := 22) C dX5_about_22 rfl ?_
        refine v_iconst (pc := 23) (v := 0) C dX5_about_23 (by decide) ?_
        refine v_iconst (pc := 24) (v := 3) C dX5_about_24 (by decide) ?_
        refine v_callS0 (pc := 25) (st := []) C (kX5_within G _ w 0 3) ykX5_within kw3_142 kw3_141 dX5_about_25 rfl rfl rfl (by decide) (Nat.le_of_ble_eq_true rfl) (by decide) rfl (Ri_kk (fun r_25 u_25 h_25 => ?_))
        rcases (w01 h_25) with ⟨q_25, rfl⟩ | ⟨q_25, rfl⟩
        · refine v_if_neF (pc := 28) (tgt := 34) C (by decide) dX5_about_28 (by decide) ?_
          refine v_ldc (pc := 31) C dX5_about_31 kw3_152 ?_
          exact v_iret (pc := 33) C dX5_about_33 (rfl) (S) rfl (⟨by unfold s_about; rw [tn_nI (n := j) (by omega), if_neg (nbad hj (by omega)), if_neg c_9, if_neg c_19, if_pos q_25]; rfl, hM⟩)
        · refine v_if_neT (pc := 28) (tgt := 34) C (by decide) dX5_about_28 (by decide) ?_
          refine v_bipush (pc := 34) (v := 20) C dX5_about_34 (by decide) ?_
          refine v_iload_n (pc := 36) C dX5_about_36 rfl ?_
          refine v_imulN (pc := 37) C 20 (j) rfl rfl dX5_about_37 ?_
          refine v_iload_n (pc := 38) C dX5_about_38 rfl ?_
          refine v_iaddN (pc := 39) C (20 * (j)) (k) rfl rfl dX5_about_39 ?_
          refine v_istore (pc := 40) C dX5_about_40 (by decide) ?_
          refine v_iload_n (pc := 42) C dX5_about_42 rfl ?_
          refine v_if_ne (pc := 43) (tgt := 56) C dX5_about_43 (by decide) (fun c_43 => ?_) (fun c_43 => ?_)
          · refine v_iload_n (pc := 56) C dX5_about_56 rfl ?_
            refine v_iconst (pc := 57) (v := 1) C dX5_about_57 (by decide) ?_
            refine v_icmp_ne (pc := 58) (tgt := 71) C dX5_about_58 (by decide) (fun c_58 => ?_) (fun c_58 => ?_)
            · refine v_iload_n (pc := 71) C dX5_about_71 rfl ?_
              refine v_iconst (pc := 72) (v := 2) C dX5_about_72 (by decide) ?_
              refine v_icmp_ne (pc := 73) (tgt := 86) C dX5_about_73 (by decide) (fun c_73 => ?_) (fun c_73 => ?_)
              · refine v_aload_n (pc := 86) C dX5_about_86 rfl ?_
                refine v_iload_n (pc := 87) C dX5_about_87 rfl ?_
                refine v_iload_n (pc := 88) C dX5_about_88 rfl ?_
                refine v_callV0 (pc := 89) (st := []) (q0 := 0) C (kX5_openAhead G o a S j k (by omega) (by omega)) ykX5_openAhead cvX5_openAhead kw3_144 dX5_about_89 rfl rfl rfl rfl rfl (by decide) (Nat.le_of_ble_eq_true rfl) (by decide) rfl (Ri_kk (fun r_89 u_89 h_89 => ?_))
                obtain ⟨e_89, e89⟩ := h_89
                rw [e_89]
                rw [oa_rel hI hM hj (by omega)] at e89
                subst e89
                exact v_iret (pc := 92) C dX5_about_92 (rfl) (S) rfl (⟨by unfold s_about; rw [tn_nI (n := j) (by omega), if_neg (nbad hj (by omega)), tn_nI (n := k) (by omega), if_neg c_9, if_neg c_19, if_neg q_25, if_neg c_43, if_neg c_58, if_neg c_73], hM⟩)
              · refine v_aload_n (pc := 76) C dX5_about_76 rfl ?_
                refine v_get (pc := 77) (v := .ref (a 2)) C inX5 0 rfl rfl 2 (by decide) kw3_27 rfl dX5_about_77 ?_
                refine v_iload (pc := 80) C dX5_about_80 rfl ?_
                refine v_ialdN (pc := 82) (i := ((20 * (j)) + (k))) (f := (mA S 2)) C 3 rfl (by omega) (by decide) dX5_about_82 ?_
                refine v_goto (pc := 83) (tgt := 92) C dX5_about_83 (by decide) ?_
                exact v_iret (pc := 92) C dX5_about_92 (rfl) (S) rfl (⟨by unfold s_about; rw [tn_nI (n := j) (by omega), if_neg (nbad hj (by omega)), tn_nI (n := k) (by omega), if_neg c_9, if_neg c_19, if_neg q_25, if_neg c_43, if_neg c_58, if_pos c_73]; exact (hM.2.2.1 j k (by omega) (by omega)).2.2, hM⟩)
            · refine v_aload_n (pc := 61) C dX5_about_61 rfl ?_
              refine v_get (pc := 62) (v := .ref (a 1)) C inX5 0 rfl rfl 1 (by decide) kw3_26 rfl dX5_about_62 ?_
              refine v_iload (pc := 65) C dX5_about_65 rfl ?_
              refine v_ialdN (pc := 67) (i := ((20 * (j)) + (k))) (f := (mA S 1)) C 2 rfl (by omega) (by decide) dX5_about_67 ?_
              refine v_goto (pc := 68) (tgt := 92) C dX5_about_68 (by decide) ?_
              exact v_iret (pc := 92) C dX5_about_92 (rfl) (S) rfl (⟨by unfold s_about; rw [tn_nI (n := j) (by omega), if_neg (nbad hj (by omega)), tn_nI (n := k) (by omega), if_neg c_9, if_neg c_19, if_neg q_25, if_neg c_43, if_pos c_58]; exact (hM.2.2.1 j k (by omega) (by omega)).2.1, hM⟩)
          · refine v_aload_n (pc := 46) C dX5_about_46 rfl ?_
            refine v_get (pc := 47) (v := .ref (a 0)) C inX5 0 rfl rfl 0 (by decide) kw3_25 rfl dX5_about_47 ?_
            refine v_iload (pc := 50) C dX5_about_50 rfl ?_
            refine v_ialdN (pc := 52) (i := ((20 * (j)) + (k))) (f := (mA S 0)) C 1 rfl (by omega) (by decide) dX5_about_52 ?_
            refine v_goto (pc := 53) (tgt := 92) C dX5_about_53 (by decide) ?_
            exact v_iret (pc := 92) C dX5_about_92 (rfl) (S) rfl (⟨by unfold s_about; rw [tn_nI (n := j) (by omega), if_neg (nbad hj (by omega)), tn_nI (n := k) (by omega), if_neg c_9, if_neg c_19, if_neg q_25, if_pos c_43]; exact (hM.2.2.1 j k (by omega) (by omega)).1, hM⟩)
