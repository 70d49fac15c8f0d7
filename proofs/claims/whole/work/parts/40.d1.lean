/-! the desk: answers, choices -/
noncomputable def ansR (O X Y : Nat → Int32) (n : Nat) (κ inp : Int32) (w : Nat) (mk : Int32) : Int32 := if κ = 0 then (RUN O X Y n mk inp).2.2.2.1 w else if κ = 1 then (RUN O X Y n mk inp).2.1 w else endR n (RUN O X Y n mk inp) (4 + w)
/-- a question and its program as the desk holds them: what is kept is right -/
def QOK (ans : Nat → Int32) (ζ T Z : MS) : Prop := ∃ (O X Y : Nat → Int32) (n w : Nat), (∀ k, 1 ≤ k → k ≤ 3 → mI Z k = mI ζ k) ∧ PR O X Y n T ∧ okp O X Y n ∧ mI Z 3 = nI w ∧ (mI Z 2 = 0 → w < 4) ∧ (mI Z 2 = 1 → w < 20) ∧ (¬ mI Z 2 = 0 → ¬ mI Z 2 = 1 → w < 8) ∧ (∀ m, m < 64 → ans m = ansR O X Y n (mI Z 2) (mI Z 1) w (nI m)) ∧ ∀ m, m < 64 → lb (mL Z 5) m = true → mA Z 4 m = ans m
theorem okK_fin {n : Nat} {R : Nat × (Nat → Int32) × RS} {S : MS} (h : KFin n R S) : okK S := by
  intro k hk
  rw [h.2.2.1 k hk]
  rcases h.2.2.2.2.2.2.2 k hk with q | q
  · rw [q]; exact Or.inl rfl
  · rw [q]; exact Or.inr rfl
theorem kCell_fin {n w : Nat} {R : Nat × (Nat → Int32) × RS} {S : MS} (h : KFin n R S) (hw : w < 8) : kCell S w = endR n R (4 + w) := by
  have h2 : w / 4 < 2 := by omega
  have hl := tn_lt h.2.2.2.2.2.2.2 h2
  unfold kCell endR
  rw [h.2.2.1 _ h2, tn_nI (by omega), h.2.1 _ (by omega), if_neg (by omega), if_pos (by omega), show (4 + w) / 4 - 1 = w / 4 by omega, show (4 + w) % 4 = w % 4 by omega]
theorem ans_fin {O X Y : Nat → Int32} {n w : Nat} {κ inp mk : Int32} {S : MS} (h : KFin n (RUN O X Y n mk inp) S) (h0 : κ = 0 → w < 4) (h1 : κ = 1 → w < 20) (h2 : ¬ κ = 0 → ¬ κ = 1 → w < 8) : (if κ = 0 then mA S 0 w else if κ = 1 then mA S 3 w else kCell S w) = ansR O X Y n κ inp w mk := by
  unfold ansR
  by_cases q : κ = 0
  · rw [if_pos q, if_pos q]; exact h.1 w (h0 q)
  · rw [if_neg q, if_neg q]
    by_cases q1 : κ = 1
    · rw [if_pos q1, if_pos q1]; exact h.2.2.2.1 w (h1 q1)
    · rw [if_neg q1, if_neg q1]; exact kCell_fin h (h2 q q1)
theorem QOK_keep {ans : Nat → Int32} {ζ T Z : MS} {m : Nat} (h : QOK ans ζ T Z) (hm : m < 64) : QOK ans ζ T (sL (sA Z 4 (upd (mA Z 4) m (ans m))) (vp_updL (mL Z) 5 (mL Z 5 ||| (1 : Int64) <<< ((nI m).toInt64 &&& 63)))) := by
  obtain ⟨O, X, Y, n, w, a0, a1, a2, a3, a4, a5, a6, a7, a8⟩ := h
  refine ⟨O, X, Y, n, w, a0, a1, a2, a3, a4, a5, a6, a7, fun j hj hb => ?_⟩
  have hb : lb (mL Z 5 ||| (1 : Int64) <<< ((nI m).toInt64 &&& 63)) j = true := hb
  rw [lb_or hm] at hb
  show upd (mA Z 4) m (ans m) j = ans j
  by_cases e : j = m
  · subst e; exact pk_us
  · rw [pk_un e]
    refine a8 j hj ?_
    have e2 : decide (m = j) = false := decide_eq_false (fun z => e z.symm)
    rw [e2, Bool.or_false] at hb
    exact hb
def chF (ans : Nat → Int32) : Nat → List (Int32 × Int32)
  | 0 => []
  | i + 1 => if ans (smN i) ∈ (chF ans i).map Prod.fst then chF ans i else chF ans i ++ [(ans (smN i), nI (smN i))]
theorem chF_in {ans : Nat → Int32} {i : Nat} (h : ans (smN i) ∈ (chF ans i).map Prod.fst) : chF ans (i + 1) = chF ans i := if_pos h
theorem chF_out {ans : Nat → Int32} {i : Nat} (h : ¬ ans (smN i) ∈ (chF ans i).map Prod.fst) : chF ans (i + 1) = chF ans i ++ [(ans (smN i), nI (smN i))] := if_neg h
theorem chF_len {ans : Nat → Int32} : ∀ i, (chF ans i).length ≤ i
  | 0 => Nat.le_refl 0
  | i + 1 => by
    have ih := chF_len (ans := ans) i
    by_cases h : ans (smN i) ∈ (chF ans i).map Prod.fst
    · rw [chF_in h]; omega
    · rw [chF_out h, List.length_append]; show _ + 1 ≤ _; omega
theorem chF_mem {ans : Nat → Int32} {i f : Nat} {t s : Nat → Int32} {v : Int32} (hf : f = (chF ans i).length) (h : ∀ y w, (chF ans i)[y]? = some w → t y = w.1 ∧ s y = w.2) : (∃ y, y < f ∧ t y = v) ↔ v ∈ (chF ans i).map Prod.fst := by
  subst hf
  constructor
  · rintro ⟨y, hy, e⟩
    have hw := List.getElem?_eq_getElem hy
    exact List.mem_map.mpr ⟨_, List.mem_of_getElem? hw, by rw [← (h y _ hw).1]; exact e⟩
  · intro hm
    obtain ⟨w, hw, e⟩ := List.mem_map.mp hm
    obtain ⟨y, hy⟩ := List.getElem?_of_mem hw
    exact ⟨y, (List.getElem?_eq_some_iff.mp hy).1, by rw [(h y w hy).1]; exact e⟩
theorem ch_add {L : List (Int32 × Int32)} {t s : Nat → Int32} {v u : Int32} {f : Nat} (hf : f = L.length) (h : ∀ y w, L[y]? = some w → t y = w.1 ∧ s y = w.2) : ∀ y w, (L ++ [(v, u)])[y]? = some w → upd t f v y = w.1 ∧ upd s f u y = w.2 := by
  subst hf
  intro y w hw
  by_cases e : y = L.length
  · subst e
    rw [List.getElem?_append_right (Nat.le_refl _), Nat.sub_self] at hw
    cases hw
    exact ⟨pk_us, pk_us⟩
  · have hl : y < L.length := by
      have := (List.getElem?_eq_some_iff.mp hw).1
      rw [List.length_append] at this
      have : y < L.length + 1 := this
      omega
    rw [pk_un e, pk_un e]
    rw [List.getElem?_append_left hl] at hw
    exact h y w hw
def rmX4_programAt : Room := { frames := 0, cells := 0, slots := 0, locals := 0 }
set_option maxHeartbeats 4000000 in
set_option maxRecDepth 100000 in
theorem kX4_programAt (G : TG) (o : Nat) (a : Nat → Nat) (RP RQ RU : Nat → Option Nat) (S : MS) (p : Int32) (n : Nat) (hn : n ≤ 10) (en : mI S 11 = nI n) : CT G yX4_programAt cX4_programAt 2 (some (.object "CodeQuiz$Program")) rmX4_programAt 0 0 [.ref (o), .int (p)] (CWd G o a RP RQ RU S) (fun S : MS => CWd G o a RP RQ RU S) (Rq (fun r S' => S' = S ∧ (((p < 0 ∨ nI n ≤ p) ∧ r = none) ∨ ∃ j, j < n ∧ p = nI j ∧ r = RP j))) := by
  refine CT.enter (by decide) (Nat.le_of_ble_eq_true rfl) (fun X C hnm => ?_)
  refine V.less [(0, .ref (o)), (1, .int (p))] ⟨rfl, rfl, trivial⟩ ?_
  generalize hQ : (QX G X (fun S : MS => CWd G o a RP RQ RU S) (Rq (fun r S' => S' = S ∧ (((p < 0 ∨ nI n ≤ p) ∧ r = none) ∨ ∃ j, j < n ∧ p = nI j ∧ r = RP j))) 0 0) = Qq
  refine v_iload_n (pc := 0) C dX4_programAt_0 rfl ?_
  refine v_if_lt (pc := 1) (tgt := 21) C dX4_programAt_1 (by decide) (fun c_1 => ?_) (fun c_1 => ?_)
  · refine v_null (pc := 21) C dX4_programAt_21 ?_
    subst hQ
    exact v_aret (pc := 22) (r := none) C dX4_programAt_22 (S) rfl (⟨rfl, Or.inl ⟨Or.inl c_1, rfl⟩⟩)
  · refine v_iload_n (pc := 4) C dX4_programAt_4 rfl ?_
    refine v_aload_n (pc := 5) C dX4_programAt_5 rfl ?_
    refine v_get (pc := 6) (v := .int (mI S 11)) C inX4 0 rfl rfl 11 (by decide) kw1_93 rfl dX4_programAt_6 ?_
    refine v_cv (y := (nI (n))) (en) ?_
    refine v_icmp_ge (pc := 9) (tgt := 21) C dX4_programAt_9 (by decide) (fun c_9 => ?_) (fun c_9 => ?_)
    · refine v_null (pc := 21) C dX4_programAt_21 ?_
      subst hQ
      exact v_aret (pc := 22) (r := none) C dX4_programAt_22 (S) rfl (⟨rfl, Or.inl ⟨Or.inr c_9, rfl⟩⟩)
    · obtain ⟨ι, hι, rfl⟩ := ixN c_1 c_9 (by omega)
      refine v_aload_n (pc := 12) C dX4_programAt_12 rfl ?_
      refine v_get (pc := 13) (v := .ref (a 0)) C inX4 0 rfl rfl 0 (by decide) kw1_82 rfl dX4_programAt_13 ?_
      refine v_iload_n (pc := 16) C dX4_programAt_16 rfl ?_
      refine v_aald (pc := 17) (i := (ι)) C 1 3 rfl rfl (by omega) (by decide) dX4_programAt_17 ?_
      refine v_goto (pc := 18) (tgt := 22) C dX4_programAt_18 (by decide) ?_
      subst hQ
      exact v_aret (pc := 22) (r := RP (ι)) C dX4_programAt_22 (S) rfl (⟨rfl, Or.inr ⟨ι, hι, rfl, rfl⟩⟩)
def rmX4_questionAt : Room := { frames := 0, cells := 0, slots := 0, locals := 0 }
set_option maxHeartbeats 4000000 in
set_option maxRecDepth 100000 in
theorem kX4_questionAt (G : TG) (o : Nat) (a : Nat → Nat) (RP RQ RU : Nat → Option Nat) (S : MS) (p : Int32) (n : Nat) (hn : n ≤ 60) (en : mI S 12 = nI n) : CT G yX4_questionAt cX4_questionAt 2 (some (.object "CodeQuiz$Question")) rmX4_questionAt 0 0 [.ref (o), .int (p)] (CWd G o a RP RQ RU S) (fun S : MS => CWd G o a RP RQ RU S) (Rq (fun r S' => S' = S ∧ (((p < 0 ∨ nI n ≤ p) ∧ r = none) ∨ ∃ j, j < n ∧ p = nI j ∧ r = RQ j))) := by
  refine CT.enter (by decide) (Nat.le_of_ble_eq_true rfl) (fun X C hnm => ?_)
  refine V.less [(0, .ref (o)), (1, .int (p))] ⟨rfl, rfl, trivial⟩ ?_
  generalize hQ : (QX G X (fun S : MS => CWd G o a RP RQ RU S) (Rq (fun r S' => S' = S ∧ (((p < 0 ∨ nI n ≤ p) ∧ r = none) ∨ ∃ j, j < n ∧ p = nI j ∧ r = RQ j))) 0 0) = Qq
  refine v_iload_n (pc := 0) C dX4_questionAt_0 rfl ?_
  refine v_if_lt (pc := 1) (tgt := 21) C dX4_questionAt_1 (by decide) (fun c_1 => ?_) (fun c_1 => ?_)
  · refine v_null (pc := 21) C dX4_questionAt_21 ?_
    subst hQ
    exact v_aret (pc := 22) (r := none) C dX4_questionAt_22 (S) rfl (⟨rfl, Or.inl ⟨Or.inl c_1, rfl⟩⟩)
  · refine v_iload_n (pc := 4) C dX4_questionAt_4 rfl ?_
    refine v_aload_n (pc := 5) C dX4_questionAt_5 rfl ?_
    refine v_get (pc := 6) (v := .int (mI S 12)) C inX4 0 rfl rfl 12 (by decide) kw1_94 rfl dX4_questionAt_6 ?_
    refine v_cv (y := (nI (n))) (en) ?_
    refine v_icmp_ge (pc := 9) (tgt := 21) C dX4_questionAt_9 (by decide) (fun c_9 => ?_) (fun c_9 => ?_)
    · refine v_null (pc := 21) C dX4_questionAt_21 ?_
      subst hQ
      exact v_aret (pc := 22) (r := none) C dX4_questionAt_22 (S) rfl (⟨rfl, Or.inl ⟨Or.inr c_9, rfl⟩⟩)
    · obtain ⟨ι, hι, rfl⟩ := ixN c_1 c_9 (by omega)
      refine v_aload_n (pc := 12) C dX4_questionAt_12 rfl ?_
      refine v_get (pc := 13) (v := .ref (a 1)) C inX4 0 rfl rfl 1 (by decide) kw1_83 rfl dX4_questionAt_13 ?_
      refine v_iload_n (pc := 16) C dX4_questionAt_16 rfl ?_
      refine v_aald (pc := 17) (i := (ι)) C 2 4 rfl rfl (by omega) (by decide) dX4_questionAt_17 ?_
      refine v_goto (pc := 18) (tgt := 22) C dX4_questionAt_18 (by decide) ?_
      subst hQ
      exact v_aret (pc := 22) (r := RQ (ι)) C dX4_questionAt_22 (S) rfl (⟨rfl, Or.inr ⟨ι, hι, rfl, rfl⟩⟩)
def rmX4_isListed : Room := { frames := 0, cells := 0, slots := 0, locals := 0 }
set_option maxHeartbeats 4000000 in
set_option maxRecDepth 100000 in
theorem kX4_isListed (G : TG) (o : Nat) (a : Nat → Nat) (RP RQ RU : Nat → Option Nat) (S : MS) (v : Int32) (f : Nat) (hf : f ≤ 7) : CT G yX4_isListed cX4_isListed 4 (some .boolean) rmX4_isListed 0 0 [.ref (o), .int (v), .int (nI (f))] (CWd G o a RP RQ RU S) (fun S : MS => CWd G o a RP RQ RU S) (Ri (fun r S' => S' = S ∧ ((r = 1 ∧ ∃ y, y < f ∧ mA S 7 y = v) ∨ (r = 0 ∧ ¬ (∃ y, y < f ∧ mA S 7 y = v))))) := by
  refine CT.enter (by decide) (Nat.le_of_ble_eq_true rfl) (fun X C hnm => ?_)
  refine V.less [(0, .ref (o)), (1, .int (v)), (2, .int (nI (f)))] ⟨rfl, rfl, rfl, trivial⟩ ?_
  generalize hQ : (QX G X (fun S : MS => CWd G o a RP RQ RU S) (Ri (fun r S' => S' = S ∧ ((r = 1 ∧ ∃ y, y < f ∧ mA S 7 y = v) ∨ (r = 0 ∧ ¬ (∃ y, y < f ∧ mA S 7 y = v))))) 0 0) = Qq
  refine v_iconst (pc := 0) (v := 0) C dX4_isListed_0 (by decide) ?_
  refine v_istore_n (pc := 1) C dX4_isListed_1 (by decide) ?_
  have L2 : ∀ (fu : Nat) (κ : Nat), (f < κ + fu) → (κ ≤ f) → (∀ z, z < κ → ¬ mA S 7 z = v) → V G X cX4_isListed 4 rmX4_isListed Qq 0 0 2 (lvo [(0, .ref (o)), (1, .int (v)), (2, .int (nI (f))), (3, .int (nI (κ)))]) [] (CWd G o a RP RQ RU S) := by
    intro fu
    induction fu with
    | zero => intro κ hφ hκ hα; exfalso; omega
    | succ fu ih2 =>
      intro κ hφ hκ hα
      refine v_iload_n (pc := 2) C dX4_isListed_2 rfl ?_
      refine v_iload_n (pc := 3) C dX4_isListed_3 rfl ?_
      refine v_icmp_geN (pc := 4) (tgt := 25) C (κ) (f) rfl rfl (by omega) (by omega) dX4_isListed_4 (by decide) (fun c_4 => ?_) (fun c_4 => ?_)
      · refine v_iconst (pc := 25) (v := 0) C dX4_isListed_25 (by decide) ?_
        subst hQ
        exact v_iret (pc := 26) C dX4_isListed_26 (rfl) (S) rfl (⟨rfl, Or.inr ⟨rfl, fun z => by obtain ⟨y, hy, e⟩ := z; exact hα y (by omega) e⟩⟩)
      · refine v_aload_n (pc := 7) C dX4_isListed_7 rfl ?_
        refine v_get (pc := 8) (v := .ref (a 7)) C inX4 0 rfl rfl 7 (by decide) kw1_89 rfl dX4_isListed_8 ?_
        refine v_iload_n (pc := 11) C dX4_isListed_11 rfl ?_
        refine v_ialdN (pc := 12) (i := (κ)) (f := (mA S 7)) C 5 rfl (by omega) (by decide) dX4_isListed_12 ?_
        refine v_iload_n (pc := 13) C dX4_isListed_13 rfl ?_
        refine v_icmp_ne (pc := 14) (tgt := 19) C dX4_isListed_14 (by decide) (fun c_14 => ?_) (fun c_14 => ?_)
        · refine v_iinc1 (pc := 19) C (κ) rfl dX4_isListed_19 rfl ?_
          refine v_goto (pc := 22) (tgt := 2) C dX4_isListed_22 (by decide) ?_
          exact V.lessE (ih2  (((κ) + 1)) (by omega) (by omega) (ext_lt (P := fun z => ¬ mA S 7 z = v) hα c_14)) ⟨rfl, rfl, rfl, rfl, trivial⟩
        · refine v_iconst (pc := 17) (v := 1) C dX4_isListed_17 (by decide) ?_
          subst hQ
          exact v_iret (pc := 18) C dX4_isListed_18 (rfl) (S) rfl (⟨rfl, Or.inl ⟨rfl, κ, by omega, c_14⟩⟩)
  exact V.lessE (L2 (f + 1) (0) (by omega) (by omega) (fun z hz => absurd hz (Nat.not_lt_zero z))) ⟨rfl, rfl, rfl, rfl, trivial⟩
def rmX4_answerBy : Room := { frames := 3, cells := 0, slots := 0, locals := 72 }
set_option maxHeartbeats 4000000 in
set_option maxRecDepth 100000 in
theorem kX4_answerBy (G : TG) (o p q : Nat) (a f c d : Nat → Nat) (RP RQ RU : Nat → Option Nat) (S K T Z : MS) (ans : Nat → Int32) (ζ : MS) (hη : QOK ans ζ T Z) (m : Nat) (hm : m < 64) : CT G yX4_answerBy cX4_answerBy 3 (some .int) rmX4_answerBy 0 0 [.ref (o), .ref (q), .int (nI (m))] (CWd G o a RP RQ RU S ++ (KWd G (a 5) f K ++ (PWd G p c T ++ (QWd G q d p Z)))) (fun u : MS × MS × MS => CWd G o a RP RQ RU u.1 ++ (KWd G (a 5) f u.2.1 ++ (PWd G p c T ++ QWd G q d p u.2.2))) (Ri (fun r u => r = ans m ∧ u.1 = S ∧ QOK ans ζ T u.2.2)) := by
  refine CT.enter (by decide) (Nat.le_of_ble_eq_true rfl) (fun X C hnm => ?_)
  refine V.less [(0, .ref (o)), (1, .ref (q)), (2, .int (nI (m)))] ⟨rfl, rfl, rfl, trivial⟩ ?_
  generalize hQ : (QX G X (fun u : MS × MS × MS => CWd G o a RP RQ RU u.1 ++ (KWd G (a 5) f u.2.1 ++ (PWd G p c T ++ QWd G q d p u.2.2))) (Ri (fun r u => r = ans m ∧ u.1 = S ∧ QOK ans ζ T u.2.2)) 0 0) = Qq
  obtain ⟨O, Ξ, Y, n, w, hz, hP, hok, hw, h0, h1, h2, hans, hkn⟩ := id hη
  refine v_aload_n (pc := 0) C dX4_answerBy_0 rfl ?_
  refine v_iload_n (pc := 1) C dX4_answerBy_1 rfl ?_
  refine V.same (ws' := (CWd G o a RP RQ RU S ++ (KWd G (a 5) f K ++ (PWd G p c T))) ++ (QWd G q d p Z)) (by simp only [List.append_assoc]) ?_
  refine v_callVN (pc := 2) (st := []) (q0 := 0) (wr := (CWd G o a RP RQ RU S ++ (KWd G (a 5) f K ++ (PWd G p c T)))) C (kX3_knows G q d p Z m hm) ykX3_knows cvX3_knows nw_32 dX4_answerBy_2 rfl rfl rfl rfl rfl (by decide) (Nat.le_of_ble_eq_true rfl) (by decide) rfl (Ri_kk (fun r_2 u_2 h_2 => ?_))
  obtain ⟨e_2, h_2⟩ := h_2
  rw [e_2]
  refine V.same (ws' := (CWd G o a RP RQ RU S ++ (KWd G (a 5) f K ++ (PWd G p c T ++ (QWd G q d p Z))))) (by simp only [List.append_assoc]) ?_
  rcases (if01 h_2) with ⟨q_2, rfl⟩ | ⟨q_2, rfl⟩
  · refine v_if_neF (pc := 5) (tgt := 44) C (by decide) dX4_answerBy_5 (by decide) ?_
    refine v_aload_n (pc := 8) C dX4_answerBy_8 rfl ?_
    refine v_get (pc := 9) (v := .ref ((a 5))) C inX4 0 rfl rfl 5 (by decide) kw1_87 rfl dX4_answerBy_9 ?_
    refine v_aload_n (pc := 12) C dX4_answerBy_12 rfl ?_
    refine v_getN (pc := 13) (v := .ref (p)) C inX3 22 rfl rfl 0 (by decide) nw_27 rfl dX4_answerBy_13 ?_
    refine v_aload_n (pc := 16) C dX4_answerBy_16 rfl ?_
    refine v_getN (pc := 17) (v := .int (mI Z 1)) C inX3 22 rfl rfl 1 (by decide) nw_28 rfl dX4_answerBy_17 ?_
    refine v_iload_n (pc := 20) C dX4_answerBy_20 rfl ?_
    refine V.perm (ws' := (CWd G o a RP RQ RU S ++ (KWd G (a 5) f K ++ (QWd G q d p Z ++ (PWd G p c T))))) ((List.Perm.append_left _ (List.Perm.append_left _ (List.perm_append_comm))).trans (List.Perm.of_eq (by simp only [List.append_assoc]))) ?_
    refine V.perm (ws' := (CWd G o a RP RQ RU S ++ (QWd G q d p Z ++ (PWd G p c T ++ (KWd G (a 5) f K))))) ((List.Perm.append_left _ (List.perm_append_comm)).trans (List.Perm.of_eq (by simp only [List.append_assoc]))) ?_
    refine V.same (ws' := (CWd G o a RP RQ RU S ++ (QWd G q d p Z)) ++ (PWd G p c T ++ (KWd G (a 5) f K))) (by simp only [List.append_assoc]) ?_
    refine v_callVN (pc := 21) (st := []) (q0 := 7) (wr := (CWd G o a RP RQ RU S ++ (QWd G q d p Z))) C (kX0_perform G p (a 5) c f T K O Ξ Y n (mI Z 1) (nI m) hP hok) ykX0_perform cvX0_perform nw_23 dX4_answerBy_21 rfl rfl rfl rfl rfl (by decide) (Nat.le_of_ble_eq_true rfl) (by decide) rfl (Rv_kk (fun u_21 h_21 => ?_))
    obtain ⟨hF, -⟩ := h_21
    refine V.same (ws' := (CWd G o a RP RQ RU S ++ (QWd G q d p Z ++ (PWd G p c T ++ (KWd G (a 5) f u_21))))) (by simp only [List.append_assoc]) ?_
    refine V.perm (ws' := (CWd G o a RP RQ RU S ++ (QWd G q d p Z ++ (KWd G (a 5) f u_21 ++ (PWd G p c T))))) ((List.Perm.append_left _ (List.Perm.append_left _ (List.perm_append_comm))).trans (List.Perm.of_eq (by simp only [List.append_assoc]))) ?_
    refine V.perm (ws' := (CWd G o a RP RQ RU S ++ (KWd G (a 5) f u_21 ++ (PWd G p c T ++ (QWd G q d p Z))))) ((List.Perm.append_left _ (List.perm_append_comm)).trans (List.Perm.of_eq (by simp only [List.append_assoc]))) ?_
    refine v_aload_n (pc := 24) C dX4_answerBy_24 rfl ?_
    refine v_iload_n (pc := 25) C dX4_answerBy_25 rfl ?_
    refine v_aload_n (pc := 26) C dX4_answerBy_26 rfl ?_
    refine v_get (pc := 27) (v := .ref ((a 5))) C inX4 0 rfl rfl 5 (by decide) kw1_87 rfl dX4_answerBy_27 ?_
    refine v_aload_n (pc := 30) C dX4_answerBy_30 rfl ?_
    refine v_getN (pc := 31) (v := .int (mI Z 2)) C inX3 22 rfl rfl 2 (by decide) nw_29 rfl dX4_answerBy_31 ?_
    refine v_aload_n (pc := 34) C dX4_answerBy_34 rfl ?_
    refine v_getN (pc := 35) (v := .int (mI Z 3)) C inX3 22 rfl rfl 3 (by decide) nw_30 rfl dX4_answerBy_35 ?_
    refine v_cv (y := (nI (w))) (hw) ?_
    refine V.perm (ws' := (CWd G o a RP RQ RU S ++ (PWd G p c T ++ (QWd G q d p Z ++ (KWd G (a 5) f u_21))))) ((List.Perm.append_left _ (List.perm_append_comm)).trans (List.Perm.of_eq (by simp only [List.append_assoc]))) ?_
    refine V.same (ws' := (CWd G o a RP RQ RU S ++ (PWd G p c T ++ (QWd G q d p Z))) ++ (KWd G (a 5) f u_21)) (by simp only [List.append_assoc]) ?_
    refine v_callVN (pc := 38) (st := [.int (nI (m)), .ref (q)]) (q0 := 0) (wr := (CWd G o a RP RQ RU S ++ (PWd G p c T ++ (QWd G q d p Z)))) C (kX0_answerTo G (a 5) f u_21 (mI Z 2) w h0 h1 h2 (okK_fin hF)) ykX0_answerTo cvX0_answerTo nw_34 dX4_answerBy_38 rfl rfl rfl rfl rfl (by decide) (Nat.le_of_ble_eq_true rfl) (by decide) rfl (Ri_kk (fun r_38 u_38 h_38 => ?_))
    obtain ⟨e_38, er_38⟩ := h_38
    rw [e_38]
    have er2 : r_38 = ans m := er_38.trans ((ans_fin hF h0 h1 h2).trans (hans m hm).symm)
    subst er2
    refine V.same (ws' := (CWd G o a RP RQ RU S ++ (PWd G p c T ++ (QWd G q d p Z ++ (KWd G (a 5) f u_21))))) (by simp only [List.append_assoc]) ?_
    refine V.perm (ws' := (CWd G o a RP RQ RU S ++ (QWd G q d p Z ++ (KWd G (a 5) f u_21 ++ (PWd G p c T))))) ((List.Perm.append_left _ (List.perm_append_comm)).trans (List.Perm.of_eq (by simp only [List.append_assoc]))) ?_
    refine V.perm (ws' := (CWd G o a RP RQ RU S ++ (KWd G (a 5) f u_21 ++ (PWd G p c T ++ (QWd G q d p Z))))) ((List.Perm.append_left _ (List.perm_append_comm)).trans (List.Perm.of_eq (by simp only [List.append_assoc]))) ?_
    refine V.same (ws' := (CWd G o a RP RQ RU S ++ (KWd G (a 5) f u_21 ++ (PWd G p c T))) ++ (QWd G q d p Z)) (by simp only [List.append_assoc]) ?_
    refine v_callVN (pc := 41) (st := []) (q0 := 0) (wr := (CWd G o a RP RQ RU S ++ (KWd G (a 5) f u_21 ++ (PWd G p c T)))) C (kX3_keep G q d p Z m (ans m) hm) ykX3_keep cvX3_keep nw_35 dX4_answerBy_41 rfl rfl rfl rfl rfl (by decide) (Nat.le_of_ble_eq_true rfl) (by decide) rfl (Rv_kk (fun u_41 h_41 => ?_))
    rw [h_41]
    refine V.same (ws' := (CWd G o a RP RQ RU S ++ (KWd G (a 5) f u_21 ++ (PWd G p c T ++ (QWd G q d p (sL (sA Z 4 (upd (mA Z 4) m (ans m))) (vp_updL (mL Z) 5 (mL Z 5 ||| (1 : Int64) <<< ((nI m).toInt64 &&& 63))))))))) (by simp only [List.append_assoc]) ?_
    refine v_aload_n (pc := 44) C dX4_answerBy_44 rfl ?_
    refine v_getN (pc := 45) (v := .ref (d 4)) C inX3 22 rfl rfl 4 (by decide) nw_31 rfl dX4_answerBy_45 ?_
    refine v_iload_n (pc := 48) C dX4_answerBy_48 rfl ?_
    refine v_ialdN (pc := 49) (i := (m)) (f := (upd (mA Z 4) m (ans m))) C 23 rfl (by omega) (by decide) dX4_answerBy_49 ?_
    subst hQ
    exact v_iret (pc := 50) C dX4_answerBy_50 (rfl) ((S, u_21, (sL (sA Z 4 (upd (mA Z 4) m (ans m))) (vp_updL (mL Z) 5 (mL Z 5 ||| (1 : Int64) <<< ((nI m).toInt64 &&& 63)))))) rfl (⟨pk_us, rfl, QOK_keep hη hm⟩)
  · refine v_if_neT (pc := 5) (tgt := 44) C (by decide) dX4_answerBy_5 (by decide) ?_
    refine v_aload_n (pc := 44) C dX4_answerBy_44 rfl ?_
    refine v_getN (pc := 45) (v := .ref (d 4)) C inX3 22 rfl rfl 4 (by decide) nw_31 rfl dX4_answerBy_45 ?_
    refine v_iload_n (pc := 48) C dX4_answerBy_48 rfl ?_
    refine v_ialdN (pc := 49) (i := (m)) (f := (mA Z 4)) C 23 rfl (by omega) (by decide) dX4_answerBy_49 ?_
    subst hQ
    exact v_iret (pc := 50) C dX4_answerBy_50 (rfl) ((S, K, Z)) rfl (⟨hkn m hm q_2, rfl, hη⟩)
def rmX4_listChoices : Room := { frames := 4, cells := 0, slots := 0, locals := 94 }
set_option maxHeartbeats 4000000 in
set_option maxRecDepth 100000 in
theorem kX4_listChoices (G : TG) (o p q : Nat) (a φ c d : Nat → Nat) (RP RQ RU : Nat → Option Nat) (S K T Z : MS) (ans : Nat → Int32) (ζ : MS) (hη : QOK ans ζ T Z) : CT G yX4_listChoices cX4_listChoices 5 (some .int) rmX4_listChoices 0 0 [.ref (o), .ref (q)] (CWd G o a RP RQ RU S ++ (KWd G (a 5) φ K ++ (PWd G p c T ++ (QWd G q d p Z)))) (fun u : MS × MS × MS => CWd G o a RP RQ RU u.1 ++ (KWd G (a 5) φ u.2.1 ++ (PWd G p c T ++ QWd G q d p u.2.2))) (Ri (fun r u => r = nI (chF ans 7).length ∧ (∃ t s, u.1 = sA (sA S 7 t) 8 s ∧ ∀ y w, (chF ans 7)[y]? = some w → t y = w.1 ∧ s y = w.2) ∧ QOK ans ζ T u.2.2)) := by
  refine CT.enter (by decide) (Nat.le_of_ble_eq_true rfl) (fun X C hnm => ?_)
  refine V.less [(0, .ref (o)), (1, .ref (q))] ⟨rfl, rfl, trivial⟩ ?_
  generalize hQ : (QX G X (fun u : MS × MS × MS => CWd G o a RP RQ RU u.1 ++ (KWd G (a 5) φ u.2.1 ++ (PWd G p c T ++ QWd G q d p u.2.2))) (Ri (fun r u => r = nI (chF ans 7).length ∧ (∃ t s, u.1 = sA (sA S 7 t) 8 s ∧ ∀ y w, (chF ans 7)[y]? = some w → t y = w.1 ∧ s y = w.2) ∧ QOK ans ζ T u.2.2)) 0 0) = Qq
  refine v_iconst (pc := 0) (v := 0) C dX4_listChoices_0 (by decide) ?_
  refine v_istore_n (pc := 1) C dX4_listChoices_1 (by decide) ?_
  refine v_iconst (pc := 2) (v := 0) C dX4_listChoices_2 (by decide) ?_
  refine v_istore_n (pc := 3) C dX4_listChoices_3 (by decide) ?_
  have L4 : ∀ (fu : Nat) (i : Nat) (f : Nat) (t : Nat → Int32) (s : Nat → Int32) (K1 : MS) (Z1 : MS), (7 < i + fu) → (i ≤ 7) → (f = (chF ans i).length) → (∀ y w, (chF ans i)[y]? = some w → t y = w.1 ∧ s y = w.2) → (QOK ans ζ T Z1) → V G X cX4_listChoices 5 rmX4_listChoices Qq 0 0 4 (lvo [(0, .ref (o)), (1, .ref (q)), (2, .int (nI (f))), (3, .int (nI (i)))]) [] (CWd G o a RP RQ RU (sA (sA S 7 t) 8 s) ++ (KWd G (a 5) φ K1 ++ (PWd G p c T ++ (QWd G q d p Z1)))) := by
    intro fu
    induction fu with
    | zero => intro i f t s K1 Z1 hφ hi hfl hs hQ1; exfalso; omega
    | succ fu ih4 =>
      intro i f t s K1 Z1 hφ hi hfl hs hQ1
      have hle := chF_len (ans := ans) i
      refine v_iload_n (pc := 4) C dX4_listChoices_4 rfl ?_
      refine v_bipush (pc := 5) (v := 7) C dX4_listChoices_5 (by decide) ?_
      refine v_icmp_geN (pc := 7) (tgt := 58) C (i) 7 rfl rfl (by omega) (by omega) dX4_listChoices_7 (by decide) (fun c_7 => ?_) (fun c_7 => ?_)
      · have hi7 : i = 7 := by omega
        subst hi7
        refine v_iload_n (pc := 58) C dX4_listChoices_58 rfl ?_
        subst hQ
        exact v_iret (pc := 59) C dX4_listChoices_59 (rfl) (((sA (sA S 7 t) 8 s), K1, Z1)) rfl (⟨by rw [hfl], ⟨t, s, rfl, hs⟩, hQ1⟩)
      · refine v_aload_n (pc := 10) C dX4_listChoices_10 rfl ?_
        refine v_aload_n (pc := 11) C dX4_listChoices_11 rfl ?_
        refine v_iload_n (pc := 12) C dX4_listChoices_12 rfl ?_
        refine v_callS0 (pc := 13) (st := [.ref (q), .ref (o)]) C (kX4_singleMachine G _ i (by omega)) ykX4_singleMachine kw2_121 kw2_120 dX4_listChoices_13 rfl rfl rfl (by decide) (Nat.le_of_ble_eq_true rfl) (by decide) rfl (Ri_kk (fun r_13 u_13 h_13 => ?_))
        subst h_13
        have hsm_13 := smN_lt i (by omega)
        refine v_callV0 (pc := 16) (st := []) (q0 := 0) C (kX4_answerBy G o p q a φ c d RP RQ RU (sA (sA S 7 t) 8 s) K1 T Z1 ans ζ hQ1 (smN i) (by omega)) ykX4_answerBy cvX4_answerBy kw2_92 dX4_listChoices_16 rfl rfl rfl rfl rfl (by decide) (Nat.le_of_ble_eq_true rfl) (by decide) rfl (Ri_kk (fun r_16 u_16 h_16 => ?_))
        obtain ⟨er_16, eS_16, hQ_16⟩ := h_16
        subst er_16
        refine V.same (ws' := (CWd G o a RP RQ RU (sA (sA S 7 t) 8 s) ++ (KWd G (a 5) φ u_16.2.1 ++ (PWd G p c T ++ (QWd G q d p u_16.2.2))))) (by show CWd G o a RP RQ RU u_16.1 ++ _ = _; rw [eS_16]) ?_
        refine V.same (ws' := (CWd G o a RP RQ RU (sA (sA S 7 t) 8 s) ++ (KWd G (a 5) φ u_16.2.1 ++ (PWd G p c T ++ (QWd G q d p u_16.2.2))))) rfl ?_
        refine v_istore (pc := 19) C dX4_listChoices_19 (by decide) ?_
        refine v_aload_n (pc := 21) C dX4_listChoices_21 rfl ?_
        refine v_iload (pc := 22) C dX4_listChoices_22 rfl ?_
        refine v_iload_n (pc := 24) C dX4_listChoices_24 rfl ?_
        refine V.perm (ws' := (KWd G (a 5) φ u_16.2.1 ++ (PWd G p c T ++ (QWd G q d p u_16.2.2 ++ (CWd G o a RP RQ RU (sA (sA S 7 t) 8 s)))))) ((List.perm_append_comm).trans (List.Perm.of_eq (by simp only [List.append_assoc]))) ?_
        refine V.same (ws' := (KWd G (a 5) φ u_16.2.1 ++ (PWd G p c T ++ (QWd G q d p u_16.2.2))) ++ (CWd G o a RP RQ RU (sA (sA S 7 t) 8 s))) (by simp only [List.append_assoc]) ?_
        refine v_callV (pc := 25) (st := []) (q0 := 0) (wr := (KWd G (a 5) φ u_16.2.1 ++ (PWd G p c T ++ (QWd G q d p u_16.2.2)))) C (kX4_isListed G o a RP RQ RU (sA (sA S 7 t) 8 s) (ans (smN i)) f (by omega)) ykX4_isListed cvX4_isListed kw2_123 dX4_listChoices_25 rfl rfl rfl rfl rfl (by decide) (Nat.le_of_ble_eq_true rfl) (by decide) rfl (Ri_kk (fun r_25 u_25 h_25 => ?_))
        obtain ⟨e_25, h_25⟩ := h_25
        rw [e_25]
        refine V.same (ws' := (KWd G (a 5) φ u_16.2.1 ++ (PWd G p c T ++ (QWd G q d p u_16.2.2 ++ (CWd G o a RP RQ RU (sA (sA S 7 t) 8 s)))))) (by simp only [List.append_assoc]) ?_
        refine V.perm (ws' := (PWd G p c T ++ (QWd G q d p u_16.2.2 ++ (CWd G o a RP RQ RU (sA (sA S 7 t) 8 s) ++ (KWd G (a 5) φ u_16.2.1))))) ((List.perm_append_comm).trans (List.Perm.of_eq (by simp only [List.append_assoc]))) ?_
        refine V.perm (ws' := (QWd G q d p u_16.2.2 ++ (CWd G o a RP RQ RU (sA (sA S 7 t) 8 s) ++ (KWd G (a 5) φ u_16.2.1 ++ (PWd G p c T))))) ((List.perm_append_comm).trans (List.Perm.of_eq (by simp only [List.append_assoc]))) ?_
        refine V.perm (ws' := (CWd G o a RP RQ RU (sA (sA S 7 t) 8 s) ++ (KWd G (a 5) φ u_16.2.1 ++ (PWd G p c T ++ (QWd G q d p u_16.2.2))))) ((List.perm_append_comm).trans (List.Perm.of_eq (by simp only [List.append_assoc]))) ?_
        rcases h_25 with ⟨rfl, q_25⟩ | ⟨rfl, q_25⟩
        · refine v_if_neT (pc := 28) (tgt := 52) C (by decide) dX4_listChoices_28 (by decide) ?_
          refine v_iinc1 (pc := 52) C (i) rfl dX4_listChoices_52 rfl ?_
          refine v_goto (pc := 55) (tgt := 4) C dX4_listChoices_55 (by decide) ?_
          exact V.lessE (ih4  (((i) + 1)) ((f)) (t) (s) (u_16.2.1) (u_16.2.2) (by omega) (by omega) (by rw [chF_in ((chF_mem hfl hs).mp q_25)]; exact hfl) (by rw [chF_in ((chF_mem hfl hs).mp q_25)]; exact hs) (hQ_16)) ⟨rfl, rfl, rfl, rfl, trivial⟩
        · refine v_if_neF (pc := 28) (tgt := 52) C (by decide) dX4_listChoices_28 (by decide) ?_
          refine v_aload_n (pc := 31) C dX4_listChoices_31 rfl ?_
          refine v_get (pc := 32) (v := .ref (a 7)) C inX4 0 rfl rfl 7 (by decide) kw1_89 rfl dX4_listChoices_32 ?_
          refine v_iload_n (pc := 35) C dX4_listChoices_35 rfl ?_
          refine v_iload (pc := 36) C dX4_listChoices_36 rfl ?_
          refine v_iastN (pc := 38) (i := (f)) (f := t) C 5 rfl (by omega) (by decide) dX4_listChoices_38 (ws' := (CWd G o a RP RQ RU (sA (sA S 7 (upd (t) (f) (ans (smN i)))) 8 s) ++ (KWd G (a 5) φ u_16.2.1 ++ (PWd G p c T ++ (QWd G q d p u_16.2.2))))) rfl ?_
          refine v_aload_n (pc := 39) C dX4_listChoices_39 rfl ?_
          refine v_get (pc := 40) (v := .ref (a 8)) C inX4 0 rfl rfl 8 (by decide) kw1_90 rfl dX4_listChoices_40 ?_
          refine v_iload_n (pc := 43) C dX4_listChoices_43 rfl ?_
          refine v_iload_n (pc := 44) C dX4_listChoices_44 rfl ?_
          refine v_callS0 (pc := 45) (st := [.int (nI (f)), .ref (a 8)]) C (kX4_singleMachine G _ i (by omega)) ykX4_singleMachine kw2_121 kw2_120 dX4_listChoices_45 rfl rfl rfl (by decide) (Nat.le_of_ble_eq_true rfl) (by decide) rfl (Ri_kk (fun r_45 u_45 h_45 => ?_))
          subst h_45
          have hsm_45 := smN_lt i (by omega)
          refine v_iastN (pc := 48) (i := (f)) (f := s) C 6 rfl (by omega) (by decide) dX4_listChoices_48 (ws' := (CWd G o a RP RQ RU (sA (sA S 7 (upd (t) (f) (ans (smN i)))) 8 (upd (s) (f) (nI (smN i)))) ++ (KWd G (a 5) φ u_16.2.1 ++ (PWd G p c T ++ (QWd G q d p u_16.2.2))))) rfl ?_
          refine v_iinc1 (pc := 49) C (f) rfl dX4_listChoices_49 rfl ?_
          refine v_iinc1 (pc := 52) C (i) rfl dX4_listChoices_52 rfl ?_
          refine v_goto (pc := 55) (tgt := 4) C dX4_listChoices_55 (by decide) ?_
          exact V.lessE (ih4  (((i) + 1)) (((f) + 1)) ((upd (t) (f) (ans (smN i)))) ((upd (s) (f) (nI (smN i)))) (u_16.2.1) (u_16.2.2) (by omega) (by omega) (by rw [chF_out (fun z => q_25 ((chF_mem hfl hs).mpr z)), List.length_append, ← hfl]; rfl) (by rw [chF_out (fun z => q_25 ((chF_mem hfl hs).mpr z))]; exact ch_add hfl hs) (hQ_16)) ⟨rfl, rfl, rfl, rfl, trivial⟩
  exact V.lessE (L4 (8) (0) (0) ((mA S 7)) ((mA S 8)) (K) (Z) (by omega) (by omega) (rfl) (fun y w h => by cases h) (hη)) ⟨rfl, rfl, rfl, rfl, trivial⟩
