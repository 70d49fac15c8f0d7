/-! what always holds is kept by every call -/
theorem inw_ix {v : Int32} {n : Nat} (h : inw v 0 (nI n) = true) : ∃ j, j < n + 1 ∧ v = nI j := by
  refine wN (fun z => ?_)
  rw [inw_f z] at h
  exact absurd h (by decide)
theorem mayB_okl {c x y : Int32} (h : ¬ mayB c x y = false) : okl c x y := by
  have h : mayB c x y = true := by
    rcases Bool.eq_false_or_eq_true (mayB c x y) with z | z
    · exact z
    · exact absurd z h
  unfold mayB at h
  by_cases e0 : c = 0
  · rw [if_pos e0, Bool.and_eq_true] at h
    exact Or.inl ⟨e0, inw_ix (n := 3) h.1⟩
  rw [if_neg e0] at h
  by_cases e1 : c = 1
  · rw [if_pos e1, Bool.and_eq_true] at h
    exact Or.inr (Or.inl ⟨e1, inw_ix (n := 3) h.1, inw_ix (n := 3) h.2⟩)
  rw [if_neg e1] at h
  by_cases e2 : c = 2
  · rw [if_pos e2, Bool.and_eq_true] at h
    exact Or.inr (Or.inr (Or.inl ⟨e2, inw_ix (n := 3) h.1, inw_ix (n := 3) h.2⟩))
  rw [if_neg e2] at h
  by_cases e3 : c = 3
  · rw [if_pos e3, Bool.and_eq_true] at h
    exact Or.inr (Or.inr (Or.inr (Or.inl ⟨e3, inw_ix (n := 3) h.1, inw_ix (n := 3) h.2⟩)))
  rw [if_neg e3] at h
  by_cases e4 : c = 4
  · rw [if_pos e4, Bool.and_eq_true] at h
    exact Or.inr (Or.inr (Or.inr (Or.inr (Or.inl ⟨e4, inw_ix (n := 3) h.1⟩))))
  rw [if_neg e4] at h
  by_cases e5 : c = 5
  · rw [if_pos e5, Bool.and_eq_true] at h
    exact Or.inr (Or.inr (Or.inr (Or.inr (Or.inr (Or.inl ⟨e5, inw_ix (n := 3) h.1, inw_ix (n := 3) h.2⟩)))))
  rw [if_neg e5] at h
  by_cases e6 : c = 6
  · exact Or.inr (Or.inr (Or.inr (Or.inr (Or.inr (Or.inr (Or.inl e6))))))
  rw [if_neg e6] at h
  by_cases e7 : c = 7
  · rw [if_pos e7, Bool.and_eq_true] at h
    exact Or.inr (Or.inr (Or.inr (Or.inr (Or.inr (Or.inr (Or.inr (Or.inl ⟨e7, inw_ix (n := 7) h.1, inw_ix (n := 3) h.2⟩)))))))
  rw [if_neg e7] at h
  by_cases e8 : c = 8
  · rw [if_pos e8, Bool.and_eq_true] at h
    exact Or.inr (Or.inr (Or.inr (Or.inr (Or.inr (Or.inr (Or.inr (Or.inr (Or.inl ⟨e8, inw_ix (n := 3) h.1, inw_ix (n := 7) h.2⟩))))))))
  rw [if_neg e8] at h
  by_cases e9 : c = 9
  · rw [if_pos e9, Bool.and_eq_true] at h
    exact Or.inr (Or.inr (Or.inr (Or.inr (Or.inr (Or.inr (Or.inr (Or.inr (Or.inr ⟨e9, inw_ix (n := 1) h.1, inw_ix (n := 1) h.2⟩))))))))
  rw [if_neg e9] at h
  exact absurd h (by decide)
theorem inv_program {A : AS} (h : AInv A) : AInv (s_program A).2 := by
  unfold s_program
  by_cases q : aNp A = 10
  · rw [if_pos q]; exact h
  · rw [if_neg q]
    have h1 := h.1
    refine ⟨show aNp A + 1 ≤ 10 by omega, h.2.1, fun p hp => h.2.2.1 p (by have hp : aNp A + 1 ≤ p := hp; omega), fun p hp => ?_, h.2.2.2.2.1, fun j hj => ?_, h.2.2.2.2.2.2⟩
    · have hp : p < aNp A + 1 := hp
      rcases Nat.lt_or_ge p (aNp A) with z | z
      · exact h.2.2.2.1 p z
      · have e : aN A p = 0 := h.2.2.1 p z
        show wfd (aO A p) (aN A p) ∧ ∀ k, k < aN A p → okl (aO A p k) (aX A p k) (aY A p k)
        rw [e]
        exact ⟨fun k hk => absurd hk (Nat.not_lt_zero k), fun k hk => absurd hk (Nat.not_lt_zero k)⟩
    · have := h.2.2.2.2.2.1 j hj
      exact ⟨show aQp A j < aNp A + 1 by omega, this.2⟩
theorem inv_addL {A : AS} {j : Nat} {c x y : Int32} (h : AInv A) (hj : j < aNp A) (hm : ¬ mayB c x y = false) (ha : ¬ askedA A j = true) (h6 : ¬ (c = 6 ∧ dp (aO A j) (aN A j) = 0)) (hn : ¬ aN A j = 20) : AInv (addL A j c x y) := by
  have hq : ∀ q, q < aNq A → aQp A q ≠ j := fun q hq z => ha (asked_t hq z)
  refine ⟨h.1, fun p => ?_, fun p hp => ?_, fun p hp => ?_, h.2.2.2.2.1, fun q hq2 => ?_, h.2.2.2.2.2.2⟩
  · have := h.2.1 p
    by_cases e : p = j
    · subst e; rw [aL_N]; omega
    · rw [(aL_ne e).2.2.2]; exact this
  · have hp : aNp A ≤ p := hp
    rw [(aL_ne (show p ≠ j by omega)).2.2.2]
    exact h.2.2.1 p hp
  · by_cases e : p = j
    · subst e
      rw [aL_O, aL_X, aL_Y, aL_N]
      obtain ⟨g1, g2⟩ := h.2.2.2.1 p hj
      refine ⟨fun k hk hk6 => ?_, fun k hk => ?_⟩
      · rw [ap_dp k (by omega)]
        by_cases e : k = aN A p
        · subst e
          rw [pk_us] at hk6
          rcases Nat.eq_zero_or_pos (dp (aO A p) (aN A p)) with z | z
          · exact absurd ⟨hk6, z⟩ h6
          · exact z
        · rw [pk_un e] at hk6; exact g1 k (by omega) hk6
      · by_cases e : k = aN A p
        · subst e; rw [pk_us, pk_us, pk_us]; exact mayB_okl hm
        · rw [pk_un e, pk_un e, pk_un e]; exact g2 k (by omega)
    · rw [(aL_ne e).1, (aL_ne e).2.1, (aL_ne e).2.2.1, (aL_ne e).2.2.2]
      exact h.2.2.2.1 p hp
  · have e := hq q hq2
    have g := h.2.2.2.2.2.1 q hq2
    show aQp A q < aNp A ∧ dp (aO (addL A j c x y) (aQp A q)) (aN (addL A j c x y) (aQp A q)) = 0 ∧ aQi A q < 10 ∧ aQk A q < 3 ∧ (aQk A q = 0 → aQw A q < 4) ∧ (aQk A q = 1 → aQw A q < aN (addL A j c x y) (aQp A q)) ∧ (aQk A q = 2 → aQw A q < 8)
    rw [(aL_ne e).1, (aL_ne e).2.2.2]
    exact g
theorem ix_of {p : Int32} {n : Nat} (hn : n < 2 ^ 31) (h : ¬ (p < 0 ∨ nI n ≤ p)) : tn p < n := by
  obtain ⟨j, hj, e⟩ := ixN (fun z => h (Or.inl z)) (fun z => h (Or.inr z)) hn
  rw [e, tn_nI (by omega)]; exact hj
theorem inv_line {A : AS} {p c x y : Int32} (h : AInv A) : AInv (s_line A p c x y).2 := by
  have h10 := h.1
  unfold s_line
  by_cases q1 : p < 0 ∨ nI (aNp A) ≤ p
  · rw [if_pos q1]; exact h
  rw [if_neg q1]
  by_cases q2 : mayB c x y = false
  · rw [if_pos q2]; exact h
  rw [if_neg q2]
  by_cases q3 : askedA A (tn p) = true
  · rw [if_pos q3]; exact h
  rw [if_neg q3]
  by_cases q4 : c = 6 ∧ dp (aO A (tn p)) (aN A (tn p)) = 0
  · rw [if_pos q4]; exact h
  rw [if_neg q4]
  by_cases q5 : aN A (tn p) = 20
  · rw [if_pos q5]; exact h
  rw [if_neg q5]
  exact inv_addL h (ix_of (by omega) q1) q2 q3 q4 q5
theorem inv_run {A : AS} {p n m : Int32} (h : AInv A) : AInv (s_run A p n m).2 := by
  unfold s_run
  by_cases q1 : p < 0 ∨ nI (aNp A) ≤ p
  · rw [if_pos q1]; exact h
  rw [if_neg q1]
  by_cases q2 : n < 0 ∨ 9 < n
  · rw [if_pos q2]; exact h
  rw [if_neg q2]
  by_cases q3 : m < 0 ∨ 63 < m
  · rw [if_pos q3]; exact h
  rw [if_neg q3]
  by_cases q4 : dp (aO A (tn p)) (aN A (tn p)) = 0
  · rw [if_pos q4]; exact h
  · rw [if_neg q4]; exact h
theorem inv_addQ {A : AS} {j : Nat} {n k w : Int32} (h : AInv A) (hj : j < aNp A) (h0 : dp (aO A j) (aN A j) = 0) (hn : ¬ (n < 0 ∨ 9 < n)) (hk : ¬ (k < 0 ∨ 2 < k)) (hw : ¬ (w < 0 ∨ wlim A j k < w)) (h60 : ¬ aNq A = 60) : AInv (addQ A j n k w) := by
  have hq := h.2.2.2.2.1
  have hn20 := h.2.1 j
  refine ⟨h.1, h.2.1, h.2.2.1, h.2.2.2.1, show aNq A + 1 ≤ 60 by omega, fun q hq2 => ?_, h.2.2.2.2.2.2.1, h.2.2.2.2.2.2.2.1, fun u q g => show q < aNq A + 1 by have := h.2.2.2.2.2.2.2.2.1 u q g; omega, h.2.2.2.2.2.2.2.2.2⟩
  have hq2 : q < aNq A + 1 := hq2
  rcases Nat.lt_or_ge q (aNq A) with z | z
  · obtain ⟨e1, e2, e3, e4⟩ := aQ_old (A := A) (j := j) (n := n) (k := k) (w := w) z
    rw [e1, e2, e3, e4]
    exact h.2.2.2.2.2.1 q z
  · have ei : q = aNq A := by omega
    subst ei
    obtain ⟨e1, e2, e3, e4⟩ := aQ_new (A := A) (j := j) (n := n) (k := k) (w := w)
    rw [e1, e2, e3, e4]
    obtain ⟨x, hx, ex⟩ := wN (n := 9) hn
    obtain ⟨y, hy, ey⟩ := wN (n := 2) hk
    unfold wlim at hw
    subst ex
    subst ey
    rw [tn_nI (n := x) (by omega), tn_nI (n := y) (by omega)]
    refine ⟨hj, h0, hx, hy, fun g => ?_, fun g => ?_, fun g => ?_⟩
    · subst g
      rw [if_pos (show nI 0 = 0 from rfl)] at hw
      obtain ⟨v, hv, ev⟩ := wN (n := 3) hw
      rw [ev, tn_nI (by omega)]; exact hv
    · subst g
      rw [if_neg (by decide), if_pos (show nI 1 = 1 from rfl)] at hw
      have h3 : ¬ nI (aN A j) ≤ w := fun y => hw (Or.inr ((wl_1 hn20).mp y))
      obtain ⟨v, hv, ev⟩ := ixN (fun y => hw (Or.inl y)) h3 (by omega)
      rw [ev, tn_nI (by omega)]; exact hv
    · subst g
      rw [if_neg (by decide), if_neg (by decide)] at hw
      obtain ⟨v, hv, ev⟩ := wN (n := 7) hw
      rw [ev, tn_nI (by omega)]; exact hv
theorem inv_question {A : AS} {p n k w : Int32} (h : AInv A) : AInv (s_question A p n k w).2 := by
  have h10 := h.1
  unfold s_question
  by_cases q1 : p < 0 ∨ nI (aNp A) ≤ p
  · rw [if_pos q1]; exact h
  rw [if_neg q1]
  by_cases q2 : n < 0 ∨ 9 < n
  · rw [if_pos q2]; exact h
  rw [if_neg q2]
  by_cases q3 : k < 0 ∨ 2 < k
  · rw [if_pos q3]; exact h
  rw [if_neg q3]
  by_cases q4 : w < 0 ∨ wlim A (tn p) k < w
  · rw [if_pos q4]; exact h
  rw [if_neg q4]
  by_cases q5 : dp (aO A (tn p)) (aN A (tn p)) = 0
  · rw [if_neg (fun z => z q5)]
    by_cases q6 : (aRun A (tn p) 0 n).2.2.1 < aN A (tn p)
    · rw [if_pos q6]; exact h
    rw [if_neg q6]
    by_cases q7 : aNq A = 60
    · rw [if_pos q7]; exact h
    rw [if_neg q7]
    exact inv_addQ h (ix_of (by omega) q1) q5 q2 q3 q4 q7
  · rw [if_pos q5]; exact h
theorem inv_choices {A : AS} {q n : Int32} (h : AInv A) : AInv (s_choices A q n).2 := by
  unfold s_choices
  by_cases q1 : q < 0 ∨ nI (aNq A) ≤ q
  · rw [if_pos q1]; exact h
  rw [if_neg q1]
  by_cases q2 : n < 2 ∨ 6 < n
  · rw [if_pos q2]; exact h
  rw [if_neg q2]
  by_cases q3 : (chK A (tn q) 7).length < tn n
  · rw [if_pos q3]; exact h
  rw [if_neg q3]
  obtain ⟨ν, a, b, e⟩ := n26 q2
  refine ⟨h.1, h.2.1, h.2.2.1, h.2.2.2.1, h.2.2.2.2.1, h.2.2.2.2.2.1, ?_, h.2.2.2.2.2.2.2⟩
  show (List.take (tn n) (chK A (tn q) 7)).length ≤ 6
  rw [List.length_take, e, tn_nI (by omega)]
  omega
theorem inv_gap {A : AS} {p l : Int32} (h : AInv A) : AInv (s_gap A p l).2 := by
  unfold s_gap
  by_cases q1 : p < 0 ∨ nI (aNp A) ≤ p
  · rw [if_pos q1]; exact h
  rw [if_neg q1]
  by_cases q2 : l < 0
  · rw [if_pos q2]; exact h
  rw [if_neg q2]
  by_cases q3 : nI (aN A (tn p)) ≤ l
  · rw [if_pos q3]; exact h
  rw [if_neg q3]
  by_cases q4 : dp (aO A (tn p)) (aN A (tn p)) = 0
  · rw [if_neg (fun z => z q4)]
    by_cases q5 : aO A (tn p) (tn l) = 0
    · rw [if_neg (fun z => z q5)]; exact AInv_setF h (flK_len 19)
    · rw [if_pos q5]; exact h
  · rw [if_pos q4]; exact h
theorem inv_give {A : AS} {u q v : Int32} (h : AInv A) : AInv (s_give A u q v).2 := by
  have hq := h.2.2.2.2.1
  unfold s_give
  by_cases q1 : u < 0 ∨ nI 10 ≤ u
  · rw [if_pos q1]; exact h
  rw [if_neg q1]
  by_cases q2 : q < 0 ∨ nI (aNq A) ≤ q
  · rw [if_pos q2]; exact h
  rw [if_neg q2]
  refine ⟨h.1, h.2.1, h.2.2.1, h.2.2.2.1, h.2.2.2.2.1, h.2.2.2.2.2.1, h.2.2.2.2.2.2.1, h.2.2.2.2.2.2.2.1, fun x y g => ?_, h.2.2.2.2.2.2.2.2.2⟩
  have g : (if x = tn u ∧ y = tn q then some v else aG A x y) ≠ none := g
  by_cases e : x = tn u ∧ y = tn q
  · rw [e.2]; exact ix_of (n := aNq A) (by omega) q2
  · rw [if_neg e] at g; exact h.2.2.2.2.2.2.2.2.1 x y g
theorem inv_price {A : AS} {k v : Int32} (h : AInv A) : AInv (s_price A k v).2 := by
  unfold s_price
  by_cases q1 : k < 0 ∨ 6 < k
  · rw [if_pos q1]; exact h
  rw [if_neg q1]
  by_cases q2 : v < 1 ∨ 99 < v
  · rw [if_pos q2]; exact h
  rw [if_neg q2]
  obtain ⟨ν, a, b, e⟩ := w1N q2
  refine ⟨h.1, h.2.1, h.2.2.1, h.2.2.2.1, h.2.2.2.2.1, h.2.2.2.2.2.1, h.2.2.2.2.2.2.1, h.2.2.2.2.2.2.2.1, h.2.2.2.2.2.2.2.2.1, fun j hj => ?_⟩
  show 1 ≤ (if j = tn k then tn v else aP A j) ∧ (if j = tn k then tn v else aP A j) ≤ 99
  by_cases z : j = tn k
  · rw [if_pos z, e, tn_nI (by omega)]; exact ⟨a, b⟩
  · rw [if_neg z]; exact h.2.2.2.2.2.2.2.2.2 j hj
