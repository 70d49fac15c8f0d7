/-! a run depends on its lines alone: not on what stands behind them, nor on rounds left over -/
theorem Mt_cong {O P : Nat → Int32} {n i e : Nat} (hO : ∀ k, k < n → O k = P k) (he : e < n) (h : Mt O i e) : Mt P i e := by
  have hd := dp_cong hO
  have h1 := h.1
  refine ⟨h.1, ?_, ?_, ?_, ?_⟩
  · rw [← hO i (by omega)]; exact h.2.1
  · rw [← hO e he]; exact h.2.2.1
  · rw [← hd (e + 1) he, ← hd i (by omega)]; exact h.2.2.2.1
  · intro j h2 h3
    rw [← hd j (by omega), ← hd i (by omega)]; exact h.2.2.2.2 j h2 h3
theorem st_sim_0 {O X Y P U Z : Nat → Int32} {mk : Int32} {n l : Nat} {v c r : Nat → Int32} {f g : Nat → Int64} (hok : okp O X Y n) (hO : ∀ k, k < n → O k = P k) (hX : ∀ k, k < n → X k = U k) (hY : ∀ k, k < n → Y k = Z k) (hl : l < n) (hf : ∀ k, act O k l → f k = g k) (ho : O l = 0) :
    (stS O X Y mk (l, v, c, r, f)).1 = (stS P U Z mk (l, v, c, r, g)).1 ∧ (stS O X Y mk (l, v, c, r, f)).2.1 = (stS P U Z mk (l, v, c, r, g)).2.1 ∧ (stS O X Y mk (l, v, c, r, f)).2.2.1 = (stS P U Z mk (l, v, c, r, g)).2.2.1 ∧ (stS O X Y mk (l, v, c, r, f)).2.2.2.1 = (stS P U Z mk (l, v, c, r, g)).2.2.2.1 ∧ ∀ k, act O k (stS O X Y mk (l, v, c, r, f)).1 → (stS O X Y mk (l, v, c, r, f)).2.2.2.2 k = (stS P U Z mk (l, v, c, r, g)).2.2.2.2 k := by
  obtain ⟨hn, hw, h0, hlines⟩ := hok
  have eO := hO l hl
  have eX := hX l hl
  have eY := hY l hl
  have nxt : O l ≠ 4 → ∀ k, act O k (l + 1) → f k = g k := by
    intro h4 k hk
    rcases act_next hk with q | q
    · subst q
      obtain ⟨e, a, b, -⟩ := hk
      exact absurd b h4
    · exact hf k q
  rw [st_0 (s := (l, v, c, r, f)) ho, st_0 (s := (l, v, c, r, g)) (show P l = 0 by rw [← eO]; exact ho)]
  exact ⟨rfl, by rw [eX, eY], rfl, rfl, nxt (by rw [ho]; decide)⟩
theorem st_sim_1 {O X Y P U Z : Nat → Int32} {mk : Int32} {n l : Nat} {v c r : Nat → Int32} {f g : Nat → Int64} (hok : okp O X Y n) (hO : ∀ k, k < n → O k = P k) (hX : ∀ k, k < n → X k = U k) (hY : ∀ k, k < n → Y k = Z k) (hl : l < n) (hf : ∀ k, act O k l → f k = g k) (ho : O l = 1) :
    (stS O X Y mk (l, v, c, r, f)).1 = (stS P U Z mk (l, v, c, r, g)).1 ∧ (stS O X Y mk (l, v, c, r, f)).2.1 = (stS P U Z mk (l, v, c, r, g)).2.1 ∧ (stS O X Y mk (l, v, c, r, f)).2.2.1 = (stS P U Z mk (l, v, c, r, g)).2.2.1 ∧ (stS O X Y mk (l, v, c, r, f)).2.2.2.1 = (stS P U Z mk (l, v, c, r, g)).2.2.2.1 ∧ ∀ k, act O k (stS O X Y mk (l, v, c, r, f)).1 → (stS O X Y mk (l, v, c, r, f)).2.2.2.2 k = (stS P U Z mk (l, v, c, r, g)).2.2.2.2 k := by
  obtain ⟨hn, hw, h0, hlines⟩ := hok
  have eO := hO l hl
  have eX := hX l hl
  have eY := hY l hl
  have nxt : O l ≠ 4 → ∀ k, act O k (l + 1) → f k = g k := by
    intro h4 k hk
    rcases act_next hk with q | q
    · subst q
      obtain ⟨e, a, b, -⟩ := hk
      exact absurd b h4
    · exact hf k q
  rw [st_1 (s := (l, v, c, r, f)) ho, st_1 (s := (l, v, c, r, g)) (show P l = 1 by rw [← eO]; exact ho)]
  exact ⟨rfl, by rw [eX, eY], rfl, rfl, nxt (by rw [ho]; decide)⟩
theorem st_sim_2 {O X Y P U Z : Nat → Int32} {mk : Int32} {n l : Nat} {v c r : Nat → Int32} {f g : Nat → Int64} (hok : okp O X Y n) (hO : ∀ k, k < n → O k = P k) (hX : ∀ k, k < n → X k = U k) (hY : ∀ k, k < n → Y k = Z k) (hl : l < n) (hf : ∀ k, act O k l → f k = g k) (ho : O l = 2) :
    (stS O X Y mk (l, v, c, r, f)).1 = (stS P U Z mk (l, v, c, r, g)).1 ∧ (stS O X Y mk (l, v, c, r, f)).2.1 = (stS P U Z mk (l, v, c, r, g)).2.1 ∧ (stS O X Y mk (l, v, c, r, f)).2.2.1 = (stS P U Z mk (l, v, c, r, g)).2.2.1 ∧ (stS O X Y mk (l, v, c, r, f)).2.2.2.1 = (stS P U Z mk (l, v, c, r, g)).2.2.2.1 ∧ ∀ k, act O k (stS O X Y mk (l, v, c, r, f)).1 → (stS O X Y mk (l, v, c, r, f)).2.2.2.2 k = (stS P U Z mk (l, v, c, r, g)).2.2.2.2 k := by
  obtain ⟨hn, hw, h0, hlines⟩ := hok
  have eO := hO l hl
  have eX := hX l hl
  have eY := hY l hl
  have nxt : O l ≠ 4 → ∀ k, act O k (l + 1) → f k = g k := by
    intro h4 k hk
    rcases act_next hk with q | q
    · subst q
      obtain ⟨e, a, b, -⟩ := hk
      exact absurd b h4
    · exact hf k q
  rw [st_2 (s := (l, v, c, r, f)) ho, st_2 (s := (l, v, c, r, g)) (show P l = 2 by rw [← eO]; exact ho)]
  exact ⟨rfl, by rw [eX, eY], rfl, rfl, nxt (by rw [ho]; decide)⟩
theorem st_sim_3 {O X Y P U Z : Nat → Int32} {mk : Int32} {n l : Nat} {v c r : Nat → Int32} {f g : Nat → Int64} (hok : okp O X Y n) (hO : ∀ k, k < n → O k = P k) (hX : ∀ k, k < n → X k = U k) (hY : ∀ k, k < n → Y k = Z k) (hl : l < n) (hf : ∀ k, act O k l → f k = g k) (ho : O l = 3) :
    (stS O X Y mk (l, v, c, r, f)).1 = (stS P U Z mk (l, v, c, r, g)).1 ∧ (stS O X Y mk (l, v, c, r, f)).2.1 = (stS P U Z mk (l, v, c, r, g)).2.1 ∧ (stS O X Y mk (l, v, c, r, f)).2.2.1 = (stS P U Z mk (l, v, c, r, g)).2.2.1 ∧ (stS O X Y mk (l, v, c, r, f)).2.2.2.1 = (stS P U Z mk (l, v, c, r, g)).2.2.2.1 ∧ ∀ k, act O k (stS O X Y mk (l, v, c, r, f)).1 → (stS O X Y mk (l, v, c, r, f)).2.2.2.2 k = (stS P U Z mk (l, v, c, r, g)).2.2.2.2 k := by
  obtain ⟨hn, hw, h0, hlines⟩ := hok
  have eO := hO l hl
  have eX := hX l hl
  have eY := hY l hl
  have nxt : O l ≠ 4 → ∀ k, act O k (l + 1) → f k = g k := by
    intro h4 k hk
    rcases act_next hk with q | q
    · subst q
      obtain ⟨e, a, b, -⟩ := hk
      exact absurd b h4
    · exact hf k q
  rw [st_3 (s := (l, v, c, r, f)) ho, st_3 (s := (l, v, c, r, g)) (show P l = 3 by rw [← eO]; exact ho)]
  exact ⟨rfl, by rw [eX, eY], rfl, rfl, nxt (by rw [ho]; decide)⟩
theorem st_sim_4 {O X Y P U Z : Nat → Int32} {mk : Int32} {n l : Nat} {v c r : Nat → Int32} {f g : Nat → Int64} (hok : okp O X Y n) (hO : ∀ k, k < n → O k = P k) (hX : ∀ k, k < n → X k = U k) (hY : ∀ k, k < n → Y k = Z k) (hl : l < n) (hf : ∀ k, act O k l → f k = g k) (ho : O l = 4) :
    (stS O X Y mk (l, v, c, r, f)).1 = (stS P U Z mk (l, v, c, r, g)).1 ∧ (stS O X Y mk (l, v, c, r, f)).2.1 = (stS P U Z mk (l, v, c, r, g)).2.1 ∧ (stS O X Y mk (l, v, c, r, f)).2.2.1 = (stS P U Z mk (l, v, c, r, g)).2.2.1 ∧ (stS O X Y mk (l, v, c, r, f)).2.2.2.1 = (stS P U Z mk (l, v, c, r, g)).2.2.2.1 ∧ ∀ k, act O k (stS O X Y mk (l, v, c, r, f)).1 → (stS O X Y mk (l, v, c, r, f)).2.2.2.2 k = (stS P U Z mk (l, v, c, r, g)).2.2.2.2 k := by
  obtain ⟨hn, hw, h0, hlines⟩ := hok
  have eO := hO l hl
  have eX := hX l hl
  have eY := hY l hl
  have nxt : O l ≠ 4 → ∀ k, act O k (l + 1) → f k = g k := by
    intro h4 k hk
    rcases act_next hk with q | q
    · subst q
      obtain ⟨e, a, b, -⟩ := hk
      exact absurd b h4
    · exact hf k q
  obtain ⟨e, hm, he⟩ := mt_of_open hw h0 hl (Or.inl ho)
  rw [st_4 (s := (l, v, c, r, f)) ho, st_4 (s := (l, v, c, r, g)) (show P l = 4 by rw [← eO]; exact ho)]
  have e1 : mtf O l = e := hm.E
  have e2 : mtf P l = e := (Mt_cong hO he hm).E
  simp only [eX, e1, e2]
  refine ⟨trivial, trivial, trivial, trivial, fun k hk => ?_⟩
  by_cases q : k = l
  · subst q; simp [vp_updL]
  · simp only [vp_updL, q, if_false]
    by_cases z : 0 < (v (tn (U l))).toInt64
    · rw [if_pos z] at hk
      exact (act_next hk).elim (fun w => absurd w q) (hf k)
    · rw [if_neg z] at hk
      exact hf k (act_jump hm hk).2
theorem st_sim_5 {O X Y P U Z : Nat → Int32} {mk : Int32} {n l : Nat} {v c r : Nat → Int32} {f g : Nat → Int64} (hok : okp O X Y n) (hO : ∀ k, k < n → O k = P k) (hX : ∀ k, k < n → X k = U k) (hY : ∀ k, k < n → Y k = Z k) (hl : l < n) (hf : ∀ k, act O k l → f k = g k) (ho : O l = 5) :
    (stS O X Y mk (l, v, c, r, f)).1 = (stS P U Z mk (l, v, c, r, g)).1 ∧ (stS O X Y mk (l, v, c, r, f)).2.1 = (stS P U Z mk (l, v, c, r, g)).2.1 ∧ (stS O X Y mk (l, v, c, r, f)).2.2.1 = (stS P U Z mk (l, v, c, r, g)).2.2.1 ∧ (stS O X Y mk (l, v, c, r, f)).2.2.2.1 = (stS P U Z mk (l, v, c, r, g)).2.2.2.1 ∧ ∀ k, act O k (stS O X Y mk (l, v, c, r, f)).1 → (stS O X Y mk (l, v, c, r, f)).2.2.2.2 k = (stS P U Z mk (l, v, c, r, g)).2.2.2.2 k := by
  obtain ⟨hn, hw, h0, hlines⟩ := hok
  have eO := hO l hl
  have eX := hX l hl
  have eY := hY l hl
  have nxt : O l ≠ 4 → ∀ k, act O k (l + 1) → f k = g k := by
    intro h4 k hk
    rcases act_next hk with q | q
    · subst q
      obtain ⟨e, a, b, -⟩ := hk
      exact absurd b h4
    · exact hf k q
  obtain ⟨e, hm, he⟩ := mt_of_open hw h0 hl (Or.inr ho)
  rw [st_5 (s := (l, v, c, r, f)) ho, st_5 (s := (l, v, c, r, g)) (show P l = 5 by rw [← eO]; exact ho)]
  have e1 : mtf O l = e := hm.E
  have e2 : mtf P l = e := (Mt_cong hO he hm).E
  simp only [eX, eY, e1, e2]
  refine ⟨trivial, trivial, trivial, trivial, fun k hk => ?_⟩
  by_cases z : v (tn (U l)) < v (tn (Z l)) ∨ (¬ mk &&& 8 = 0 ∧ v (tn (U l)) = v (tn (Z l)))
  · rw [if_pos z] at hk
    exact nxt (by rw [ho]; decide) k hk
  · rw [if_neg z] at hk
    exact hf k (act_jump hm hk).2
theorem st_sim_6 {O X Y P U Z : Nat → Int32} {mk : Int32} {n l : Nat} {v c r : Nat → Int32} {f g : Nat → Int64} (hok : okp O X Y n) (hO : ∀ k, k < n → O k = P k) (hX : ∀ k, k < n → X k = U k) (hY : ∀ k, k < n → Y k = Z k) (hl : l < n) (hf : ∀ k, act O k l → f k = g k) (ho : O l = 6) :
    (stS O X Y mk (l, v, c, r, f)).1 = (stS P U Z mk (l, v, c, r, g)).1 ∧ (stS O X Y mk (l, v, c, r, f)).2.1 = (stS P U Z mk (l, v, c, r, g)).2.1 ∧ (stS O X Y mk (l, v, c, r, f)).2.2.1 = (stS P U Z mk (l, v, c, r, g)).2.2.1 ∧ (stS O X Y mk (l, v, c, r, f)).2.2.2.1 = (stS P U Z mk (l, v, c, r, g)).2.2.2.1 ∧ ∀ k, act O k (stS O X Y mk (l, v, c, r, f)).1 → (stS O X Y mk (l, v, c, r, f)).2.2.2.2 k = (stS P U Z mk (l, v, c, r, g)).2.2.2.2 k := by
  obtain ⟨hn, hw, h0, hlines⟩ := hok
  have eO := hO l hl
  have eX := hX l hl
  have eY := hY l hl
  have nxt : O l ≠ 4 → ∀ k, act O k (l + 1) → f k = g k := by
    intro h4 k hk
    rcases act_next hk with q | q
    · subst q
      obtain ⟨e, a, b, -⟩ := hk
      exact absurd b h4
    · exact hf k q
  obtain ⟨i, hm⟩ := mt_of_end ho (hw l hl ho)
  have hi : i < n := Nat.lt_trans hm.1 hl
  rw [st_6 (s := (l, v, c, r, f)) ho, st_6 (s := (l, v, c, r, g)) (show P l = 6 by rw [← eO]; exact ho)]
  have e1 : mtf O l = i := hm.I
  have e2 : mtf P l = i := (Mt_cong hO hl hm).I
  simp only [e1, e2, ← hO i hi]
  by_cases h5 : O i = 5
  · simp only [h5, if_true]
    exact ⟨trivial, trivial, trivial, trivial, nxt (by rw [ho]; decide)⟩
  · simp only [h5, if_false]
    have h4 : O i = 4 := hm.2.1.elim id (fun z => absurd z h5)
    have ei : f i = g i := hf i ⟨l, hm, h4, hm.1, Nat.le_refl l⟩
    simp only [ei]
    refine ⟨trivial, trivial, trivial, trivial, fun k hk => ?_⟩
    by_cases q : k = i
    · subst q; simp [vp_updL]
    · simp only [vp_updL, q, if_false]
      by_cases z : 0 < g i - 1
      · rw [if_pos z] at hk
        exact (act_back hm hk).elim (fun w => absurd w q) (hf k)
      · rw [if_neg z] at hk
        exact nxt (by rw [ho]; decide) k hk
theorem st_sim_7 {O X Y P U Z : Nat → Int32} {mk : Int32} {n l : Nat} {v c r : Nat → Int32} {f g : Nat → Int64} (hok : okp O X Y n) (hO : ∀ k, k < n → O k = P k) (hX : ∀ k, k < n → X k = U k) (hY : ∀ k, k < n → Y k = Z k) (hl : l < n) (hf : ∀ k, act O k l → f k = g k) (ho : O l = 7) :
    (stS O X Y mk (l, v, c, r, f)).1 = (stS P U Z mk (l, v, c, r, g)).1 ∧ (stS O X Y mk (l, v, c, r, f)).2.1 = (stS P U Z mk (l, v, c, r, g)).2.1 ∧ (stS O X Y mk (l, v, c, r, f)).2.2.1 = (stS P U Z mk (l, v, c, r, g)).2.2.1 ∧ (stS O X Y mk (l, v, c, r, f)).2.2.2.1 = (stS P U Z mk (l, v, c, r, g)).2.2.2.1 ∧ ∀ k, act O k (stS O X Y mk (l, v, c, r, f)).1 → (stS O X Y mk (l, v, c, r, f)).2.2.2.2 k = (stS P U Z mk (l, v, c, r, g)).2.2.2.2 k := by
  obtain ⟨hn, hw, h0, hlines⟩ := hok
  have eO := hO l hl
  have eX := hX l hl
  have eY := hY l hl
  have nxt : O l ≠ 4 → ∀ k, act O k (l + 1) → f k = g k := by
    intro h4 k hk
    rcases act_next hk with q | q
    · subst q
      obtain ⟨e, a, b, -⟩ := hk
      exact absurd b h4
    · exact hf k q
  rw [st_7 (s := (l, v, c, r, f)) ho, st_7 (s := (l, v, c, r, g)) (show P l = 7 by rw [← eO]; exact ho)]
  simp only [eX, eY]
  exact ⟨trivial, trivial, trivial, trivial, nxt (by rw [ho]; decide)⟩
theorem st_sim_8 {O X Y P U Z : Nat → Int32} {mk : Int32} {n l : Nat} {v c r : Nat → Int32} {f g : Nat → Int64} (hok : okp O X Y n) (hO : ∀ k, k < n → O k = P k) (hX : ∀ k, k < n → X k = U k) (hY : ∀ k, k < n → Y k = Z k) (hl : l < n) (hf : ∀ k, act O k l → f k = g k) (ho : O l = 8) :
    (stS O X Y mk (l, v, c, r, f)).1 = (stS P U Z mk (l, v, c, r, g)).1 ∧ (stS O X Y mk (l, v, c, r, f)).2.1 = (stS P U Z mk (l, v, c, r, g)).2.1 ∧ (stS O X Y mk (l, v, c, r, f)).2.2.1 = (stS P U Z mk (l, v, c, r, g)).2.2.1 ∧ (stS O X Y mk (l, v, c, r, f)).2.2.2.1 = (stS P U Z mk (l, v, c, r, g)).2.2.2.1 ∧ ∀ k, act O k (stS O X Y mk (l, v, c, r, f)).1 → (stS O X Y mk (l, v, c, r, f)).2.2.2.2 k = (stS P U Z mk (l, v, c, r, g)).2.2.2.2 k := by
  obtain ⟨hn, hw, h0, hlines⟩ := hok
  have eO := hO l hl
  have eX := hX l hl
  have eY := hY l hl
  have nxt : O l ≠ 4 → ∀ k, act O k (l + 1) → f k = g k := by
    intro h4 k hk
    rcases act_next hk with q | q
    · subst q
      obtain ⟨e, a, b, -⟩ := hk
      exact absurd b h4
    · exact hf k q
  rw [st_8 (s := (l, v, c, r, f)) ho, st_8 (s := (l, v, c, r, g)) (show P l = 8 by rw [← eO]; exact ho)]
  simp only [eX, eY]
  exact ⟨trivial, trivial, trivial, trivial, nxt (by rw [ho]; decide)⟩
theorem st_sim_9 {O X Y P U Z : Nat → Int32} {mk : Int32} {n l : Nat} {v c r : Nat → Int32} {f g : Nat → Int64} (hok : okp O X Y n) (hO : ∀ k, k < n → O k = P k) (hX : ∀ k, k < n → X k = U k) (hY : ∀ k, k < n → Y k = Z k) (hl : l < n) (hf : ∀ k, act O k l → f k = g k) (ho : O l = 9) :
    (stS O X Y mk (l, v, c, r, f)).1 = (stS P U Z mk (l, v, c, r, g)).1 ∧ (stS O X Y mk (l, v, c, r, f)).2.1 = (stS P U Z mk (l, v, c, r, g)).2.1 ∧ (stS O X Y mk (l, v, c, r, f)).2.2.1 = (stS P U Z mk (l, v, c, r, g)).2.2.1 ∧ (stS O X Y mk (l, v, c, r, f)).2.2.2.1 = (stS P U Z mk (l, v, c, r, g)).2.2.2.1 ∧ ∀ k, act O k (stS O X Y mk (l, v, c, r, f)).1 → (stS O X Y mk (l, v, c, r, f)).2.2.2.2 k = (stS P U Z mk (l, v, c, r, g)).2.2.2.2 k := by
  obtain ⟨hn, hw, h0, hlines⟩ := hok
  have eO := hO l hl
  have eX := hX l hl
  have eY := hY l hl
  have nxt : O l ≠ 4 → ∀ k, act O k (l + 1) → f k = g k := by
    intro h4 k hk
    rcases act_next hk with q | q
    · subst q
      obtain ⟨e, a, b, -⟩ := hk
      exact absurd b h4
    · exact hf k q
  rw [st_9 (s := (l, v, c, r, f)) ho, st_9 (s := (l, v, c, r, g)) (show P l = 9 by rw [← eO]; exact ho)]
  by_cases h1 : mk &&& 1 = 0
  · simp only [h1, if_true]
    exact ⟨trivial, trivial, trivial, by rw [eX, eY], nxt (by rw [ho]; decide)⟩
  · simp only [h1, if_false]
    exact ⟨trivial, trivial, by rw [eX, eY], by rw [eX, eY], nxt (by rw [ho]; decide)⟩
theorem st_sim {O X Y P U Z : Nat → Int32} {mk : Int32} {n l : Nat} {v c r : Nat → Int32} {f g : Nat → Int64} (hok : okp O X Y n) (hO : ∀ k, k < n → O k = P k) (hX : ∀ k, k < n → X k = U k) (hY : ∀ k, k < n → Y k = Z k) (hl : l < n) (hf : ∀ k, act O k l → f k = g k) :
    (stS O X Y mk (l, v, c, r, f)).1 = (stS P U Z mk (l, v, c, r, g)).1 ∧ (stS O X Y mk (l, v, c, r, f)).2.1 = (stS P U Z mk (l, v, c, r, g)).2.1 ∧ (stS O X Y mk (l, v, c, r, f)).2.2.1 = (stS P U Z mk (l, v, c, r, g)).2.2.1 ∧ (stS O X Y mk (l, v, c, r, f)).2.2.2.1 = (stS P U Z mk (l, v, c, r, g)).2.2.2.1 ∧ ∀ k, act O k (stS O X Y mk (l, v, c, r, f)).1 → (stS O X Y mk (l, v, c, r, f)).2.2.2.2 k = (stS P U Z mk (l, v, c, r, g)).2.2.2.2 k := by
  rcases hok.2.2.2 l hl with ⟨ho, -⟩ | ⟨ho, -⟩ | ⟨ho, -⟩ | ⟨ho, -⟩ | ⟨ho, -⟩ | ⟨ho, -⟩ | ho | ⟨ho, -⟩ | ⟨ho, -⟩ | ⟨ho, -⟩
  · exact st_sim_0 hok hO hX hY hl hf ho
  · exact st_sim_1 hok hO hX hY hl hf ho
  · exact st_sim_2 hok hO hX hY hl hf ho
  · exact st_sim_3 hok hO hX hY hl hf ho
  · exact st_sim_4 hok hO hX hY hl hf ho
  · exact st_sim_5 hok hO hX hY hl hf ho
  · exact st_sim_6 hok hO hX hY hl hf ho
  · exact st_sim_7 hok hO hX hY hl hf ho
  · exact st_sim_8 hok hO hX hY hl hf ho
  · exact st_sim_9 hok hO hX hY hl hf ho
/-- two runs' ends, but for the rounds left -/
def eqx (r q : Nat × (Nat → Int32) × RS) : Prop := r.1 = q.1 ∧ r.2.1 = q.2.1 ∧ r.2.2.1 = q.2.2.1 ∧ r.2.2.2.1 = q.2.2.2.1 ∧ r.2.2.2.2.1 = q.2.2.2.2.1 ∧ r.2.2.2.2.2.1 = q.2.2.2.2.2.1
theorem rn_sim {O X Y P U Z : Nat → Int32} {mk : Int32} {n : Nat} (hok : okp O X Y n) (hO : ∀ k, k < n → O k = P k) (hX : ∀ k, k < n → X k = U k) (hY : ∀ k, k < n → Y k = Z k) : ∀ (fu : Nat) (t : Nat → Int32) (s s' : RS), s.1 = s'.1 → s.2.1 = s'.2.1 → s.2.2.1 = s'.2.2.1 → s.2.2.2.1 = s'.2.2.2.1 → (∀ k, act O k s.1 → s.2.2.2.2 k = s'.2.2.2.2 k) → eqx (rnS O X Y n mk fu t s) (rnS P U Z n mk fu t s') := by
  intro fu
  induction fu with
  | zero =>
    intro t s s' h1 h2 h3 h4 h5
    exact ⟨rfl, rfl, h1, h2, h3, h4⟩
  | succ fu ih =>
    intro t s s' h1 h2 h3 h4 h5
    obtain ⟨l, v, c, r, f⟩ := s
    obtain ⟨l', v', c', r', g⟩ := s'
    simp only at h1 h2 h3 h4
    subst h1; subst h2; subst h3; subst h4
    by_cases hl : l < n
    · rw [rnS_step (s := (l, v, c, r, f)) hl, rnS_step (s := (l, v, c, r, g)) hl]
      obtain ⟨a1, a2, a3, a4, a5⟩ := st_sim (mk := mk) (v := v) (c := c) (r := r) hok hO hX hY hl h5
      obtain ⟨b1, b2, b3, b4, b5, b6⟩ := ih (upd t l (t l + 1)) _ _ a1 a2 a3 a4 a5
      exact ⟨by simp only [b1], b2, b3, b4, b5, b6⟩
    · rw [rnS_stop (s := (l, v, c, r, f)) hl, rnS_stop (s := (l, v, c, r, g)) hl]
      exact ⟨rfl, rfl, rfl, rfl, rfl, rfl⟩
theorem act_0 {f : Nat → Int32} {k : Nat} (h : act f k 0) : False := by obtain ⟨e, -, -, h, -⟩ := h; omega
theorem rnR_sim {O X Y P U Z : Nat → Int32} {mk inp : Int32} {n : Nat} (lf lf2 : Nat → Int64) (hok : okp O X Y n) (hO : ∀ k, k < n → O k = P k) (hX : ∀ k, k < n → X k = U k) (hY : ∀ k, k < n → Y k = Z k) : eqx (rnR O X Y n mk inp lf) (rnR P U Z n mk inp lf2) :=
  rn_sim hok hO hX hY 300 c0 _ _ rfl rfl rfl rfl (fun _ h => (act_0 h).elim)
