/-! what a run is: depths, mates, one step, the whole run -/
def tn (x : Int32) : Nat := x.toNatClampNeg
theorem tn_nI {n : Nat} (h : n < 2 ^ 31) : tn (nI n) = n := nI_clamp h
/-- how many LOOPs and LESSes are open ahead of line k -/
def dp (f : Nat → Int32) : Nat → Nat
  | 0 => 0
  | k + 1 => if f k = 4 ∨ f k = 5 then dp f k + 1 else if f k = 6 then dp f k - 1 else dp f k
def wfd (f : Nat → Int32) (n : Nat) : Prop := ∀ k, k < n → f k = 6 → 0 < dp f k
theorem dp_le (f : Nat → Int32) : ∀ k, dp f k ≤ k
  | 0 => Nat.le_refl 0
  | k + 1 => by
    have ih := dp_le f k
    unfold dp
    split
    · omega
    · split <;> omega
theorem dp_open {f : Nat → Int32} {k : Nat} (h : f k = 4 ∨ f k = 5) : dp f (k + 1) = dp f k + 1 := by
  conv => lhs; unfold dp
  rw [if_pos h]
theorem dp_end {f : Nat → Int32} {k : Nat} (h : f k = 6) : dp f (k + 1) = dp f k - 1 := by
  conv => lhs; unfold dp
  rw [if_neg (by rw [h]; decide), if_pos h]
theorem dp_else {f : Nat → Int32} {k : Nat} (h : ¬ (f k = 4 ∨ f k = 5)) (h6 : ¬ f k = 6) : dp f (k + 1) = dp f k := by
  conv => lhs; unfold dp
  rw [if_neg h, if_neg h6]
theorem dp_step (f : Nat → Int32) (k : Nat) : ((f k = 4 ∨ f k = 5) ∧ dp f (k + 1) = dp f k + 1) ∨ (f k = 6 ∧ dp f (k + 1) = dp f k - 1) ∨ (¬ (f k = 4 ∨ f k = 5) ∧ ¬ f k = 6 ∧ dp f (k + 1) = dp f k) := by
  by_cases h : f k = 4 ∨ f k = 5
  · exact Or.inl ⟨h, dp_open h⟩
  · by_cases h6 : f k = 6
    · exact Or.inr (Or.inl ⟨h6, dp_end h6⟩)
    · exact Or.inr (Or.inr ⟨h, h6, dp_else h h6⟩)
theorem oaI_dp {f : Nat → Int32} {n : Nat} (hw : wfd f n) : ∀ k, k ≤ n → oaI f k = nI (dp f k) := by
  intro k
  induction k with
  | zero => intro _; rfl
  | succ k ih =>
    intro hk
    have e := ih (by omega)
    unfold oaI
    rw [e]
    by_cases h : f k = 4 ∨ f k = 5
    · rw [if_pos h, dp_open h]; exact nI_1 _
    · rw [if_neg h]
      by_cases h6 : f k = 6
      · rw [if_pos h6, dp_end h6]
        have := hw k (by omega) h6
        obtain ⟨d, hd⟩ : ∃ d, dp f k = d + 1 := ⟨dp f k - 1, by omega⟩
        rw [hd]; exact pk_m1 d
      · rw [if_neg h6, dp_else h h6]; exact Int32.add_zero _
theorem dp_cong {f g : Nat → Int32} : ∀ {n : Nat}, (∀ k, k < n → f k = g k) → ∀ k, k ≤ n → dp f k = dp g k := by
  intro n h k
  induction k with
  | zero => intro _; rfl
  | succ k ih =>
    intro hk
    unfold dp
    rw [ih (by omega), h k (by omega)]
/-- line e is the END of the LOOP or LESS at line i -/
def Mt (f : Nat → Int32) (i e : Nat) : Prop := i < e ∧ (f i = 4 ∨ f i = 5) ∧ f e = 6 ∧ dp f (e + 1) = dp f i ∧ ∀ j, i < j → j ≤ e → dp f i < dp f j
theorem Mt.uniqE {f : Nat → Int32} {i e e2 : Nat} (h : Mt f i e) (h2 : Mt f i e2) : e = e2 := by
  rcases Nat.lt_trichotomy e e2 with q | q | q
  · have := h2.2.2.2.2 (e + 1) (by have := h.1; omega) (by omega)
    have := h.2.2.2.1
    omega
  · exact q
  · have := h.2.2.2.2 (e2 + 1) (by have := h2.1; omega) (by omega)
    have := h2.2.2.2.1
    omega
theorem Mt.uniqI {f : Nat → Int32} {i i2 e : Nat} (h : Mt f i e) (h2 : Mt f i2 e) : i = i2 := by
  have e1 := h.2.2.2.1
  have e2 := h2.2.2.2.1
  rcases Nat.lt_trichotomy i i2 with q | q | q
  · have := h.2.2.2.2 i2 q (Nat.le_of_lt h2.1)
    omega
  · exact q
  · have := h2.2.2.2.2 i q (Nat.le_of_lt h.1)
    omega
theorem Mt.notBoth {f : Nat → Int32} {i j k : Nat} (h : Mt f k i) (h2 : Mt f j k) : False := by
  have a := h.2.1
  have b := h2.2.2.1
  rw [b] at a
  exact absurd a (by decide)
noncomputable def mtf (f : Nat → Int32) (k : Nat) : Nat := Classical.epsilon (fun j => Mt f k j ∨ Mt f j k)
theorem Mt.E {f : Nat → Int32} {i e : Nat} (h : Mt f i e) : mtf f i = e := by
  have := Classical.epsilon_spec (p := fun j => Mt f i j ∨ Mt f j i) ⟨e, Or.inl h⟩
  rcases this with q | q
  · exact q.uniqE h
  · exact (h.notBoth q).elim
theorem Mt.I {f : Nat → Int32} {i e : Nat} (h : Mt f i e) : mtf f e = i := by
  have := Classical.epsilon_spec (p := fun j => Mt f e j ∨ Mt f j e) ⟨i, Or.inr h⟩
  rcases this with q | q
  · exact (q.notBoth h).elim
  · exact q.uniqI h
theorem mt_of_open {f : Nat → Int32} {n i : Nat} (hw : wfd f n) (h0 : dp f n = 0) (hi : i < n) (ho : f i = 4 ∨ f i = 5) : ∃ e, Mt f i e ∧ e < n := by
  obtain ⟨j, ⟨hj1, hj2, hj3⟩, hmin⟩ := pk_least (fun j => i < j ∧ j ≤ n ∧ dp f j ≤ dp f i) ⟨n, hi, Nat.le_refl n, by omega⟩
  have h1 := dp_open ho
  have hj : i + 1 < j := by
    rcases Nat.lt_or_ge (i + 1) j with q | q
    · exact q
    · have : j = i + 1 := by omega
      subst this; omega
  obtain ⟨e, rfl⟩ : ∃ e, j = e + 1 := ⟨j - 1, by omega⟩
  have big : ∀ k, i < k → k ≤ e → dp f i < dp f k := by
    intro k hk1 hk2
    have := hmin k (by omega)
    rcases Nat.lt_or_ge (dp f i) (dp f k) with q | q
    · exact q
    · exact absurd ⟨hk1, by omega, q⟩ this
  have he := big e (by omega) (Nat.le_refl e)
  rcases dp_step f e with ⟨-, q⟩ | ⟨q6, q⟩ | ⟨-, -, q⟩
  · omega
  · exact ⟨e, ⟨by omega, ho, q6, by omega, big⟩, by omega⟩
  · omega
theorem mt_of_end {f : Nat → Int32} {e : Nat} (h6 : f e = 6) (hp : 0 < dp f e) : ∃ i, Mt f i e := by
  have key : ∀ m, m ≤ e → (∀ j, m < j → j ≤ e → dp f e - 1 < dp f j) → ∃ i, i ≤ m ∧ dp f i ≤ dp f e - 1 ∧ ∀ j, i < j → j ≤ e → dp f e - 1 < dp f j := by
    intro m
    induction m with
    | zero => intro _ h; exact ⟨0, Nat.le_refl 0, Nat.zero_le _, h⟩
    | succ m ih =>
      intro hm h
      rcases Nat.lt_or_ge (dp f e - 1) (dp f (m + 1)) with q | q
      · obtain ⟨i, a, b, c⟩ := ih (by omega) (fun j h1 h2 => by
          rcases Nat.lt_or_ge (m + 1) j with z | z
          · exact h j z h2
          · have : j = m + 1 := by omega
            subst this; exact q)
        exact ⟨i, by omega, b, c⟩
      · exact ⟨m + 1, Nat.le_refl _, q, h⟩
  obtain ⟨i, a, b, c⟩ := key e (Nat.le_refl e) (fun j h1 h2 => by omega)
  have hie : i < e := by
    rcases Nat.lt_or_ge i e with q | q
    · exact q
    · have : i = e := by omega
      subst this; omega
  have c1 := c (i + 1) (by omega) (by omega)
  have hd := dp_end h6
  rcases dp_step f i with ⟨qo, q⟩ | ⟨-, q⟩ | ⟨-, -, q⟩
  · exact ⟨i, hie, qo, h6, by omega, fun j h1 h2 => by have := c j h1 h2; omega⟩
  · omega
  · omega
/-- the LOOP at k is under way at line at -/
def act (f : Nat → Int32) (k l : Nat) : Prop := ∃ e, Mt f k e ∧ f k = 4 ∧ k < l ∧ l ≤ e
theorem act_next {f : Nat → Int32} {k l : Nat} (h : act f k (l + 1)) : k = l ∨ act f k l := by
  obtain ⟨e, a, b, c, d⟩ := h
  rcases Nat.lt_or_ge k l with q | q
  · exact Or.inr ⟨e, a, b, q, by omega⟩
  · exact Or.inl (by omega)
theorem act_jump {f : Nat → Int32} {k l e : Nat} (hm : Mt f l e) (h : act f k (e + 1)) : k ≠ l ∧ act f k l := by
  obtain ⟨ek, a, b, c, d⟩ := h
  have h1 := hm.1
  have hk : k ≠ l := fun q => by subst q; have := a.uniqE hm; omega
  refine ⟨hk, ek, a, b, ?_, by omega⟩
  rcases Nat.lt_or_ge k l with q | q
  · exact q
  · have u := hm.2.2.2.2 k (by omega) (by omega)
    have v := a.2.2.2.2 (e + 1) (by omega) d
    have := hm.2.2.2.1
    omega
theorem act_back {f : Nat → Int32} {k b e : Nat} (hm : Mt f b e) (h : act f k (b + 1)) : k = b ∨ act f k e := by
  obtain ⟨ek, a, a4, c, d⟩ := h
  rcases Nat.lt_or_ge k b with q | q
  · refine Or.inr ⟨ek, a, a4, by have := hm.1; omega, ?_⟩
    rcases Nat.lt_or_ge ek e with z | z
    · have u := a.2.2.2.2 b q (by omega)
      have v := hm.2.2.2.2 (ek + 1) (by omega) (by omega)
      have := a.2.2.2.1
      omega
    · exact z
  · exact Or.inl (by omega)
/-- a run's state: line, variables, cells, rows of the names, rounds left -/
abbrev RS : Type := Nat × (Nat → Int32) × (Nat → Int32) × (Nat → Int32) × (Nat → Int64)
/-- four cells, one after the other, from row f to row t -/
def cpk (c : Nat → Int32) (f t : Nat) : Nat → Nat → Int32
  | 0 => c
  | k + 1 => upd (cpk c f t k) (4 * t + k) (cpk c f t k (4 * f + k))
noncomputable def stS (O X Y : Nat → Int32) (mk : Int32) (s : RS) : RS :=
  if O s.1 = 0 then (s.1 + 1, upd s.2.1 (tn (X s.1)) (Y s.1), s.2.2.1, s.2.2.2.1, s.2.2.2.2)
  else if O s.1 = 1 then (s.1 + 1, (if mk &&& 4 = 0 then upd s.2.1 (tn (X s.1)) (s.2.1 (tn (Y s.1))) else upd s.2.1 (tn (Y s.1)) (s.2.1 (tn (X s.1)))), s.2.2.1, s.2.2.2.1, s.2.2.2.2)
  else if O s.1 = 2 then (s.1 + 1, upd s.2.1 (tn (X s.1)) (s.2.1 (tn (X s.1)) + s.2.1 (tn (Y s.1))), s.2.2.1, s.2.2.2.1, s.2.2.2.2)
  else if O s.1 = 3 then (s.1 + 1, upd s.2.1 (tn (X s.1)) (if mk &&& 16 = 0 then s.2.1 (tn (X s.1)) - s.2.1 (tn (Y s.1)) else s.2.1 (tn (Y s.1)) - s.2.1 (tn (X s.1))), s.2.2.1, s.2.2.2.1, s.2.2.2.2)
  else if O s.1 = 4 then ((if 0 < (s.2.1 (tn (X s.1))).toInt64 then s.1 + 1 else mtf O s.1 + 1), s.2.1, s.2.2.1, s.2.2.2.1, vp_updL s.2.2.2.2 s.1 ((s.2.1 (tn (X s.1))).toInt64 + (if 0 < (s.2.1 (tn (X s.1))).toInt64 ∧ ¬ mk &&& 2 = 0 then 1 else 0)))
  else if O s.1 = 5 then ((if s.2.1 (tn (X s.1)) < s.2.1 (tn (Y s.1)) ∨ (¬ mk &&& 8 = 0 ∧ s.2.1 (tn (X s.1)) = s.2.1 (tn (Y s.1))) then s.1 + 1 else mtf O s.1 + 1), s.2.1, s.2.2.1, s.2.2.2.1, s.2.2.2.2)
  else if O s.1 = 6 then (if O (mtf O s.1) = 5 then (s.1 + 1, s.2.1, s.2.2.1, s.2.2.2.1, s.2.2.2.2) else ((if 0 < s.2.2.2.2 (mtf O s.1) - 1 then mtf O s.1 + 1 else s.1 + 1), s.2.1, s.2.2.1, s.2.2.2.1, vp_updL s.2.2.2.2 (mtf O s.1) (s.2.2.2.2 (mtf O s.1) - 1)))
  else if O s.1 = 7 then (s.1 + 1, s.2.1, upd s.2.2.1 (4 * tn (s.2.2.2.1 (tn (X s.1) / 4)) + tn (s.2.1 (tn (X s.1) % 4) &&& 3)) (s.2.1 (tn (Y s.1))), s.2.2.2.1, s.2.2.2.2)
  else if O s.1 = 8 then (s.1 + 1, upd s.2.1 (tn (X s.1)) (s.2.2.1 (4 * tn (s.2.2.2.1 (tn (Y s.1) / 4)) + tn ((s.2.1 (tn (Y s.1) % 4) + (if mk &&& 32 = 0 then 0 else 1)) &&& 3))), s.2.2.1, s.2.2.2.1, s.2.2.2.2)
  else if mk &&& 1 = 0 then (s.1 + 1, s.2.1, s.2.2.1, upd s.2.2.2.1 (tn (X s.1)) (s.2.2.2.1 (tn (Y s.1))), s.2.2.2.2)
  else (s.1 + 1, s.2.1, cpk s.2.2.1 (tn (s.2.2.2.1 (tn (Y s.1)))) (if s.2.2.2.1 0 = s.2.2.2.1 1 then 1 - tn (s.2.2.2.1 (tn (Y s.1))) else tn (s.2.2.2.1 (tn (X s.1)))) 4, upd s.2.2.2.1 (tn (X s.1)) (nI (if s.2.2.2.1 0 = s.2.2.2.1 1 then 1 - tn (s.2.2.2.1 (tn (Y s.1))) else tn (s.2.2.2.1 (tn (X s.1))))), s.2.2.2.2)
/-- n lines, at most fu steps more: how many were done, how often each line, the state -/
noncomputable def rnS (O X Y : Nat → Int32) (n : Nat) (mk : Int32) : Nat → (Nat → Int32) → RS → Nat × (Nat → Int32) × RS
  | 0, t, s => (0, t, s)
  | fu + 1, t, s => if s.1 < n then ((rnS O X Y n mk fu (upd t s.1 (t s.1 + 1)) (stS O X Y mk s)).1 + 1, (rnS O X Y n mk fu (upd t s.1 (t s.1 + 1)) (stS O X Y mk s)).2) else (0, t, s)
def v0 (n : Int32) : Nat → Int32 := fun k => if k = 0 then n else 0
def c0 : Nat → Int32 := fun _ => 0
def r0 : Nat → Int32 := fun k => if k = 1 then 1 else 0
/-- a line as it may be -/
def okl (o x y : Int32) : Prop :=
  (o = 0 ∧ ∃ j, j < 4 ∧ x = nI j) ∨ (o = 1 ∧ (∃ j, j < 4 ∧ x = nI j) ∧ ∃ j, j < 4 ∧ y = nI j) ∨ (o = 2 ∧ (∃ j, j < 4 ∧ x = nI j) ∧ ∃ j, j < 4 ∧ y = nI j) ∨ (o = 3 ∧ (∃ j, j < 4 ∧ x = nI j) ∧ ∃ j, j < 4 ∧ y = nI j) ∨ (o = 4 ∧ ∃ j, j < 4 ∧ x = nI j) ∨ (o = 5 ∧ (∃ j, j < 4 ∧ x = nI j) ∧ ∃ j, j < 4 ∧ y = nI j) ∨ o = 6 ∨ (o = 7 ∧ (∃ j, j < 8 ∧ x = nI j) ∧ ∃ j, j < 4 ∧ y = nI j) ∨ (o = 8 ∧ (∃ j, j < 4 ∧ x = nI j) ∧ ∃ j, j < 8 ∧ y = nI j) ∨ (o = 9 ∧ (∃ j, j < 2 ∧ x = nI j) ∧ ∃ j, j < 2 ∧ y = nI j)
/-- a whole program: n lines, all as they may be, nothing open at the end -/
def okp (O X Y : Nat → Int32) (n : Nat) : Prop := n ≤ 20 ∧ wfd O n ∧ dp O n = 0 ∧ ∀ k, k < n → okl (O k) (X k) (Y k)
def okr (rw : Nat → Int32) : Prop := ∀ k, k < 2 → rw k = nI 0 ∨ rw k = nI 1
