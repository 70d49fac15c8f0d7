/-! the state as both sides mean it, and what each call answers -/
abbrev PA : Type := Nat × (Nat → Nat) × (Nat → Nat → Int32) × (Nat → Nat → Int32) × (Nat → Nat → Int32)
abbrev QA : Type := Nat × (Nat → Nat) × (Nat → Nat) × (Nat → Nat) × (Nat → Nat)
abbrev AS : Type := PA × QA × Option (Nat × (Nat → Int32) × (Nat → Int32)) × List (Int32 × Int32) × List Int32 × (Nat → Nat → Option Int32) × (Nat → Nat)
def aNp (A : AS) : Nat := A.1.1
def aN (A : AS) : Nat → Nat := A.1.2.1
def aO (A : AS) : Nat → Nat → Int32 := A.1.2.2.1
def aX (A : AS) : Nat → Nat → Int32 := A.1.2.2.2.1
def aY (A : AS) : Nat → Nat → Int32 := A.1.2.2.2.2
def aNq (A : AS) : Nat := A.2.1.1
def aQp (A : AS) : Nat → Nat := A.2.1.2.1
def aQi (A : AS) : Nat → Nat := A.2.1.2.2.1
def aQk (A : AS) : Nat → Nat := A.2.1.2.2.2.1
def aQw (A : AS) : Nat → Nat := A.2.1.2.2.2.2
def aT (A : AS) : Option (Nat × (Nat → Int32) × (Nat → Int32)) := A.2.2.1
def aC (A : AS) : List (Int32 × Int32) := A.2.2.2.1
def aF (A : AS) : List Int32 := A.2.2.2.2.1
def aG (A : AS) : Nat → Nat → Option Int32 := A.2.2.2.2.2.1
def aP (A : AS) : Nat → Nat := A.2.2.2.2.2.2
/-- how the reference holds it -/
def MRel (A : AS) (S : MS) : Prop :=
  mI S 4 = nI (aNp A) ∧ (∀ p, p < 10 → mA S 3 p = nI (aN A p)) ∧ (∀ p k, p < 10 → k < 20 → mA S 0 (20 * p + k) = aO A p k ∧ mA S 1 (20 * p + k) = aX A p k ∧ mA S 2 (20 * p + k) = aY A p k) ∧
  mI S 19 = nI (aNq A) ∧ (∀ q, q < aNq A → mA S 15 q = nI (aQp A q) ∧ mA S 16 q = nI (aQi A q) ∧ mA S 17 q = nI (aQk A q) ∧ mA S 18 q = nI (aQw A q)) ∧
  ((aT A = none ∧ mI S 14 = -1) ∨ ∃ n t d, aT A = some (n, t, d) ∧ n ≤ 20 ∧ mI S 14 = nI n ∧ (∀ k, k < 14 → mA S 12 k = t k) ∧ ∀ k, k < 20 → mA S 13 k = d k) ∧
  (mI S 22 = nI (aC A).length ∧ ∀ i v s, (aC A)[i]? = some (v, s) → mA S 20 i = v ∧ mA S 21 i = s) ∧
  (mI S 24 = nI (aF A).length ∧ ∀ i v, (aF A)[i]? = some v → mA S 23 i = v) ∧
  (∀ u q, u < 10 → q < 60 → (aG A u q = none ∧ mA S 26 (60 * u + q) = 0) ∨ ∃ v, aG A u q = some v ∧ mA S 26 (60 * u + q) = 1 ∧ mA S 27 (60 * u + q) = v) ∧
  ∀ k, k < 7 → mA S 28 k = nI (aP A k)
/-- what always holds of it -/
def AInv (A : AS) : Prop :=
  aNp A ≤ 10 ∧ (∀ p, aN A p ≤ 20) ∧ (∀ p, aNp A ≤ p → aN A p = 0) ∧ (∀ p, p < aNp A → wfd (aO A p) (aN A p) ∧ ∀ k, k < aN A p → okl (aO A p k) (aX A p k) (aY A p k)) ∧
  aNq A ≤ 60 ∧ (∀ q, q < aNq A → aQp A q < aNp A ∧ dp (aO A (aQp A q)) (aN A (aQp A q)) = 0 ∧ aQi A q < 10 ∧ aQk A q < 3 ∧ (aQk A q = 0 → aQw A q < 4) ∧ (aQk A q = 1 → aQw A q < aN A (aQp A q)) ∧ (aQk A q = 2 → aQw A q < 8)) ∧
  (aC A).length ≤ 6 ∧ (aF A).length ≤ 19 ∧ (∀ u q, aG A u q ≠ none → q < aNq A) ∧ ∀ k, k < 7 → 1 ≤ aP A k ∧ aP A k ≤ 99
theorem okp_of {A : AS} (h : AInv A) {p : Nat} (hp : p < aNp A) (h0 : dp (aO A p) (aN A p) = 0) : okp (aO A p) (aX A p) (aY A p) (aN A p) :=
  ⟨h.2.1 p, (h.2.2.2.1 p hp).1, h0, (h.2.2.2.1 p hp).2⟩
/-- a run of program p -/
noncomputable def RUN (O X Y : Nat → Int32) (n : Nat) (mk inp : Int32) : Nat × (Nat → Int32) × RS := rnR O X Y n mk inp (fun _ => 0)
noncomputable def aRun (A : AS) (p : Nat) (mk inp : Int32) : Nat × (Nat → Int32) × RS := RUN (aO A p) (aX A p) (aY A p) (aN A p) mk inp
/-- the fourteen things that are told of a run's end -/
def endR (n : Nat) (r : Nat × (Nat → Int32) × RS) (k : Nat) : Int32 :=
  if k < 4 then r.2.2.2.1 k else if k < 12 then r.2.2.2.2.1 (4 * tn (r.2.2.2.2.2.1 (k / 4 - 1)) + k % 4) else if k = 12 then (if r.2.2.1 < n then 1 else 0) else if r.2.2.2.2.2.1 0 = r.2.2.2.2.2.1 1 then 1 else 0
theorem endR_x {n k : Nat} {r q : Nat × (Nat → Int32) × RS} (h : eqx r q) : endR n r k = endR n q k := by
  unfold endR
  rw [h.2.2.1, h.2.2.2.1, h.2.2.2.2.1, h.2.2.2.2.2]
noncomputable def ansA (A : AS) (q : Nat) (mk : Int32) : Int32 :=
  if aQk A q = 0 then (aRun A (aQp A q) mk (nI (aQi A q))).2.2.2.1 (aQw A q) else if aQk A q = 1 then (aRun A (aQp A q) mk (nI (aQi A q))).2.1 (aQw A q) else endR (aN A (aQp A q)) (aRun A (aQp A q) mk (nI (aQi A q))) (4 + aQw A q)
/-- the reference's own fourteen -/
def endM (S : MS) (k : Nat) : Int32 :=
  if k < 4 then mA S 5 k else if k < 12 then mA S 6 (4 * tn (mA S 7 (k / 4 - 1)) + k % 4) else if k = 12 then (if mI S 11 = 0 then 0 else 1) else if mA S 7 0 = mA S 7 1 then 1 else 0
theorem endM_put (S : MS) (n : Nat) (R : Nat × (Nat → Int32) × RS) (k : Nat) : endM (rnPut S n R) k = endR n R k := by
  show (if k < 4 then R.2.2.2.1 k else if k < 12 then R.2.2.2.2.1 (4 * tn (R.2.2.2.2.2.1 (k / 4 - 1)) + k % 4) else if k = 12 then (if (if R.2.2.1 < n then (1 : Int32) else 0) = 0 then 0 else 1) else if R.2.2.2.2.2.1 0 = R.2.2.2.2.2.1 1 then 1 else 0) = _
  unfold endR
  by_cases h : R.2.2.1 < n <;> simp [h]
theorem okr_rn {O X Y : Nat → Int32} {mk : Int32} {n : Nat} (hok : okp O X Y n) : ∀ (fu : Nat) (t : Nat → Int32) (s : RS), okr s.2.2.2.1 → okr (rnS O X Y n mk fu t s).2.2.2.2.2.1 := by
  intro fu
  induction fu with
  | zero => intro t s h; exact h
  | succ fu ih =>
    intro t s h
    by_cases hl : s.1 < n
    · rw [rnS_step hl]; exact ih _ _ (okr_st h (hok.2.2.2 s.1 hl))
    · rw [rnS_stop hl]; exact h
theorem okr_R {O X Y : Nat → Int32} {mk inp : Int32} {n : Nat} {lf : Nat → Int64} (hok : okp O X Y n) : okr (rnR O X Y n mk inp lf).2.2.2.2.2.1 := okr_rn hok 300 c0 _ okr_r0
/-- steps and times are few -/
theorem rn_steps {O X Y : Nat → Int32} {mk : Int32} {n : Nat} : ∀ (fu : Nat) (t : Nat → Int32) (s : RS), (rnS O X Y n mk fu t s).1 ≤ fu := by
  intro fu
  induction fu with
  | zero => intro t s; exact Nat.le_refl 0
  | succ fu ih =>
    intro t s
    by_cases hl : s.1 < n
    · rw [rnS_step hl]; exact Nat.succ_le_succ (ih _ _)
    · rw [rnS_stop hl]; exact Nat.zero_le _
/-- small arguments -/
theorem nbad {j n : Nat} (hj : j < n) (hn : n < 2 ^ 31) : ¬ (nI j < 0 ∨ nI n ≤ nI j) := by
  intro h
  rcases h with h | h
  · exact nI_pos (by omega) h
  · exact nI_ge hj hn h
theorem is01 {p r x : Int32} {n : Nat} (hn : n < 2 ^ 31) (hx : x = nI n) (h : r = if p < 0 ∨ x ≤ p then 0 else 1) : ((p < 0 ∨ nI n ≤ p) ∧ r = 0) ∨ ∃ j, j < n ∧ p = nI j ∧ r = 1 := by
  subst hx
  by_cases q : p < 0 ∨ nI n ≤ p
  · exact Or.inl ⟨q, by rw [h, if_pos q]⟩
  · rcases pk_ix p hn with a | a | ⟨j, a, b⟩
    · exact absurd (Or.inl a) q
    · exact absurd (Or.inr a) q
    · exact Or.inr ⟨j, a, b, by rw [h, if_neg q]⟩
theorem w01 {v lo hi r : Int32} (h : r = if v < lo ∨ hi < v then 0 else 1) : ((v < lo ∨ hi < v) ∧ r = 0) ∨ (¬ (v < lo ∨ hi < v) ∧ r = 1) := by
  by_cases q : v < lo ∨ hi < v
  · exact Or.inl ⟨q, by rw [h, if_pos q]⟩
  · exact Or.inr ⟨q, by rw [h, if_neg q]⟩
theorem wN {v : Int32} {n : Nat} (h : ¬ (v < 0 ∨ nI n < v)) : ∃ j, j < n + 1 ∧ v = nI j := by
  obtain ⟨j, hj, e⟩ := nI_of (x := v) (fun z => h (Or.inl z))
  subst e
  refine ⟨j, ?_, rfl⟩
  rcases Nat.lt_or_ge n j with z | z
  · exact absurd (Or.inr (nI_lt z hj)) h
  · omega
theorem sw_out {x : Int32} {lo hi : Int} (h : ∀ v : Int, lo ≤ v → v ≤ hi → x.toInt ≠ v) : x.toInt < lo ∨ hi < x.toInt := by
  rcases Int.lt_or_le x.toInt lo with q | q
  · exact Or.inl q
  · rcases Int.lt_or_le hi x.toInt with z | z
    · exact Or.inr z
    · exact absurd rfl (h x.toInt q z)
/-- a line that may be added -/
def inw (v lo hi : Int32) : Bool := !(decide (v < lo ∨ hi < v))
def mayB (o a b : Int32) : Bool :=
  if o = 0 then inw a 0 3 && inw b (-99) 99 else if o = 1 then inw a 0 3 && inw b 0 3 else if o = 2 then inw a 0 3 && inw b 0 3 else if o = 3 then inw a 0 3 && inw b 0 3 else if o = 4 then inw a 0 3 && decide (b = 0) else if o = 5 then inw a 0 3 && inw b 0 3 else if o = 6 then decide (a = 0) && decide (b = 0) else if o = 7 then inw a 0 7 && inw b 0 3 else if o = 8 then inw a 0 3 && inw b 0 7 else if o = 9 then inw a 0 1 && inw b 0 1 else false
