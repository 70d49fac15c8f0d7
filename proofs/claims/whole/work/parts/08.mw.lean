/-! worlds: a state is its int fields by slot, its int rows by slot, and one row of longs -/
abbrev MS : Type := (Nat → Int32) × (Nat → Nat → Int32) × (Nat → Int64)
def mI (S : MS) (k : Nat) : Int32 := S.1 k
def mA (S : MS) (k : Nat) : Nat → Int32 := S.2.1 k
def mL (S : MS) : Nat → Int64 := S.2.2
def sI (S : MS) (k : Nat) (v : Int32) : MS := (va_up S.1 k v, S.2.1, S.2.2)
def sA (S : MS) (k : Nat) (f : Nat → Int32) : MS := (S.1, va_up S.2.1 k f, S.2.2)
def sL (S : MS) (f : Nat → Int64) : MS := (S.1, S.2.1, f)
theorem mA_same {S : MS} {k : Nat} {f : Nat → Int32} : mA (sA S k f) k = f := va_up_self ..
theorem mA_ne {S : MS} {k j : Nat} {f : Nat → Int32} (h : j ≠ k) : mA (sA S k f) j = mA S j := va_up_ne _ _ h
theorem mI_same {S : MS} {k : Nat} {v : Int32} : mI (sI S k v) k = v := va_up_self ..
theorem mI_ne {S : MS} {k j : Nat} {v : Int32} (h : j ≠ k) : mI (sI S k v) j = mI S j := va_up_ne _ _ h
theorem mI_sA {S : MS} {k j : Nat} {f : Nat → Int32} : mI (sA S k f) j = mI S j := rfl
theorem mA_sI {S : MS} {k j : Nat} {v : Int32} : mA (sI S k v) j = mA S j := rfl
theorem mL_sA {S : MS} {k : Nat} {f : Nat → Int32} : mL (sA S k f) = mL S := rfl
theorem mL_sI {S : MS} {k : Nat} {v : Int32} : mL (sI S k v) = mL S := rfl
theorem mA_sL {S : MS} {j : Nat} {f : Nat → Int64} : mA (sL S f) j = mA S j := rfl
theorem mI_sL {S : MS} {j : Nat} {f : Nat → Int64} : mI (sL S f) j = mI S j := rfl
theorem mL_sL {S : MS} {f : Nat → Int64} : mL (sL S f) = f := rfl
theorem va_up_id {α : Type} (f : Nat → α) (k : Nat) : va_up f k (f k) = f := by
  funext j
  by_cases h : j = k
  · subst h; exact va_up_self ..
  · exact va_up_ne _ _ h
theorem va_up_up {α : Type} (f : Nat → α) (k : Nat) (x y : α) : va_up (va_up f k x) k y = va_up f k y := bx_uu f k x y
theorem va_up_comm {α : Type} (f : Nat → α) {j k : Nat} (h : j ≠ k) (x y : α) : va_up (va_up f j x) k y = va_up (va_up f k y) j x := by
  funext i
  simp only [va_up]
  by_cases h1 : i = k
  · subst h1
    have : ¬ i = j := fun q => h q.symm
    simp [this]
  · by_cases h2 : i = j
    · subst h2; simp [h1]
    · simp [h1, h2]
theorem sA_self (S : MS) (k : Nat) : sA S k (mA S k) = S := by
  show (S.1, va_up S.2.1 k (S.2.1 k), S.2.2) = S
  rw [va_up_id]
theorem sI_self (S : MS) (k : Nat) : sI S k (mI S k) = S := by
  show (va_up S.1 k (S.1 k), S.2.1, S.2.2) = S
  rw [va_up_id]
theorem sL_self (S : MS) : sL S (mL S) = S := rfl
theorem sA_sA (S : MS) (k : Nat) (f g : Nat → Int32) : sA (sA S k f) k g = sA S k g := by
  show (S.1, va_up (va_up S.2.1 k f) k g, S.2.2) = _
  rw [va_up_up]; rfl
theorem sI_sI (S : MS) (k : Nat) (f g : Int32) : sI (sI S k f) k g = sI S k g := by
  show (va_up (va_up S.1 k f) k g, S.2.1, S.2.2) = _
  rw [va_up_up]; rfl
theorem sA_comm (S : MS) {j k : Nat} (h : j ≠ k) (f g : Nat → Int32) : sA (sA S j f) k g = sA (sA S k g) j f := by
  show (S.1, va_up (va_up S.2.1 j f) k g, S.2.2) = _
  rw [va_up_comm _ h]; rfl
theorem sI_comm (S : MS) {j k : Nat} (h : j ≠ k) (f g : Int32) : sI (sI S j f) k g = sI (sI S k g) j f := by
  show (va_up (va_up S.1 j f) k g, S.2.1, S.2.2) = _
  rw [va_up_comm _ h]; rfl
theorem sI_sA (S : MS) (j k : Nat) (f : Nat → Int32) (v : Int32) : sI (sA S j f) k v = sA (sI S k v) j f := rfl
theorem sL_sA (S : MS) (j : Nat) (f : Nat → Int32) (v : Nat → Int64) : sL (sA S j f) v = sA (sL S v) j f := rfl
theorem sL_sI (S : MS) (j : Nat) (f : Int32) (v : Nat → Int64) : sL (sI S j f) v = sI (sL S v) j f := rfl
theorem sL_sL (S : MS) (f g : Nat → Int64) : sL (sL S f) g = sL S g := rfl
theorem MS.ext {S T : MS} (h1 : ∀ k, mI S k = mI T k) (h2 : ∀ k, mA S k = mA T k) (h3 : mL S = mL T) : S = T := by
  obtain ⟨a, b, c⟩ := S
  obtain ⟨a2, b2, c2⟩ := T
  have e1 : a = a2 := funext h1
  have e2 : b = b2 := funext h2
  have e3 : c = c2 := h3
  subst e1; subst e2; subst e3; rfl
/-- the reference: its object (class 5 of vwCl) and its rows -/
def mF (a : Nat → Nat) (S : MS) : List Value := [.ref (a 0), .ref (a 1), .ref (a 2), .ref (a 3), .int (mI S 4), .ref (a 5), .ref (a 6), .ref (a 7), .ref (a 8), .ref (a 9), .int (mI S 10), .int (mI S 11), .ref (a 12), .ref (a 13), .int (mI S 14), .ref (a 15), .ref (a 16), .ref (a 17), .ref (a 18), .int (mI S 19), .ref (a 20), .ref (a 21), .int (mI S 22), .ref (a 23), .int (mI S 24), .ref (a 25), .ref (a 26), .ref (a 27), .ref (a 28), .ref (a 29), .int (mI S 30), .ref (a 31), .ref (a 32)]
def MW (G : TG) (o : Nat) (a : Nat → Nat) (S : MS) : va_W := [(o, .inr (5, mF a S)), (a 0, .inl (gy G 0, 200, .inl (mA S 0))), (a 1, .inl (gy G 0, 200, .inl (mA S 1))), (a 2, .inl (gy G 0, 200, .inl (mA S 2))), (a 3, .inl (gy G 0, 10, .inl (mA S 3))), (a 5, .inl (gy G 0, 4, .inl (mA S 5))), (a 6, .inl (gy G 0, 8, .inl (mA S 6))), (a 7, .inl (gy G 0, 2, .inl (mA S 7))), (a 8, .inl (gy G 1, 20, .inr (.inl (mL S)))), (a 9, .inl (gy G 0, 20, .inl (mA S 9))), (a 12, .inl (gy G 0, 14, .inl (mA S 12))), (a 13, .inl (gy G 0, 20, .inl (mA S 13))), (a 15, .inl (gy G 0, 60, .inl (mA S 15))), (a 16, .inl (gy G 0, 60, .inl (mA S 16))), (a 17, .inl (gy G 0, 60, .inl (mA S 17))), (a 18, .inl (gy G 0, 60, .inl (mA S 18))), (a 20, .inl (gy G 0, 6, .inl (mA S 20))), (a 21, .inl (gy G 0, 6, .inl (mA S 21))), (a 23, .inl (gy G 0, 19, .inl (mA S 23))), (a 25, .inl (gy G 0, 130, .inl (mA S 25))), (a 26, .inl (gy G 2, 600, .inl (mA S 26))), (a 27, .inl (gy G 0, 600, .inl (mA S 27))), (a 28, .inl (gy G 0, 7, .inl (mA S 28))), (a 29, .inl (gy G 0, 64, .inl (mA S 29))), (a 31, .inl (gy G 0, 64, .inl (mA S 31))), (a 32, .inl (gy G 0, 84, .inl (mA S 32)))]
section MWS
variable {G : TG} {o : Nat} {a : Nat → Nat} {S : MS}
theorem mwA0 {f : Nat → Int32} : (MW G o a S).set 1 (a 0, .inl (gy G 0, 200, .inl f)) = MW G o a (sA S 0 f) := rfl
theorem mwA1 {f : Nat → Int32} : (MW G o a S).set 2 (a 1, .inl (gy G 0, 200, .inl f)) = MW G o a (sA S 1 f) := rfl
theorem mwA2 {f : Nat → Int32} : (MW G o a S).set 3 (a 2, .inl (gy G 0, 200, .inl f)) = MW G o a (sA S 2 f) := rfl
theorem mwA3 {f : Nat → Int32} : (MW G o a S).set 4 (a 3, .inl (gy G 0, 10, .inl f)) = MW G o a (sA S 3 f) := rfl
theorem mwI4 {v : Int32} : (MW G o a S).set 0 (o, .inr (5, (mF a S).set 4 (.int v))) = MW G o a (sI S 4 v) := rfl
theorem mwA5 {f : Nat → Int32} : (MW G o a S).set 5 (a 5, .inl (gy G 0, 4, .inl f)) = MW G o a (sA S 5 f) := rfl
theorem mwA6 {f : Nat → Int32} : (MW G o a S).set 6 (a 6, .inl (gy G 0, 8, .inl f)) = MW G o a (sA S 6 f) := rfl
theorem mwA7 {f : Nat → Int32} : (MW G o a S).set 7 (a 7, .inl (gy G 0, 2, .inl f)) = MW G o a (sA S 7 f) := rfl
theorem mwA8 {f : Nat → Int64} : (MW G o a S).set 8 (a 8, .inl (gy G 1, 20, .inr (.inl f))) = MW G o a (sL S f) := rfl
theorem mwA9 {f : Nat → Int32} : (MW G o a S).set 9 (a 9, .inl (gy G 0, 20, .inl f)) = MW G o a (sA S 9 f) := rfl
theorem mwI10 {v : Int32} : (MW G o a S).set 0 (o, .inr (5, (mF a S).set 10 (.int v))) = MW G o a (sI S 10 v) := rfl
theorem mwI11 {v : Int32} : (MW G o a S).set 0 (o, .inr (5, (mF a S).set 11 (.int v))) = MW G o a (sI S 11 v) := rfl
theorem mwA12 {f : Nat → Int32} : (MW G o a S).set 10 (a 12, .inl (gy G 0, 14, .inl f)) = MW G o a (sA S 12 f) := rfl
theorem mwA13 {f : Nat → Int32} : (MW G o a S).set 11 (a 13, .inl (gy G 0, 20, .inl f)) = MW G o a (sA S 13 f) := rfl
theorem mwI14 {v : Int32} : (MW G o a S).set 0 (o, .inr (5, (mF a S).set 14 (.int v))) = MW G o a (sI S 14 v) := rfl
theorem mwA15 {f : Nat → Int32} : (MW G o a S).set 12 (a 15, .inl (gy G 0, 60, .inl f)) = MW G o a (sA S 15 f) := rfl
theorem mwA16 {f : Nat → Int32} : (MW G o a S).set 13 (a 16, .inl (gy G 0, 60, .inl f)) = MW G o a (sA S 16 f) := rfl
theorem mwA17 {f : Nat → Int32} : (MW G o a S).set 14 (a 17, .inl (gy G 0, 60, .inl f)) = MW G o a (sA S 17 f) := rfl
theorem mwA18 {f : Nat → Int32} : (MW G o a S).set 15 (a 18, .inl (gy G 0, 60, .inl f)) = MW G o a (sA S 18 f) := rfl
theorem mwI19 {v : Int32} : (MW G o a S).set 0 (o, .inr (5, (mF a S).set 19 (.int v))) = MW G o a (sI S 19 v) := rfl
theorem mwA20 {f : Nat → Int32} : (MW G o a S).set 16 (a 20, .inl (gy G 0, 6, .inl f)) = MW G o a (sA S 20 f) := rfl
theorem mwA21 {f : Nat → Int32} : (MW G o a S).set 17 (a 21, .inl (gy G 0, 6, .inl f)) = MW G o a (sA S 21 f) := rfl
theorem mwI22 {v : Int32} : (MW G o a S).set 0 (o, .inr (5, (mF a S).set 22 (.int v))) = MW G o a (sI S 22 v) := rfl
theorem mwA23 {f : Nat → Int32} : (MW G o a S).set 18 (a 23, .inl (gy G 0, 19, .inl f)) = MW G o a (sA S 23 f) := rfl
theorem mwI24 {v : Int32} : (MW G o a S).set 0 (o, .inr (5, (mF a S).set 24 (.int v))) = MW G o a (sI S 24 v) := rfl
theorem mwA25 {f : Nat → Int32} : (MW G o a S).set 19 (a 25, .inl (gy G 0, 130, .inl f)) = MW G o a (sA S 25 f) := rfl
theorem mwA26 {f : Nat → Int32} : (MW G o a S).set 20 (a 26, .inl (gy G 2, 600, .inl f)) = MW G o a (sA S 26 f) := rfl
theorem mwA27 {f : Nat → Int32} : (MW G o a S).set 21 (a 27, .inl (gy G 0, 600, .inl f)) = MW G o a (sA S 27 f) := rfl
theorem mwA28 {f : Nat → Int32} : (MW G o a S).set 22 (a 28, .inl (gy G 0, 7, .inl f)) = MW G o a (sA S 28 f) := rfl
theorem mwA29 {f : Nat → Int32} : (MW G o a S).set 23 (a 29, .inl (gy G 0, 64, .inl f)) = MW G o a (sA S 29 f) := rfl
theorem mwI30 {v : Int32} : (MW G o a S).set 0 (o, .inr (5, (mF a S).set 30 (.int v))) = MW G o a (sI S 30 v) := rfl
theorem mwA31 {f : Nat → Int32} : (MW G o a S).set 24 (a 31, .inl (gy G 0, 64, .inl f)) = MW G o a (sA S 31 f) := rfl
theorem mwA32 {f : Nat → Int32} : (MW G o a S).set 25 (a 32, .inl (gy G 0, 84, .inl f)) = MW G o a (sA S 32 f) := rfl
end MWS
