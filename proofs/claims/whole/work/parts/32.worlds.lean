/-! the class: its worlds (machine, program, pupil, question, desk) -/
def KWd (G : TG) (o : Nat) (b : Nat → Nat) (S : MS) : va_W := [(o, .inr (0, [.ref (b 0), .ref (b 1), .ref (b 2), .ref (b 3), .ref (b 4), .int (mI S 5), .int (mI S 6), .int (mI S 7), .int (mI S 8)])), (b 0, .inl (gy G 0, 4, .inl (mA S 0))), (b 1, .inl (gy G 0, 8, .inl (mA S 1))), (b 2, .inl (gy G 0, 2, .inl (mA S 2))), (b 3, .inl (gy G 0, 20, .inl (mA S 3))), (b 4, .inl (gy G 1, 20, .inr (.inl (mL S))))]
def PWd (G : TG) (o : Nat) (b : Nat → Nat) (S : MS) : va_W := [(o, .inr (1, [.ref (b 0), .ref (b 1), .ref (b 2), .ref (b 3), .ref (b 4), .ref (b 5), .int (mI S 6), .int (mI S 7), .int (mI S 8)])), (b 0, .inl (gy G 0, 20, .inl (mA S 0))), (b 1, .inl (gy G 0, 20, .inl (mA S 1))), (b 2, .inl (gy G 0, 20, .inl (mA S 2))), (b 3, .inl (gy G 0, 20, .inl (mA S 3))), (b 4, .inl (gy G 0, 20, .inl (mA S 4))), (b 5, .inl (gy G 0, 20, .inl (mA S 5)))]
def UWd (G : TG) (o : Nat) (b : Nat → Nat) (S : MS) : va_W := [(o, .inr (2, [.ref (b 0), .long (mL S 1)])), (b 0, .inl (gy G 0, 60, .inl (mA S 0)))]
def QWd (G : TG) (o : Nat) (b : Nat → Nat) (p : Nat) (S : MS) : va_W := [(o, .inr (3, [.ref p, .int (mI S 1), .int (mI S 2), .int (mI S 3), .ref (b 4), .long (mL S 5)])), (b 4, .inl (gy G 0, 64, .inl (mA S 4)))]
def CWd (G : TG) (o : Nat) (b : Nat → Nat) (RP RQ RU : Nat → Option Nat) (S : MS) : va_W := [(o, .inr (4, [.ref (b 0), .ref (b 1), .ref (b 2), .ref (b 3), .ref (b 4), .ref (b 5), .ref (b 6), .ref (b 7), .ref (b 8), .ref (b 9), .ref (b 10), .int (mI S 11), .int (mI S 12), .int (mI S 13), .int (mI S 14), .int (mI S 15), .int (mI S 16), .long (mL S 17)])), (b 0, .inl (gy G 3, 10, .inr (.inr (.inr (.inr RP))))), (b 1, .inl (gy G 4, 60, .inr (.inr (.inr (.inr RQ))))), (b 2, .inl (gy G 5, 10, .inr (.inr (.inr (.inr RU))))), (b 3, .inl (gy G 0, 7, .inl (mA S 3))), (b 7, .inl (gy G 0, 7, .inl (mA S 7))), (b 8, .inl (gy G 0, 7, .inl (mA S 8))), (b 9, .inl (gy G 0, 64, .inl (mA S 9))), (b 10, .inl (gy G 0, 12, .inl (mA S 10)))]
section VQ
variable {G : TG} {X : TX} {cc : ByteArray} {own : String} {nL : Nat} {ret : Option FieldType} {R : Room} {Q : State → Prop} {cells slots pc : Nat} {lv : Nat → Option Value} {st : List Value} {ws : va_W}
theorem v_rfs {r : Option Nat} {x : Nat} (h : r = some x) (kk : V G X cc nL R Q cells slots pc lv (.ref x :: st) ws) : V G X cc nL R Q cells slots pc lv (va_rf r :: st) ws := by subst h; exact kk
theorem v_rfn {r : Option Nat} (h : r = none) (kk : V G X cc nL R Q cells slots pc lv (.null :: st) ws) : V G X cc nL R Q cells slots pc lv (va_rf r :: st) ws := by subst h; exact kk
end VQ
/-- a pool: the blocks of the first n -/
def pool (n : Nat) (f : Nat → va_W) : va_W := (List.range n).flatMap f
/-- all but i -/
def poolx (n i : Nat) (f : Nat → va_W) : va_W := ((List.range n).erase i).flatMap f
theorem pool_focus {n i : Nat} (f : Nat → va_W) (h : i < n) : (pool n f).Perm (poolx n i f ++ f i) := by
  have h1 : (List.range n).Perm (i :: (List.range n).erase i) := List.perm_cons_erase (List.mem_range.mpr h)
  have h2 := h1.flatMap_right f
  have h3 : (i :: (List.range n).erase i).flatMap f = f i ++ ((List.range n).erase i).flatMap f := List.flatMap_cons
  rw [h3] at h2
  exact h2.trans List.perm_append_comm
theorem poolx_cong {n i : Nat} {f g : Nat → va_W} (h : ∀ j, j < n → j ≠ i → f j = g j) : poolx n i f = poolx n i g := by
  unfold poolx
  have key : ∀ l : List Nat, (∀ j ∈ l, f j = g j) → l.flatMap f = l.flatMap g := by
    intro l
    induction l with
    | nil => intro _; rfl
    | cons x l ih => intro hl; rw [List.flatMap_cons, List.flatMap_cons, hl x (List.mem_cons_self), ih (fun j hj => hl j (List.mem_cons_of_mem _ hj))]
  refine key _ (fun j hj => ?_)
  have hd : (List.range n).Nodup := List.nodup_range
  exact h j (List.mem_range.mp (List.mem_of_mem_erase hj)) (hd.mem_erase_iff.mp hj).1
theorem pool_succ (n : Nat) (f : Nat → va_W) : pool (n + 1) f = pool n f ++ f n := by
  unfold pool
  rw [List.range_succ, List.flatMap_append]
  simp
theorem pool_cong {n : Nat} {f g : Nat → va_W} (h : ∀ j, j < n → f j = g j) : pool n f = pool n g := by
  unfold pool
  have key : ∀ l : List Nat, (∀ j ∈ l, f j = g j) → l.flatMap f = l.flatMap g := by
    intro l
    induction l with
    | nil => intro _; rfl
    | cons x l ih => intro hl; rw [List.flatMap_cons, List.flatMap_cons, hl x (List.mem_cons_self), ih (fun j hj => hl j (List.mem_cons_of_mem _ hj))]
  exact key _ (fun j hj => h j (List.mem_range.mp hj))
theorem pool_back {n i : Nat} {f g : Nat → va_W} (h : i < n) (hf : ∀ j, j < n → j ≠ i → f j = g j) : (poolx n i f ++ g i).Perm (pool n g) := by
  rw [poolx_cong hf]
  exact (pool_focus g h).symm
