/-! rows over numbers nI: operands that are naturals -/
section VN
variable {G : TG} {X : TX} {cc : ByteArray} {own : String} {nL : Nat} {ret : Option FieldType} {R : Room} {Q : State → Prop} {cells slots pc : Nat} {lv : Nat → Option Value} {st : List Value} {ws : va_W}
theorem Ri_kk {S : Type} {f : Int32 → S → Prop} {w : S → va_W} {mc ms : Nat} (h : ∀ (r : Int32) (u : S), f r u → V G X cc nL R Q mc ms pc lv (.int r :: st) (w u)) : ∀ (v : Option Value) (u : S), Ri f v u → V G X cc nL R Q mc ms pc lv (v.toList ++ st) (w u) := fun v u q => by obtain ⟨r, e, q⟩ := q; subst e; exact h r u q
theorem Rl_kk {S : Type} {f : Int64 → S → Prop} {w : S → va_W} {mc ms : Nat} (h : ∀ (r : Int64) (u : S), f r u → V G X cc nL R Q mc ms pc lv (.long r :: st) (w u)) : ∀ (v : Option Value) (u : S), Rl f v u → V G X cc nL R Q mc ms pc lv (v.toList ++ st) (w u) := fun v u q => by obtain ⟨r, e, q⟩ := q; subst e; exact h r u q
theorem Rv_kk {S : Type} {f : S → Prop} {w : S → va_W} {mc ms : Nat} (h : ∀ (u : S), f u → V G X cc nL R Q mc ms pc lv st (w u)) : ∀ (v : Option Value) (u : S), Rv f v u → V G X cc nL R Q mc ms pc lv (v.toList ++ st) (w u) := fun v u q => by obtain ⟨e, q⟩ := q; subst e; exact h u q
theorem Rq_kk {S : Type} {f : Option Nat → S → Prop} {w : S → va_W} {mc ms : Nat} (h : ∀ (r : Option Nat) (u : S), f r u → V G X cc nL R Q mc ms pc lv (va_rf r :: st) (w u)) : ∀ (v : Option Value) (u : S), Rq f v u → V G X cc nL R Q mc ms pc lv (v.toList ++ st) (w u) := fun v u q => by obtain ⟨r, e, q⟩ := q; subst e; exact h r u q
theorem v_nm {x : Int32} (kk : ∀ y : Int32, y = x → V G X cc nL R Q cells slots pc lv (.int y :: st) ws) : V G X cc nL R Q cells slots pc lv (.int x :: st) ws := kk x rfl
theorem v_nml {x : Int64} (kk : ∀ y : Int64, y = x → V G X cc nL R Q cells slots pc lv (.long y :: st) ws) : V G X cc nL R Q cells slots pc lv (.long x :: st) ws := kk x rfl
theorem v_iaddN (C : OK G X cc own nL ret) {x y : Int32} (a b : Nat) (hx : x = nI a) (hy : y = nI b) (hd : decode cc pc = .ok (.iadd, 1)) (kk : V G X cc nL R Q cells slots (pc + 1) lv (.int (nI (a + b)) :: st) ws) : V G X cc nL R Q cells slots pc lv (.int y :: .int x :: st) ws := by
  subst hx; subst hy
  exact v_iadd C hd (by rw [nI_add]; exact kk)
theorem v_isubN (C : OK G X cc own nL ret) {x y : Int32} (a b : Nat) (hx : x = nI a) (hy : y = nI b) (h : b ≤ a) (hd : decode cc pc = .ok (.isub, 1)) (kk : V G X cc nL R Q cells slots (pc + 1) lv (.int (nI (a - b)) :: st) ws) : V G X cc nL R Q cells slots pc lv (.int y :: .int x :: st) ws := by
  subst hx; subst hy
  exact v_isub C hd (by rw [pk_sub h]; exact kk)
theorem v_imulN (C : OK G X cc own nL ret) {x y : Int32} (a b : Nat) (hx : x = nI a) (hy : y = nI b) (hd : decode cc pc = .ok (.imul, 1)) (kk : V G X cc nL R Q cells slots (pc + 1) lv (.int (nI (a * b)) :: st) ws) : V G X cc nL R Q cells slots pc lv (.int y :: .int x :: st) ws := by
  subst hx; subst hy
  exact v_imul C hd (by rw [pk_mul]; exact kk)
theorem v_idivN (C : OK G X cc own nL ret) {x y : Int32} (a b : Nat) (hx : x = nI a) (hy : y = nI b) (ha : a < 2 ^ 31) (h0 : 0 < b) (hb : b < 2 ^ 31) (hd : decode cc pc = .ok (.idiv, 1)) (kk : V G X cc nL R Q cells slots (pc + 1) lv (.int (nI (a / b)) :: st) ws) : V G X cc nL R Q cells slots pc lv (.int y :: .int x :: st) ws := by
  subst hx; subst hy
  exact v_idiv C hd (nI_ne0 h0 hb) (by rw [pk_div ha h0 hb]; exact kk)
theorem v_iremN (C : OK G X cc own nL ret) {x y : Int32} (a b : Nat) (hx : x = nI a) (hy : y = nI b) (ha : a < 2 ^ 31) (h0 : 0 < b) (hb : b < 2 ^ 31) (hd : decode cc pc = .ok (.irem, 1)) (kk : V G X cc nL R Q cells slots (pc + 1) lv (.int (nI (a % b)) :: st) ws) : V G X cc nL R Q cells slots pc lv (.int y :: .int x :: st) ws := by
  subst hx; subst hy
  exact v_irem C hd (nI_ne0 h0 hb) (by rw [pk_rem ha h0 hb]; exact kk)
theorem v_iinc1 (C : OK G X cc own nL ret) {i : Nat} {x : Int32} (a : Nat) (hx : x = nI a) (hd : decode cc pc = .ok (.iinc i 1, 3)) (h : lv i = some (.int x)) (kk : V G X cc nL R Q cells slots (pc + 3) (s1 lv i (.int (nI (a + 1)))) st ws) : V G X cc nL R Q cells slots pc lv st ws := by
  subst hx
  exact v_iinc C hd h (by rw [nI_succ]; rfl) kk
theorem v_iincI (C : OK G X cc own nL ret) {i : Nat} {x : Int32} (hd : decode cc pc = .ok (.iinc i 1, 3)) (h : lv i = some (.int x)) (kk : V G X cc nL R Q cells slots (pc + 3) (s1 lv i (.int (x + 1))) st ws) : V G X cc nL R Q cells slots pc lv st ws := v_iinc C hd h rfl kk
theorem v_iincD (C : OK G X cc own nL ret) {i : Nat} {x : Int32} (a : Nat) (hx : x = nI a) (h0 : 1 ≤ a) (hd : decode cc pc = .ok (.iinc i (-1), 3)) (h : lv i = some (.int x)) (kk : V G X cc nL R Q cells slots (pc + 3) (s1 lv i (.int (nI (a - 1)))) st ws) : V G X cc nL R Q cells slots pc lv st ws := by
  obtain ⟨b, rfl⟩ : ∃ b, a = b + 1 := ⟨a - 1, by omega⟩
  subst hx
  exact v_iinc C hd h (pk_m1 b) kk
theorem v_icmp_eqN (C : OK G X cc own nL ret) {x y : Int32} (a b : Nat) (hx : x = nI a) (hy : y = nI b) (ha : a < 2 ^ 31) (hb : b < 2 ^ 31) {off : Int} {tgt : Nat} (hd : decode cc pc = .ok (.if_icmp .eq off, 3)) (ht : (pc : Int) + off = (tgt : Int)) (kt : a = b → V G X cc nL R Q cells slots tgt lv st ws) (kf : a ≠ b → V G X cc nL R Q cells slots (pc + 3) lv st ws) : V G X cc nL R Q cells slots pc lv (.int y :: .int x :: st) ws := by
  subst hx; subst hy
  exact v_icmp_eq C hd ht (fun q => kt ((nI_eq ha hb).mp q)) (fun q => kf (fun e => q ((nI_eq ha hb).mpr e)))
theorem v_if_eqN (C : OK G X cc own nL ret) {x : Int32} (a : Nat) (hx : x = nI a) (ha : a < 2 ^ 31) {off : Int} {tgt : Nat} (hd : decode cc pc = .ok (.ifCond .eq off, 3)) (ht : (pc : Int) + off = (tgt : Int)) (kt : a = 0 → V G X cc nL R Q cells slots tgt lv st ws) (kf : a ≠ 0 → V G X cc nL R Q cells slots (pc + 3) lv st ws) : V G X cc nL R Q cells slots pc lv (.int x :: st) ws := by
  subst hx
  have hb : (0 : Nat) < 2 ^ 31 := by decide
  exact v_if_eq C hd ht (fun q => kt ((nI_eq ha (b := 0) hb).mp q)) (fun q => kf (fun e => q ((nI_eq ha (b := 0) hb).mpr e)))
theorem v_icmp_neN (C : OK G X cc own nL ret) {x y : Int32} (a b : Nat) (hx : x = nI a) (hy : y = nI b) (ha : a < 2 ^ 31) (hb : b < 2 ^ 31) {off : Int} {tgt : Nat} (hd : decode cc pc = .ok (.if_icmp .ne off, 3)) (ht : (pc : Int) + off = (tgt : Int)) (kt : a ≠ b → V G X cc nL R Q cells slots tgt lv st ws) (kf : a = b → V G X cc nL R Q cells slots (pc + 3) lv st ws) : V G X cc nL R Q cells slots pc lv (.int y :: .int x :: st) ws := by
  subst hx; subst hy
  exact v_icmp_ne C hd ht (fun q => kt (fun e => q ((nI_eq ha hb).mpr e))) (fun q => kf ((nI_eq ha hb).mp q))
theorem v_if_neN (C : OK G X cc own nL ret) {x : Int32} (a : Nat) (hx : x = nI a) (ha : a < 2 ^ 31) {off : Int} {tgt : Nat} (hd : decode cc pc = .ok (.ifCond .ne off, 3)) (ht : (pc : Int) + off = (tgt : Int)) (kt : a ≠ 0 → V G X cc nL R Q cells slots tgt lv st ws) (kf : a = 0 → V G X cc nL R Q cells slots (pc + 3) lv st ws) : V G X cc nL R Q cells slots pc lv (.int x :: st) ws := by
  subst hx
  have hb : (0 : Nat) < 2 ^ 31 := by decide
  exact v_if_ne C hd ht (fun q => kt (fun e => q ((nI_eq ha (b := 0) hb).mpr e))) (fun q => kf ((nI_eq ha (b := 0) hb).mp q))
theorem v_icmp_ltN (C : OK G X cc own nL ret) {x y : Int32} (a b : Nat) (hx : x = nI a) (hy : y = nI b) (ha : a < 2 ^ 31) (hb : b < 2 ^ 31) {off : Int} {tgt : Nat} (hd : decode cc pc = .ok (.if_icmp .lt off, 3)) (ht : (pc : Int) + off = (tgt : Int)) (kt : a < b → V G X cc nL R Q cells slots tgt lv st ws) (kf : b ≤ a → V G X cc nL R Q cells slots (pc + 3) lv st ws) : V G X cc nL R Q cells slots pc lv (.int y :: .int x :: st) ws := by
  subst hx; subst hy
  exact v_icmp_lt C hd ht (fun q => kt ((nI_ltI ha hb).mp q)) (fun q => kf (by have := mt (nI_ltI ha hb).mpr q; omega))
theorem v_if_ltN (C : OK G X cc own nL ret) {x : Int32} (a : Nat) (hx : x = nI a) (ha : a < 2 ^ 31) {off : Int} {tgt : Nat} (hd : decode cc pc = .ok (.ifCond .lt off, 3)) (ht : (pc : Int) + off = (tgt : Int)) (kt : a < 0 → V G X cc nL R Q cells slots tgt lv st ws) (kf : 0 ≤ a → V G X cc nL R Q cells slots (pc + 3) lv st ws) : V G X cc nL R Q cells slots pc lv (.int x :: st) ws := by
  subst hx
  have hb : (0 : Nat) < 2 ^ 31 := by decide
  exact v_if_lt C hd ht (fun q => kt ((nI_ltI ha (b := 0) hb).mp q)) (fun q => kf (by have := mt (nI_ltI ha (b := 0) hb).mpr q; omega))
theorem v_icmp_geN (C : OK G X cc own nL ret) {x y : Int32} (a b : Nat) (hx : x = nI a) (hy : y = nI b) (ha : a < 2 ^ 31) (hb : b < 2 ^ 31) {off : Int} {tgt : Nat} (hd : decode cc pc = .ok (.if_icmp .ge off, 3)) (ht : (pc : Int) + off = (tgt : Int)) (kt : b ≤ a → V G X cc nL R Q cells slots tgt lv st ws) (kf : a < b → V G X cc nL R Q cells slots (pc + 3) lv st ws) : V G X cc nL R Q cells slots pc lv (.int y :: .int x :: st) ws := by
  subst hx; subst hy
  exact v_icmp_ge C hd ht (fun q => kt ((nI_leI hb ha).mp q)) (fun q => kf (by have := mt (nI_leI hb ha).mpr q; omega))
theorem v_if_geN (C : OK G X cc own nL ret) {x : Int32} (a : Nat) (hx : x = nI a) (ha : a < 2 ^ 31) {off : Int} {tgt : Nat} (hd : decode cc pc = .ok (.ifCond .ge off, 3)) (ht : (pc : Int) + off = (tgt : Int)) (kt : 0 ≤ a → V G X cc nL R Q cells slots tgt lv st ws) (kf : a < 0 → V G X cc nL R Q cells slots (pc + 3) lv st ws) : V G X cc nL R Q cells slots pc lv (.int x :: st) ws := by
  subst hx
  have hb : (0 : Nat) < 2 ^ 31 := by decide
  exact v_if_ge C hd ht (fun q => kt ((nI_leI (a := 0) hb ha).mp q)) (fun q => kf (by have := mt (nI_leI (a := 0) hb ha).mpr q; omega))
theorem v_icmp_gtN (C : OK G X cc own nL ret) {x y : Int32} (a b : Nat) (hx : x = nI a) (hy : y = nI b) (ha : a < 2 ^ 31) (hb : b < 2 ^ 31) {off : Int} {tgt : Nat} (hd : decode cc pc = .ok (.if_icmp .gt off, 3)) (ht : (pc : Int) + off = (tgt : Int)) (kt : b < a → V G X cc nL R Q cells slots tgt lv st ws) (kf : a ≤ b → V G X cc nL R Q cells slots (pc + 3) lv st ws) : V G X cc nL R Q cells slots pc lv (.int y :: .int x :: st) ws := by
  subst hx; subst hy
  exact v_icmp_gt C hd ht (fun q => kt ((nI_ltI hb ha).mp q)) (fun q => kf (by have := mt (nI_ltI hb ha).mpr q; omega))
theorem v_if_gtN (C : OK G X cc own nL ret) {x : Int32} (a : Nat) (hx : x = nI a) (ha : a < 2 ^ 31) {off : Int} {tgt : Nat} (hd : decode cc pc = .ok (.ifCond .gt off, 3)) (ht : (pc : Int) + off = (tgt : Int)) (kt : 0 < a → V G X cc nL R Q cells slots tgt lv st ws) (kf : a ≤ 0 → V G X cc nL R Q cells slots (pc + 3) lv st ws) : V G X cc nL R Q cells slots pc lv (.int x :: st) ws := by
  subst hx
  have hb : (0 : Nat) < 2 ^ 31 := by decide
  exact v_if_gt C hd ht (fun q => kt ((nI_ltI (a := 0) hb ha).mp q)) (fun q => kf (by have := mt (nI_ltI (a := 0) hb ha).mpr q; omega))
theorem v_icmp_leN (C : OK G X cc own nL ret) {x y : Int32} (a b : Nat) (hx : x = nI a) (hy : y = nI b) (ha : a < 2 ^ 31) (hb : b < 2 ^ 31) {off : Int} {tgt : Nat} (hd : decode cc pc = .ok (.if_icmp .le off, 3)) (ht : (pc : Int) + off = (tgt : Int)) (kt : a ≤ b → V G X cc nL R Q cells slots tgt lv st ws) (kf : b < a → V G X cc nL R Q cells slots (pc + 3) lv st ws) : V G X cc nL R Q cells slots pc lv (.int y :: .int x :: st) ws := by
  subst hx; subst hy
  exact v_icmp_le C hd ht (fun q => kt ((nI_leI ha hb).mp q)) (fun q => kf (by have := mt (nI_leI ha hb).mpr q; omega))
theorem v_if_leN (C : OK G X cc own nL ret) {x : Int32} (a : Nat) (hx : x = nI a) (ha : a < 2 ^ 31) {off : Int} {tgt : Nat} (hd : decode cc pc = .ok (.ifCond .le off, 3)) (ht : (pc : Int) + off = (tgt : Int)) (kt : a ≤ 0 → V G X cc nL R Q cells slots tgt lv st ws) (kf : 0 < a → V G X cc nL R Q cells slots (pc + 3) lv st ws) : V G X cc nL R Q cells slots pc lv (.int x :: st) ws := by
  subst hx
  have hb : (0 : Nat) < 2 ^ 31 := by decide
  exact v_if_le C hd ht (fun q => kt ((nI_leI ha (b := 0) hb).mp q)) (fun q => kf (by have := mt (nI_leI ha (b := 0) hb).mpr q; omega))
theorem v_if_eqT (C : OK G X cc own nL ret) {x : Int32} (h : x = 0) {off : Int} {tgt : Nat} (hd : decode cc pc = .ok (.ifCond .eq off, 3)) (ht : (pc : Int) + off = (tgt : Int)) (kt : V G X cc nL R Q cells slots tgt lv st ws) : V G X cc nL R Q cells slots pc lv (.int x :: st) ws := v_if_eq C hd ht (fun _ => kt) (fun q => absurd h q)
theorem v_if_eqF (C : OK G X cc own nL ret) {x : Int32} (h : ¬ x = 0) {off : Int} {tgt : Nat} (hd : decode cc pc = .ok (.ifCond .eq off, 3)) (ht : (pc : Int) + off = (tgt : Int)) (kf : V G X cc nL R Q cells slots (pc + 3) lv st ws) : V G X cc nL R Q cells slots pc lv (.int x :: st) ws := v_if_eq C hd ht (fun q => absurd q h) (fun _ => kf)
theorem v_if_neT (C : OK G X cc own nL ret) {x : Int32} (h : ¬ x = 0) {off : Int} {tgt : Nat} (hd : decode cc pc = .ok (.ifCond .ne off, 3)) (ht : (pc : Int) + off = (tgt : Int)) (kt : V G X cc nL R Q cells slots tgt lv st ws) : V G X cc nL R Q cells slots pc lv (.int x :: st) ws := v_if_ne C hd ht (fun _ => kt) (fun q => absurd q h)
theorem v_if_neF (C : OK G X cc own nL ret) {x : Int32} (h : x = 0) {off : Int} {tgt : Nat} (hd : decode cc pc = .ok (.ifCond .ne off, 3)) (ht : (pc : Int) + off = (tgt : Int)) (kf : V G X cc nL R Q cells slots (pc + 3) lv st ws) : V G X cc nL R Q cells slots pc lv (.int x :: st) ws := v_if_ne C hd ht (fun q => absurd h q) (fun _ => kf)
end VN
