/-! rows over numbers nI: operands that are naturals -/
section VN
variable {G : TG} {X : TX} {cc : ByteArray} {own : String} {nL : Nat} {ret : Option FieldType} {R : Room} {Q : State → Prop} {cells slots pc : Nat} {lv : Nat → Option Value} {st : List Value} {ws : va_W}
theorem Ri_kk {S : Type} {f : Int32 → S → Prop} {w : S → va_W} {mc ms : Nat} (h : ∀ (r : Int32) (u : S), f r u → V G X cc nL R Q mc ms pc lv (.int r :: st) (w u)) : ∀ (v : Option Value) (u : S), Ri f v u → V G X cc nL R Q mc ms pc lv (v.toList ++ st) (w u) := fun v u q => by obtain ⟨r, e, q⟩ := q; subst e; exact h r u q
theorem Rl_kk {S : Type} {f : Int64 → S → Prop} {w : S → va_W} {mc ms : Nat} (h : ∀ (r : Int64) (u : S), f r u → V G X cc nL R Q mc ms pc lv (.long r :: st) (w u)) : ∀ (v : Option Value) (u : S), Rl f v u → V G X cc nL R Q mc ms pc lv (v.toList ++ st) (w u) := fun v u q => by obtain ⟨r, e, q⟩ := q; subst e; exact h r u q
theorem Rv_kk {S : Type} {f : S → Prop} {w : S → va_W} {mc ms : Nat} (h : ∀ (u : S), f u → V G X cc nL R Q mc ms pc lv st (w u)) : ∀ (v : Option Value) (u : S), Rv f v u → V G X cc nL R Q mc ms pc lv (v.toList ++ st) (w u) := fun v u q => by obtain ⟨e, q⟩ := q; subst e; exact h u q
theorem Rq_kk {S : Type} {f : Option Nat → S → Prop} {w : S → va_W} {mc ms : Nat} (h : ∀ (r : Option Nat) (u : S), f r u → V G X cc nL R Q mc ms pc lv (va_rf r :: st) (w u)) : ∀ (v : Option Value) (u : S), Rq f v u → V G X cc nL R Q mc ms pc lv (v.toList ++ st) (w u) := fun v u q => by obtain ⟨r, e, q⟩ := q; subst e; exact h r u q
theorem v_nm {x : Int32} (kk : ∀ y : Int32, y = x → V G X cc nL R Q cells slots pc lv (.int y :: st) ws) : V G X cc nL R Q cells slots pc lv (.int x :: st) ws := kk x rfl
theorem v_nml {x : Int64} (kk : ∀ y : Int64, y = x → V G X cc nL R Q cells slots pc lv (.long y :: st) ws) : V G X cc nL R Q cells slots pc lv (.long x :: st) ws := kk x rfl
theorem V.lessE {l : List (Nat × Value)} (kk : V G X cc nL R Q cells slots pc (lvo l) st ws) (h : lvsub lv l) : V G X cc nL R Q cells slots pc lv st ws := V.less l h kk
theorem v_iaddN (C : OK G X cc own nL ret) {x y : Int32} (a b : Nat) (hx : x = nI a) (hy : y = nI b) (hd : decode cc pc = .ok (.iadd, 1)) (kk : V G X cc nL R Q cells slots (pc + 1) lv (.int (nI (a + b)) :: st) ws) : V G X cc nL R Q cells slots pc lv (.int y :: .int x :: st) ws := by
  subst hx; subst hy
  exact v_iadd C hd (by rw [nI_add]; exact kk)
theorem v_isubN (C : OK G X cc own nL ret) {x y : Int32} (a b : Nat) (hx : x = nI a) (hy : y = nI b) (h : b ≤ a) (hd : decode cc pc = .ok (.isub, 1)) (kk : V G X cc nL R Q cells slots (pc + 1) lv (.int (nI (a - b)) :: st) ws) : V G X cc nL R Q cells slots pc lv (.int y :: .int x :: st) ws := by
  subst hx; subst hy
  exact v_isub C hd (by rw [pk_sub h]; exact kk)
theorem v_imulN (C : OK G X cc own nL ret) {x y : Int32} (a b : Nat) (hx : x = nI a) (hy : y = nI b) (hd : decode cc pc = .ok (.imul, 1)) (kk : V G X cc nL R Q cells slots (pc + 1) lv (.int (nI (a * b)) :: st) ws) : V G X cc nL R Q cells slots pc lv (.int y :: .int x :: st) ws := by
  subst hx; subst hy
  exact v_imul C hd (by rw [pk_mul]; exact kk)
theorem v_idivN (C : OK G X cc own nL ret) {x y : Int32} (a b : Nat) (hx : x = nI a) (hy : y = nI b) (ha : a < 2 ^ 31) (h0 : 0 < b) (hb : b < 2 ^ 31) (hd : decode cc pc = .ok (.idiv, 1)) (kk : V G X cc nL R Q cells slots (pc + 1) lv (.int (nI (a / b)) :: st) ws) : V G X cc nL R Q cells slots pc lv (.int y :: .int x :: st) ws := by
  subst hx; subst hy
  exact v_idiv C hd (nI_ne0 h0 hb) (by rw [pk_div ha h0 hb]; exact kk)
theorem v_iremN (C : OK G X cc own nL ret) {x y : Int32} (a b : Nat) (hx : x = nI a) (hy : y = nI b) (ha : a < 2 ^ 31) (h0 : 0 < b) (hb : b < 2 ^ 31) (hd : decode cc pc = .ok (.irem, 1)) (kk : V G X cc nL R Q cells slots (pc + 1) lv (.int (nI (a % b)) :: st) ws) : V G X cc nL R Q cells slots pc lv (.int y :: .int x :: st) ws := by
  subst hx; subst hy
  exact v_irem C hd (nI_ne0 h0 hb) (by rw [pk_rem ha h0 hb]; exact kk)
theorem v_iinc1 (C : OK G X cc own nL ret) {i : Nat} {x : Int32} (a : Nat) (hx : x = nI a) (hd : decode cc pc = .ok (.iinc i 1, 3)) (h : lv i = some (.int x)) (kk : V G X cc nL R Q cells slots (pc + 3) (s1 lv i (.int (nI (a + 1)))) st ws) : V G X cc nL R Q cells slots pc lv st ws := by
  subst hx
  exact v_iinc C hd h (by rw [nI_succ]; rfl) kk
theorem v_iincI (C : OK G X cc own nL ret) {i : Nat} {x : Int32} (hd : decode cc pc = .ok (.iinc i 1, 3)) (h : lv i = some (.int x)) (kk : V G X cc nL R Q cells slots (pc + 3) (s1 lv i (.int (x + 1))) st ws) : V G X cc nL R Q cells slots pc lv st ws := v_iinc C hd h rfl kk
theorem v_iincD (C : OK G X cc own nL ret) {i : Nat} {x : Int32} (a : Nat) (hx : x = nI a) (h0 : 1 ≤ a) (hd : decode cc pc = .ok (.iinc i (-1), 3)) (h : lv i = some (.int x)) (kk : V G X cc nL R Q cells slots (pc + 3) (s1 lv i (.int (nI (a - 1)))) st ws) : V G X cc nL R Q cells slots pc lv st ws := by
  obtain ⟨b, rfl⟩ : ∃ b, a = b + 1 := ⟨a - 1, by omega⟩
  subst hx
  exact v_iinc C hd h (pk_m1 b) kk
theorem v_icmp_eqN (C : OK G X cc own nL ret) {x y : Int32} (a b : Nat) (hx : x = nI a) (hy : y = nI b) (ha : a < 2 ^ 31) (hb : b < 2 ^ 31) {off : Int} {tgt : Nat} (hd : decode cc pc = .ok (.if_icmp .eq off, 3)) (ht : (pc : Int) + off = (tgt : Int)) (kt : a = b → V G X cc nL R Q cells slots tgt lv st ws) (kf : a ≠ b → V G X cc nL R Q cells slots (pc + 3) lv st ws) : V G X cc nL R Q cells slots pc lv (.int y :: .int x :: st) ws := by
  subst hx; subst hy
  exact v_icmp_eq C hd ht (fun q => kt ((nI_eq ha hb).mp q)) (fun q => kf (fun e => q ((nI_eq ha hb).mpr e)))
theorem v_if_eqN (C : OK G X cc own nL ret) {x : Int32} (a : Nat) (hx : x = nI a) (ha : a < 2 ^ 31) {off : Int} {tgt : Nat} (hd : decode cc pc = .ok (.ifCond .eq off, 3)) (ht : (pc : Int) + off = (tgt : Int)) (kt : a = 0 → V G X cc nL R Q cells slots tgt lv st ws) (kf : a ≠ 0 → V G X cc nL R Q cells slots (pc + 3) lv st ws) : V G X cc nL R Q cells slots pc lv (.int x :: st) ws := by
  subst hx
  have hb : (0 : Nat) < 2 ^ 31 := by decide
  exact v_if_eq C hd ht (fun q => kt ((nI_eq ha (b := 0) hb).mp q)) (fun q => kf (fun e => q ((nI_eq ha (b := 0) hb).mpr e)))
theorem v_icmp_neN (C : OK G X cc own nL ret) {x y : Int32} (a b : Nat) (hx : x = nI a) (hy : y = nI b) (ha : a < 2 ^ 31) (hb : b < 2 ^ 31) {off : Int} {tgt : Nat} (hd : decode cc pc = .ok (.if_icmp .ne off, 3)) (ht : (pc : Int) + off = (tgt : Int)) (kt : a ≠ b → V G X cc nL R Q cells slots tgt lv st ws) (kf : a = b → V G X cc nL R Q cells slots (pc + 3) lv st ws) : V G X cc nL R Q cells slots pc lv (.int y :: .int x :: st) ws := by
  subst hx; subst hy
  exact v_icmp_ne C hd ht (fun q => kt (fun e => q ((nI_eq ha hb).mpr e))) (fun q => kf ((nI_eq ha hb).mp q))
theorem v_if_neN (C : OK G X cc own nL ret) {x : Int32} (a : Nat) (hx : x = nI a) (ha : a < 2 ^ 31) {off : Int} {tgt : Nat} (hd : decode cc pc = .ok (.ifCond .ne off, 3)) (ht : (pc : Int) + off = (tgt : Int)) (kt : a ≠ 0 → V G X cc nL R Q cells slots tgt lv st ws) (kf : a = 0 → V G X cc nL R Q cells slots (pc + 3) lv st ws) : V G X cc nL R Q cells slots pc lv (.int x :: st) ws := by
  subst hx
  have hb : (0 : Nat) < 2 ^ 31 := by decide
  exact v_if_ne C hd ht (fun q => kt (fun e => q ((nI_eq ha (b := 0) hb).mpr e))) (fun q => kf ((nI_eq ha (b := 0) hb).mp q))
theorem v_icmp_ltN (C : OK G X cc own nL ret) {x y : Int32} (a b : Nat) (hx : x = nI a) (hy : y = nI b) (ha : a < 2 ^ 31) (hb : b < 2 ^ 31) {off : Int} {tgt : Nat} (hd : decode cc pc = .ok (.if_icmp .lt off, 3)) (ht : (pc : Int) + off = (tgt : Int)) (kt : a < b → V G X cc nL R Q cells slots tgt lv st ws) (kf : b ≤ a → V G X cc nL R Q cells slots (pc + 3) lv st ws) : V G X cc nL R Q cells slots pc lv (.int y :: .int x :: st) ws := by
  subst hx; subst hy
  exact v_icmp_lt C hd ht (fun q => kt ((nI_ltI ha hb).mp q)) (fun q => kf (by have := mt (nI_ltI ha hb).mpr q; omega))
theorem v_if_ltN (C : OK G X cc own nL ret) {x : Int32} (a : Nat) (hx : x = nI a) (ha : a < 2 ^ 31) {off : Int} {tgt : Nat} (hd : decode cc pc = .ok (.ifCond .lt off, 3)) (ht : (pc : Int) + off = (tgt : Int)) (kt : a < 0 → V G X cc nL R Q cells slots tgt lv st ws) (kf : 0 ≤ a → V G X cc nL R Q cells slots (pc + 3) lv st ws) : V G X cc nL R Q cells slots pc lv (.int x :: st) ws := by
  subst hx
  have hb : (0 : Nat) < 2 ^ 31 := by decide
  exact v_if_lt C hd ht (fun q => kt ((nI_ltI ha (b := 0) hb).mp q)) (fun q => kf (by have := mt (nI_ltI ha (b := 0) hb).mpr q; omega))
theorem v_icmp_geN (C : OK G X cc own nL ret) {x y : Int32} (a b : Nat) (hx : x = nI a) (hy : y = nI b) (ha : a < 2 ^ 31) (hb : b < 2 ^ 31) {off : Int} {tgt : Nat} (hd : decode cc pc = .ok (.if_icmp .ge off, 3)) (ht : (pc : Int) + off = (tgt : Int)) (kt : b ≤ a → V G X cc nL R Q cells slots tgt lv st ws) (kf : a < b → V G X cc nL R Q cells slots (pc + 3) lv st ws) : V G X cc nL R Q cells slots pc lv (.int y :: .int x :: st) ws := by
  subst hx; subst hy
  exact v_icmp_ge C hd ht (fun q => kt ((nI_leI hb ha).mp q)) (fun q => kf (by have := mt (nI_leI hb ha).mpr q; omega))
theorem v_if_geN (C : OK G X cc own nL ret) {x : Int32} (a : Nat) (hx : x = nI a) (ha : a < 2 ^ 31) {off : Int} {tgt : Nat} (hd : decode cc pc = .ok (.ifCond .ge off, 3)) (ht : (pc : Int) + off = (tgt : Int)) (kt : 0 ≤ a → V G X cc nL R Q cells slots tgt lv st ws) (kf : a < 0 → V G X cc nL R Q cells slots (pc + 3) lv st ws) : V G X cc nL R Q cells slots pc lv (.int x :: st) ws := by
  subst hx
  have hb : (0 : Nat) < 2 ^ 31 := by decide
  exact v_if_ge C hd ht (fun q => kt ((nI_leI (a := 0) hb ha).mp q)) (fun q => kf (by have := mt (nI_leI (a := 0) hb ha).mpr q; omega))
theorem v_icmp_gtN (C : OK G X cc own nL ret) {x y : Int32} (a b : Nat) (hx : x = nI a) (hy : y = nI b) (ha : a < 2 ^ 31) (hb : b < 2 ^ 31) {off : Int} {tgt : Nat} (hd : decode cc pc = .ok (.if_icmp .gt off, 3)) (ht : (pc : Int) + off = (tgt : Int)) (kt : b < a → V G X cc nL R Q cells slots tgt lv st ws) (kf : a ≤ b → V G X cc nL R Q cells slots (pc + 3) lv st ws) : V G X cc nL R Q cells slots pc lv (.int y :: .int x :: st) ws := by
  subst hx; subst hy
  exact v_icmp_gt C hd ht (fun q => kt ((nI_ltI hb ha).mp q)) (fun q => kf (by have := mt (nI_ltI hb ha).mpr q; omega))
theorem v_if_gtN (C : OK G X cc own nL ret) {x : Int32} (a : Nat) (hx : x = nI a) (ha : a < 2 ^ 31) {off : Int} {tgt : Nat} (hd : decode cc pc = .ok (.ifCond .gt off, 3)) (ht : (pc : Int) + off = (tgt : Int)) (kt : 0 < a → V G X cc nL R Q cells slots tgt lv st ws) (kf : a ≤ 0 → V G X cc nL R Q cells slots (pc + 3) lv st ws) : V G X cc nL R Q cells slots pc lv (.int x :: st) ws := by
  subst hx
  have hb : (0 : Nat) < 2 ^ 31 := by decide
  exact v_if_gt C hd ht (fun q => kt ((nI_ltI (a := 0) hb ha).mp q)) (fun q => kf (by have := mt (nI_ltI (a := 0) hb ha).mpr q; omega))
theorem v_icmp_leN (C : OK G X cc own nL ret) {x y : Int32} (a b : Nat) (hx : x = nI a) (hy : y = nI b) (ha : a < 2 ^ 31) (hb : b < 2 ^ 31) {off : Int} {tgt : Nat} (hd : decode cc pc = .ok (.if_icmp .le off, 3)) (ht : (pc : Int) + off = (tgt : Int)) (kt : a ≤ b → V G X cc nL R Q cells slots tgt lv st ws) (kf : b < a → V G X cc nL R Q cells slots (pc + 3) lv st ws) : V G X cc nL R Q cells slots pc lv (.int y :: .int x :: st) ws := by
  subst hx; subst hy
  exact v_icmp_le C hd ht (fun q => kt ((nI_leI ha hb).mp q)) (fun q => kf (by have := mt (nI_leI ha hb).mpr q; omega))
theorem v_if_leN (C : OK G X cc own nL ret) {x : Int32} (a : Nat) (hx : x = nI a) (ha : a < 2 ^ 31) {off : Int} {tgt : Nat} (hd : decode cc pc = .ok (.ifCond .le off, 3)) (ht : (pc : Int) + off = (tgt : Int)) (kt : a ≤ 0 → V G X cc nL R Q cells slots tgt lv st ws) (kf : 0 < a → V G X cc nL R Q cells slots (pc + 3) lv st ws) : V G X cc nL R Q cells slots pc lv (.int x :: st) ws := by
  subst hx
  have hb : (0 : Nat) < 2 ^ 31 := by decide
  exact v_if_le C hd ht (fun q => kt ((nI_leI ha (b := 0) hb).mp q)) (fun q => kf (by have := mt (nI_leI ha (b := 0) hb).mpr q; omega))
theorem v_if_eqT (C : OK G X cc own nL ret) {x : Int32} (h : x = 0) {off : Int} {tgt : Nat} (hd : decode cc pc = .ok (.ifCond .eq off, 3)) (ht : (pc : Int) + off = (tgt : Int)) (kt : V G X cc nL R Q cells slots tgt lv st ws) : V G X cc nL R Q cells slots pc lv (.int x :: st) ws := v_if_eq C hd ht (fun _ => kt) (fun q => absurd h q)
theorem v_if_eqF (C : OK G X cc own nL ret) {x : Int32} (h : ¬ x = 0) {off : Int} {tgt : Nat} (hd : decode cc pc = .ok (.ifCond .eq off, 3)) (ht : (pc : Int) + off = (tgt : Int)) (kf : V G X cc nL R Q cells slots (pc + 3) lv st ws) : V G X cc nL R Q cells slots pc lv (.int x :: st) ws := v_if_eq C hd ht (fun q => absurd q h) (fun _ => kf)
theorem v_if_neT (C : OK G X cc own nL ret) {x : Int32} (h : ¬ x = 0) {off : Int} {tgt : Nat} (hd : decode cc pc = .ok (.ifCond .ne off, 3)) (ht : (pc : Int) + off = (tgt : Int)) (kt : V G X cc nL R Q cells slots tgt lv st ws) : V G X cc nL R Q cells slots pc lv (.int x :: st) ws := v_if_ne C hd ht (fun _ => kt) (fun q => absurd q h)
theorem v_if_neF (C : OK G X cc own nL ret) {x : Int32} (h : x = 0) {off : Int} {tgt : Nat} (hd : decode cc pc = .ok (.ifCond .ne off, 3)) (ht : (pc : Int) + off = (tgt : Int)) (kf : V G X cc nL R Q cells slots (pc + 3) lv st ws) : V G X cc nL R Q cells slots pc lv (.int x :: st) ws := v_if_ne C hd ht (fun q => absurd h q) (fun _ => kf)
theorem v_callV0 (C : OK G X cc own nL ret) {S : Type} {w : S → va_W} {post : Option Value → S → Prop} {wc : va_W} {mc ms n : Nat} {y : MethodName} {ccy : ByteArray} {nLy : Nat} {rety : Option FieldType} {rm : Room} {idx : Nat} {b : Nat} {As stk : List Value} {ci q0 : Nat} {fs : List Value} {T : u_T} {N : Nat} (hM : CT G y ccy nLy rety rm mc ms (.ref b :: As) wc w post) (hY : CY y ccy nLy rety n) (hV : CV y) (k1 : Cond.methodLink own idx y ∈ W0) (hd : decode cc pc = .ok (.invokevirtual idx, 3)) (hn : As.length = n) (he : wc[q0]? = some (b, .inr (ci, fs))) (hc : vwCl[ci]? = some (y.cls, T, N)) (hrc : rm.cells = mc) (hrs : rm.slots = ms) (hR : rm.frames + 1 ≤ R.frames ∧ 8 + (nLy + 11) + rm.locals ≤ R.locals) (hst : (st.map fun v => v.category).sum ≤ 8) (hf : cells + mc ≤ R.cells ∧ slots + ms ≤ R.slots) (hs : stk = As.reverse ++ .ref b :: st) (kk : ∀ (v : Option Value) (u : S), post v u → V G X cc nL R Q (cells + mc) (slots + ms) (pc + 3) lv (v.toList ++ st) (w u)) : V G X cc nL R Q cells slots pc lv stk wc := v_callV (wr := []) C hM hY hV k1 hd hn he hc hrc hrs hR hst hf hs kk
theorem v_callVN0 (C : OK G X cc own nL ret) {S : Type} {w : S → va_W} {post : Option Value → S → Prop} {wc : va_W} {mc ms n : Nat} {y : MethodName} {ccy : ByteArray} {nLy : Nat} {rety : Option FieldType} {rm : Room} {idx : Nat} {b : Nat} {As stk : List Value} {ci q0 : Nat} {fs : List Value} {T : u_T} {N : Nat} (hM : CT G y ccy nLy rety rm mc ms (.ref b :: As) wc w post) (hY : CY y ccy nLy rety n) (hV : CV y) {host : String} (k1 : Cond.methodLinkNest own idx y host ∈ nestL) (hd : decode cc pc = .ok (.invokevirtual idx, 3)) (hn : As.length = n) (he : wc[q0]? = some (b, .inr (ci, fs))) (hc : vwCl[ci]? = some (y.cls, T, N)) (hrc : rm.cells = mc) (hrs : rm.slots = ms) (hR : rm.frames + 1 ≤ R.frames ∧ 8 + (nLy + 11) + rm.locals ≤ R.locals) (hst : (st.map fun v => v.category).sum ≤ 8) (hf : cells + mc ≤ R.cells ∧ slots + ms ≤ R.slots) (hs : stk = As.reverse ++ .ref b :: st) (kk : ∀ (v : Option Value) (u : S), post v u → V G X cc nL R Q (cells + mc) (slots + ms) (pc + 3) lv (v.toList ++ st) (w u)) : V G X cc nL R Q cells slots pc lv stk wc := v_callVN (wr := []) C hM hY hV k1 hd hn he hc hrc hrs hR hst hf hs kk
theorem v_callS0 (C : OK G X cc own nL ret) {S : Type} {w : S → va_W} {post : Option Value → S → Prop} {wc : va_W} {mc ms n : Nat} {y : MethodName} {ccy : ByteArray} {nLy : Nat} {rety : Option FieldType} {rm : Room} {idx : Nat} {As stk : List Value} (hM : CT G y ccy nLy rety rm mc ms As wc w post) (hY : CY y ccy nLy rety n) (hV : Cond.static y ∈ W0) (k1 : Cond.methodLink own idx y ∈ W0) (hd : decode cc pc = .ok (.invokestatic idx, 3)) (hn : As.length = n) (hrc : rm.cells = mc) (hrs : rm.slots = ms) (hR : rm.frames + 1 ≤ R.frames ∧ 8 + (nLy + 11) + rm.locals ≤ R.locals) (hst : (st.map fun v => v.category).sum ≤ 8) (hf : cells + mc ≤ R.cells ∧ slots + ms ≤ R.slots) (hs : stk = As.reverse ++ st) (kk : ∀ (v : Option Value) (u : S), post v u → V G X cc nL R Q (cells + mc) (slots + ms) (pc + 3) lv (v.toList ++ st) (w u)) : V G X cc nL R Q cells slots pc lv stk wc := v_callS (wr := []) C hM hY hV k1 hd hn hrc hrs hR hst hf hs kk
theorem v_callSN0 (C : OK G X cc own nL ret) {S : Type} {w : S → va_W} {post : Option Value → S → Prop} {wc : va_W} {mc ms n : Nat} {y : MethodName} {ccy : ByteArray} {nLy : Nat} {rety : Option FieldType} {rm : Room} {idx : Nat} {As stk : List Value} (hM : CT G y ccy nLy rety rm mc ms As wc w post) (hY : CY y ccy nLy rety n) (hV : Cond.static y ∈ W0) {host : String} (k1 : Cond.methodLinkNest own idx y host ∈ nestL) (hd : decode cc pc = .ok (.invokestatic idx, 3)) (hn : As.length = n) (hrc : rm.cells = mc) (hrs : rm.slots = ms) (hR : rm.frames + 1 ≤ R.frames ∧ 8 + (nLy + 11) + rm.locals ≤ R.locals) (hst : (st.map fun v => v.category).sum ≤ 8) (hf : cells + mc ≤ R.cells ∧ slots + ms ≤ R.slots) (hs : stk = As.reverse ++ st) (kk : ∀ (v : Option Value) (u : S), post v u → V G X cc nL R Q (cells + mc) (slots + ms) (pc + 3) lv (v.toList ++ st) (w u)) : V G X cc nL R Q cells slots pc lv stk wc := v_callSN (wr := []) C hM hY hV k1 hd hn hrc hrs hR hst hf hs kk
/-- a row's contents count only within its length -/
theorem arrV_cong {c : ClassId} {n : Nat} {f g : Nat → Value} (h : ∀ k, k < n → f k = g k) : arrV c n f = arrV c n g := by
  unfold arrV
  congr 2
  funext j
  exact h j.val j.isLt
theorem V.funI {q0 a n : Nat} {c : ClassId} {f g : Nat → Int32} (he : ws[q0]? = some (a, .inl (c, n, .inl f))) (h : ∀ k, k < n → f k = g k) {ws' : va_W} (hws : ws.set q0 (a, .inl (c, n, .inl g)) = ws') (kk : V G X cc nL R Q cells slots pc lv st ws') : V G X cc nL R Q cells slots pc lv st ws := by
  subst hws
  intro H locs ls hl hP hD hS
  refine kk H locs ls hl (hP.set hD he ?_ (fun _ _ => rfl)) (hD.set he) hS
  show H[a]? = some (vp_cell c (n, .inl g))
  have h1 : H[a]? = some (vp_cell c (n, .inl f)) := hP q0 _ he
  rw [h1, vp_cell_i, vp_cell_i, arrV_cong (fun k hk => by rw [h k hk])]
theorem CT.mono {y : MethodName} {ccy : ByteArray} {nLy : Nat} {rety : Option FieldType} {rm : Room} {mc ms : Nat} {av : List Value} {S S2 : Type} {w : S → va_W} {post : Option Value → S → Prop} {w2 : S2 → va_W} {post2 : Option Value → S2 → Prop} (h : CT G y ccy nLy rety rm mc ms av ws w post) (hp : ∀ v u, post v u → ∃ u2, w u = w2 u2 ∧ post2 v u2) : CT G y ccy nLy rety rm mc ms av ws w2 post2 := by
  intro sz p e ha hc hk s m args below hf happ hP hK
  obtain ⟨n, o, h1, h2, h3, ⟨⟨v, u, q1, q2, q3, q4⟩, q5⟩, q6⟩ := h sz p e ha hc hk s m args below hf happ hP hK
  obtain ⟨u2, e2, q2⟩ := hp v u q2
  exact ⟨n, o, h1, h2, h3, ⟨⟨v, u2, q1, q2, by rw [← e2]; exact q3, by rw [← e2]; exact q4⟩, q5⟩, q6⟩
theorem CT.monoI {y : MethodName} {ccy : ByteArray} {nLy : Nat} {rety : Option FieldType} {rm : Room} {mc ms : Nat} {av : List Value} {S : Type} {w : S → va_W} {f g : Int32 → S → Prop} (h : CT G y ccy nLy rety rm mc ms av ws w (Ri f)) (hp : ∀ v u, f v u → g v u) : CT G y ccy nLy rety rm mc ms av ws w (Ri g) := h.mono (fun v u q => ⟨u, rfl, by obtain ⟨r, e, q⟩ := q; exact ⟨r, e, hp r u q⟩⟩)
theorem CT.monoV {y : MethodName} {ccy : ByteArray} {nLy : Nat} {rety : Option FieldType} {rm : Room} {mc ms : Nat} {av : List Value} {S : Type} {w : S → va_W} {f g : S → Prop} (h : CT G y ccy nLy rety rm mc ms av ws w (Rv f)) (hp : ∀ u, f u → g u) : CT G y ccy nLy rety rm mc ms av ws w (Rv g) := h.mono (fun v u q => ⟨u, rfl, by obtain ⟨e, q⟩ := q; exact ⟨e, hp u q⟩⟩)
end VN
