/-! bits (rows wb_ and nx_and: out of kit/laws/BITS.to-paste) -/
theorem wb_tb (n : Nat) : (lN n).toBitVec = BitVec.ofNat 64 n := rfl
theorem wb_inj {a b : Int64} (h : a.toBitVec = b.toBitVec) : a = b := Int64.toBitVec_inj.mp h
theorem wb_tn {n : Nat} (h : n < 2 ^ 64) : (lN n).toBitVec.toNat = n := by rw [wb_tb, BitVec.toNat_ofNat, Nat.mod_eq_of_lt h]
theorem wb_of (x : Int64) : ∃ n, n < 2 ^ 64 ∧ x = lN n := ⟨x.toBitVec.toNat, x.toBitVec.isLt, wb_inj (by rw [wb_tb]; simp)⟩
theorem wb_of32 (x : Int32) : ∃ n, n < 2 ^ 32 ∧ x = nI n := ⟨x.toBitVec.toNat, x.toBitVec.isLt, Int32.toBitVec_inj.mp (by show _ = BitVec.ofNat 32 _; simp)⟩
theorem wb_c : ∀ k, k < 64 → ((nI k).toInt64 &&& 63) = lN k := by decide +kernel
theorem wb_cu : ∀ k, k < 64 → ((nI k).toInt64.toUInt64 &&& Int64.toUInt64 63) = UInt64.ofNat k := by decide +kernel
theorem wb_sm : ∀ k, k < 64 → (BitVec.ofNat 64 k).smod 64 = BitVec.ofNat 64 k := by decide +kernel
theorem wb_pw {a b : Nat} (h : a ≤ b) : 2 ^ b = 2 ^ a * 2 ^ (b - a) := by rw [← Nat.pow_add]; congr 1; omega
theorem wb_lt2 {a b : Nat} (h : a < b) : 2 ^ a < 2 ^ b := Nat.pow_lt_pow_right (by decide) h
theorem wb_mod (n : Nat) : lN n = lN (n % 2 ^ 64) := wb_inj (by rw [wb_tb, wb_tb]; apply BitVec.eq_of_toNat_eq; rw [BitVec.toNat_ofNat, BitVec.toNat_ofNat, Nat.mod_mod])
theorem wb_shr {n k : Nat} (hn : n < 2 ^ 64) (hk : k < 64) : ((lN n).toUInt64 >>> ((nI k).toInt64.toUInt64 &&& Int64.toUInt64 63)).toInt64 = lN (n / 2 ^ k) := by
  rw [wb_cu k hk]
  apply wb_inj
  apply BitVec.eq_of_toNat_eq
  show ((lN n).toUInt64 >>> UInt64.ofNat k).toNat = (BitVec.ofNat 64 _).toNat
  have h1 : (UInt64.ofNat k).toNat = k := by
    show (BitVec.ofNat 64 k).toNat = k
    rw [BitVec.toNat_ofNat, Nat.mod_eq_of_lt (by omega)]
  have h2 : (lN n).toUInt64.toNat = n := wb_tn hn
  rw [UInt64.toNat_shiftRight, h1, h2, Nat.mod_eq_of_lt hk, Nat.shiftRight_eq_div_pow, BitVec.toNat_ofNat, Nat.mod_eq_of_lt (Nat.lt_of_le_of_lt (Nat.div_le_self _ _) hn)]
theorem wb_shl (n : Nat) {k : Nat} (hk : k < 64) : lN n <<< ((nI k).toInt64 &&& 63) = lN (n * 2 ^ k) := by
  rw [wb_c k hk]
  apply wb_inj
  rw [Int64.toBitVec_shiftLeft, wb_tb, wb_tb, wb_tb, wb_sm k hk]
  apply BitVec.eq_of_toNat_eq
  rw [BitVec.shiftLeft_eq', BitVec.toNat_shiftLeft, BitVec.toNat_ofNat, BitVec.toNat_ofNat, BitVec.toNat_ofNat, Nat.mod_eq_of_lt (show k < 2 ^ 64 by omega), Nat.shiftLeft_eq, Nat.mul_mod, Nat.mod_mod, ← Nat.mul_mod]
theorem wb_and {a b : Nat} (ha : a < 2 ^ 64) (hb : b < 2 ^ 64) : lN a &&& lN b = lN (a &&& b) := by
  apply wb_inj
  rw [Int64.toBitVec_and, wb_tb, wb_tb, wb_tb]
  apply BitVec.eq_of_toNat_eq
  rw [BitVec.toNat_and, BitVec.toNat_ofNat, BitVec.toNat_ofNat, BitVec.toNat_ofNat, Nat.mod_eq_of_lt ha, Nat.mod_eq_of_lt hb, Nat.mod_eq_of_lt (Nat.and_lt_two_pow _ hb)]
theorem wb_or {a b : Nat} (ha : a < 2 ^ 64) (hb : b < 2 ^ 64) : lN a ||| lN b = lN (a ||| b) := by
  apply wb_inj
  rw [Int64.toBitVec_or, wb_tb, wb_tb, wb_tb]
  apply BitVec.eq_of_toNat_eq
  rw [BitVec.toNat_or, BitVec.toNat_ofNat, BitVec.toNat_ofNat, BitVec.toNat_ofNat, Nat.mod_eq_of_lt ha, Nat.mod_eq_of_lt hb, Nat.mod_eq_of_lt (Nat.or_lt_two_pow ha hb)]
theorem nx_and (a b : Nat) : nI a &&& nI b = nI (a &&& b) := by
  apply Int32.toBitVec_inj.1
  show BitVec.ofNat 32 a &&& BitVec.ofNat 32 b = BitVec.ofNat 32 (a &&& b)
  apply BitVec.eq_of_getLsbD_eq
  intro i hi
  simp [hi]
theorem and_split (a b c d : Nat) (hb : b < 256) (hd : d < 256) : (b + 256 * a) &&& (d + 256 * c) = (b &&& d) + 256 * (a &&& c) := by
  have hbd : b &&& d < 2 ^ 8 := Nat.and_lt_two_pow _ hd
  apply Nat.eq_of_testBit_eq
  intro i
  rw [Nat.testBit_and, Nat.add_comm b, Nat.add_comm d, Nat.add_comm (b &&& d), show (256 : Nat) = 2 ^ 8 from rfl, Nat.testBit_two_pow_mul_add _ hb, Nat.testBit_two_pow_mul_add _ hd, Nat.testBit_two_pow_mul_add _ hbd]
  split
  · rw [Nat.testBit_and]
  · rw [Nat.testBit_and]
/-- a mask of k bytes -/
def mkB (m : Nat) : Nat → Nat
  | 0 => 0
  | k + 1 => m + 256 * mkB m k
def p1 (k n : Nat) : Nat := n - ((n / 2) &&& mkB 85 k)
def p2 (k n : Nat) : Nat := (n &&& mkB 51 k) + ((n / 4) &&& mkB 51 k)
def p3 (k n : Nat) : Nat := (n + n / 16) &&& mkB 15 k
theorem p1_b : ∀ b, b < 256 → ∀ e, e < 2 → (b / 2 + 128 * e) &&& 85 = (b / 2) &&& 85 := by decide +kernel
theorem p2_b : ∀ b, b < 256 → ∀ e, e < 4 → (b / 4 + 64 * e) &&& 51 = (b / 4) &&& 51 := by decide +kernel
theorem p3_b : ∀ b, b < 256 → ∀ e, e < 5 → (p2 1 (p1 1 b) + p2 1 (p1 1 b) / 16 + 16 * e) &&& 15 = p3 1 (p2 1 (p1 1 b)) := by decide +kernel
theorem pb_1 : ∀ b, b < 256 → p1 1 b < 256 := by decide +kernel
theorem pb_2 : ∀ b, b < 256 → p2 1 (p1 1 b) ≤ 68 ∧ p2 1 (p1 1 b) % 16 ≤ 4 := by decide +kernel
theorem pb_3 : ∀ b, b < 256 → p3 1 (p2 1 (p1 1 b)) = popN b 8 := by decide +kernel
theorem p1_s {k b y : Nat} (hb : b < 256) : p1 (k + 1) (b + 256 * y) = p1 1 b + 256 * p1 k y := by
  have e : (b + 256 * y) / 2 = (b / 2 + 128 * (y % 2)) + 256 * (y / 2) := by omega
  have h1 : (b / 2) &&& 85 ≤ b / 2 := Nat.and_le_left
  have h2 : (y / 2) &&& mkB 85 k ≤ y / 2 := Nat.and_le_left
  show b + 256 * y - (((b + 256 * y) / 2) &&& (85 + 256 * mkB 85 k)) = (b - ((b / 2) &&& 85)) + 256 * (y - ((y / 2) &&& mkB 85 k))
  rw [e, and_split _ _ _ _ (by omega) (by decide), p1_b b hb _ (by omega)]
  omega
theorem p2_s {k b y : Nat} (hb : b < 256) : p2 (k + 1) (b + 256 * y) = p2 1 b + 256 * p2 k y := by
  have e : (b + 256 * y) / 4 = (b / 4 + 64 * (y % 4)) + 256 * (y / 4) := by omega
  show ((b + 256 * y) &&& (51 + 256 * mkB 51 k)) + (((b + 256 * y) / 4) &&& (51 + 256 * mkB 51 k)) = ((b &&& 51) + ((b / 4) &&& 51)) + 256 * ((y &&& mkB 51 k) + ((y / 4) &&& mkB 51 k))
  rw [e, and_split _ _ _ _ hb (by decide), and_split _ _ _ _ (by omega) (by decide), p2_b b hb _ (by omega)]
  omega
theorem p2_lo {k : Nat} : ∀ n, n < 256 ^ k → p2 k (p1 k n) % 16 ≤ 4 := by
  cases k with
  | zero => intro n hn; have : n = 0 := by omega
            subst this; decide
  | succ k =>
    intro n hn
    obtain ⟨b, y, hb, rfl⟩ : ∃ b y, b < 256 ∧ n = b + 256 * y := ⟨n % 256, n / 256, by omega, by omega⟩
    rw [p1_s hb, p2_s (pb_1 b hb)]
    have := (pb_2 b hb).2
    omega
theorem pall {k b y : Nat} (hb : b < 256) (hy : y < 256 ^ k) : p3 (k + 1) (p2 (k + 1) (p1 (k + 1) (b + 256 * y))) = popN b 8 + 256 * p3 k (p2 k (p1 k y)) := by
  have hlo := p2_lo y hy
  have h2 := pb_2 b hb
  rw [p1_s hb, p2_s (pb_1 b hb)]
  generalize hu : p2 k (p1 k y) = u at hlo ⊢
  have e : (p2 1 (p1 1 b) + 256 * u) + (p2 1 (p1 1 b) + 256 * u) / 16 = (p2 1 (p1 1 b) + p2 1 (p1 1 b) / 16 + 16 * (u % 16)) + 256 * (u + u / 16) := by omega
  show ((p2 1 (p1 1 b) + 256 * u) + (p2 1 (p1 1 b) + 256 * u) / 16) &&& (15 + 256 * mkB 15 k) = popN b 8 + 256 * ((u + u / 16) &&& mkB 15 k)
  rw [e, and_split _ _ _ _ (by omega) (by decide), p3_b b hb _ (by omega), pb_3 b hb]
theorem popN_8 {b y : Nat} (hb : b < 256) : popN (b + 256 * y) 8 = popN b 8 := by
  have key : ∀ j, j < 8 → (b + 256 * y) / 2 ^ j % 2 = b / 2 ^ j % 2 := by
    intro j hj
    rcases (show j = 0 ∨ j = 1 ∨ j = 2 ∨ j = 3 ∨ j = 4 ∨ j = 5 ∨ j = 6 ∨ j = 7 by omega) with rfl | rfl | rfl | rfl | rfl | rfl | rfl | rfl <;> omega
  have h : ∀ m, m ≤ 8 → popN (b + 256 * y) m = popN b m := by
    intro m
    induction m with
    | zero => intro _; rfl
    | succ m ih =>
      intro hm
      show popN (b + 256 * y) m + (b + 256 * y) / 2 ^ m % 2 = popN b m + b / 2 ^ m % 2
      rw [ih (by omega), key m (by omega)]
  exact h 8 (Nat.le_refl 8)
theorem popN_hi {b y : Nat} (hb : b < 256) : ∀ m, popN (b + 256 * y) (8 + m) = popN b 8 + popN y m := by
  intro m
  induction m with
  | zero => exact popN_8 hb
  | succ m ih =>
    show popN (b + 256 * y) (8 + m) + (b + 256 * y) / 2 ^ (8 + m) % 2 = popN b 8 + (popN y m + y / 2 ^ m % 2)
    rw [ih, Nat.pow_add, show (2 : Nat) ^ 8 = 256 from rfl, ← Nat.div_div_eq_div_mul, show (b + 256 * y) / 256 = y by omega]
    omega
theorem pow256 (n k : Nat) (h : n < 256 ^ (k + 1)) : ∃ b y, b < 256 ∧ y < 256 ^ k ∧ n = b + 256 * y := by
  rw [Nat.pow_succ] at h
  exact ⟨n % 256, n / 256, by omega, by omega, by omega⟩
theorem pN8 (b : Nat) : popN b 8 ≤ 8 := popN_le b 8
theorem dv1 {a y : Nat} (h : a < 256) : (a + 256 * y) / 256 = y := by omega
theorem dv2 {a b y : Nat} (h : a < 256) (g : b < 256) : (a + 256 * (b + 256 * y)) / 65536 = y := by rw [show 65536 = 256 * 256 from rfl, ← Nat.div_div_eq_div_mul, dv1 h, dv1 g]
theorem dv4 {a b c d y : Nat} (h : a < 256) (g : b < 256) (i : c < 256) (j : d < 256) : (a + 256 * (b + 256 * (c + 256 * (d + 256 * y)))) / 4294967296 = y := by rw [show 4294967296 = 256 * 256 * 256 * 256 from rfl, ← Nat.div_div_eq_div_mul, ← Nat.div_div_eq_div_mul, ← Nat.div_div_eq_div_mul, dv1 h, dv1 g, dv1 i, dv1 j]
theorem fin64 {a b y z t : Nat} (h : a + b < 128) (e : a + b = t) : (a + 256 * y + (b + 256 * z)) % 128 = t := by omega
theorem zL {a b x y z : Nat} (h1 : x = a + 256 * y) (h2 : y = b + 256 * z) : x + y = (a + b) + 256 * (y + z) := by omega
theorem uL {a b x y z w : Nat} (h1 : x = a + 256 * y) (h2 : z = b + 256 * w) : x + z = (a + b) + 256 * (y + w) := by omega
theorem ar64 {c0 c1 c2 c3 c4 c5 c6 c7 y0 y1 y2 y3 y4 y5 y6 : Nat} (q0 : c0 ≤ 8) (q1 : c1 ≤ 8) (q2 : c2 ≤ 8) (q3 : c3 ≤ 8) (q4 : c4 ≤ 8) (q5 : c5 ≤ 8) (q6 : c6 ≤ 8) (q7 : c7 ≤ 8) (h6 : y6 = c6 + 256 * c7) (h5 : y5 = c5 + 256 * y6) (h4 : y4 = c4 + 256 * y5) (h3 : y3 = c3 + 256 * y4) (h2 : y2 = c2 + 256 * y3) (h1 : y1 = c1 + 256 * y2) (h0 : y0 = c0 + 256 * y1) : ((y0 + y0 / 256) + (y0 + y0 / 256) / 65536 + ((y0 + y0 / 256) + (y0 + y0 / 256) / 65536) / 4294967296) % 128 = c0 + (c1 + (c2 + (c3 + (c4 + (c5 + (c6 + c7)))))) := by
  have h7 : c7 = c7 + 256 * 0 := by rw [Nat.mul_zero, Nat.add_zero]
  have l1 : ∀ {a b : Nat}, a ≤ 8 → b ≤ 8 → a + b ≤ 16 := fun h g => Nat.add_le_add h g
  have z0 := zL h0 h1
  have z1 := zL h1 h2
  have z2 := zL h2 h3
  have z3 := zL h3 h4
  have z4 := zL h4 h5
  have z5 := zL h5 h6
  have z6 := zL h6 h7
  have d1 : y0 / 256 = y1 := by rw [h0]; exact dv1 (Nat.lt_of_le_of_lt q0 (by decide))
  have m01 := l1 q0 q1
  have m12 := l1 q1 q2
  have m23 := l1 q2 q3
  have m34 := l1 q3 q4
  have m45 := l1 q4 q5
  have m56 := l1 q5 q6
  have m67 := l1 q6 q7
  have d2 : (y0 + y1) / 65536 = y2 + y3 := by rw [z0, z1]; exact dv2 (Nat.lt_of_le_of_lt m01 (by decide)) (Nat.lt_of_le_of_lt m12 (by decide))
  have u0 := uL z0 z2
  have u1 := uL z1 z3
  have u2 := uL z2 z4
  have u3 := uL z3 z5
  have u4 := uL z4 z6
  have l2 : ∀ {a b : Nat}, a ≤ 16 → b ≤ 16 → a + b < 256 := fun h g => Nat.lt_of_le_of_lt (Nat.add_le_add h g) (by decide)
  have d3 : ((y0 + y1) + (y2 + y3)) / 4294967296 = (y4 + y5) + (y6 + c7) := by
    rw [u0, u1, u2, u3]
    exact dv4 (l2 m01 m23) (l2 m12 m34) (l2 m23 m45) (l2 m34 m56)
  rw [d1, d2, d3, u0, u4]
  clear z0 z1 z2 z3 z4 z5 z6 d1 d2 d3 u0 u1 u2 u3 u4 h0 h1 h2 h3 h4 h5 h6 h7 l1 l2
  exact fin64 (by omega) (by omega)
theorem lt60 {c0 c1 c2 c3 c4 c5 c6 c7 : Nat} (q0 : c0 ≤ 8) (q1 : c1 ≤ 8) (q2 : c2 ≤ 8) (q3 : c3 ≤ 8) (q4 : c4 ≤ 8) (q5 : c5 ≤ 8) (q6 : c6 ≤ 8) (q7 : c7 ≤ 8) : c0 + 256 * (c1 + 256 * (c2 + 256 * (c3 + 256 * (c4 + 256 * (c5 + 256 * (c6 + 256 * c7)))))) < 2 ^ 60 := by
  have key : ∀ {a y m : Nat}, a ≤ 8 → y ≤ m → a + 256 * y ≤ 8 + 256 * m := fun h g => Nat.add_le_add h (Nat.mul_le_mul_left 256 g)
  exact Nat.lt_of_le_of_lt (key q0 (key q1 (key q2 (key q3 (key q4 (key q5 (key q6 q7))))))) (by decide)
/-- the JDK's count of a long's bits -/
theorem pc64 {n : Nat} (hn : n < 2 ^ 64) : ∃ x3, x3 < 2 ^ 60 ∧ p3 8 (p2 8 (p1 8 n)) = x3 ∧ ((x3 + x3 / 256) + (x3 + x3 / 256) / 65536 + ((x3 + x3 / 256) + (x3 + x3 / 256) / 65536) / 4294967296) % 128 = popN n 64 := by
  obtain ⟨b0, y0, h0, g0, rfl⟩ := pow256 n 7 hn
  obtain ⟨b1, y1, h1, g1, rfl⟩ := pow256 y0 6 g0
  obtain ⟨b2, y2, h2, g2, rfl⟩ := pow256 y1 5 g1
  obtain ⟨b3, y3, h3, g3, rfl⟩ := pow256 y2 4 g2
  obtain ⟨b4, y4, h4, g4, rfl⟩ := pow256 y3 3 g3
  obtain ⟨b5, y5, h5, g5, rfl⟩ := pow256 y4 2 g4
  obtain ⟨b6, y6, h6, g6, rfl⟩ := pow256 y5 1 g5
  obtain ⟨b7, y7, h7, g7, rfl⟩ := pow256 y6 0 g6
  have e7 : y7 = 0 := Nat.lt_one_iff.mp g7
  subst e7
  rw [pall h0 g0, pall h1 g1, pall h2 g2, pall h3 g3, pall h4 g4, pall h5 g5, pall h6 g6, pall h7 g7]
  rw [popN_hi h0 56, popN_hi h1 48, popN_hi h2 40, popN_hi h3 32, popN_hi h4 24, popN_hi h5 16, popN_hi h6 8, popN_hi h7 0]
  have q0 := pN8 b0
  have q1 := pN8 b1
  have q2 := pN8 b2
  have q3 := pN8 b3
  have q4 := pN8 b4
  have q5 := pN8 b5
  have q6 := pN8 b6
  have q7 := pN8 b7
  have z3 : p3 0 (p2 0 (p1 0 0)) = 0 := by decide
  have z0 : popN 0 0 = 0 := rfl
  rw [z3, z0, Nat.mul_zero, Nat.add_zero]
  refine ⟨_, ?_, rfl, ar64 q0 q1 q2 q3 q4 q5 q6 q7 rfl rfl rfl rfl rfl rfl rfl⟩
  exact lt60 q0 q1 q2 q3 q4 q5 q6 q7
/-- the JDK's count of an int's bits -/
theorem pc32 {n : Nat} (hn : n < 65536) : ∃ x3, x3 < 2 ^ 12 ∧ p3 4 (p2 4 (p1 4 n)) = x3 ∧ ((x3 + x3 / 256) + (x3 + x3 / 256) / 65536) % 64 = popN n 16 := by
  obtain ⟨b0, y0, h0, g0, rfl⟩ := pow256 n 3 (by omega)
  obtain ⟨b1, y1, h1, g1, rfl⟩ := pow256 y0 2 g0
  have e7 : y1 = 0 := by omega
  subst e7
  rw [pall h0 g0, pall h1 g1]
  rw [popN_hi h0 8, popN_hi h1 0]
  have q0 := pN8 b0
  have q1 := pN8 b1
  have z3 : p3 2 (p2 2 (p1 2 0)) = 0 := by decide
  have z0 : popN 0 0 = 0 := rfl
  rw [z3, z0]
  generalize popN b0 8 = c0 at *
  generalize popN b1 8 = c1 at *
  refine ⟨_, ?_, rfl, ?_⟩
  · omega
  · have a1 : (c0 + 256 * (c1 + 256 * 0)) / 256 = c1 := by omega
    rw [a1]
    have a2 : (c0 + 256 * (c1 + 256 * 0) + c1) / 65536 = 0 := by omega
    rw [a2]
    omega
/-- bit k of a long -/
def lb (L : Int64) (k : Nat) : Bool := L.toBitVec.getLsbD k
theorem lb_nat (L : Int64) (k : Nat) : lb L k = decide (L.toBitVec.toNat / 2 ^ k % 2 = 1) := Nat.testBit_eq_decide_div_mod_eq
theorem tw64 : ∀ l, l < 64 → ((1 : Int64) <<< ((nI l).toInt64 &&& 63)).toBitVec = BitVec.twoPow 64 l := by decide +kernel
theorem lb_or {L : Int64} {k : Nat} (hk : k < 64) (j : Nat) : lb (L ||| ((1 : Int64) <<< ((nI k).toInt64 &&& 63))) j = (lb L j || decide (k = j)) := by
  unfold lb
  rw [Int64.toBitVec_or, BitVec.getLsbD_or, tw64 k hk, BitVec.getLsbD_twoPow]
  simp [hk]
theorem lb_clr {L : Int64} {k j : Nat} (hk : k < 64) (hj : j < 64) : lb (L &&& (((1 : Int64) <<< ((nI k).toInt64 &&& 63)) ^^^ (-1))) j = (lb L j && !decide (k = j)) := by
  have ho : (-1 : Int64).toBitVec = BitVec.allOnes 64 := by decide
  unfold lb
  rw [Int64.toBitVec_and, BitVec.getLsbD_and, Int64.toBitVec_xor, BitVec.getLsbD_xor, tw64 k hk, ho, BitVec.getLsbD_twoPow, BitVec.getLsbD_allOnes]
  simp [hk, hj]
theorem hb0 {L : Int64} {k : Nat} (hk : k < 64) : (L >>> ((nI k).toInt64 &&& 63)) &&& 1 = 0 ↔ lb L k = false := by
  rw [wb_c k hk, ← Int64.toBitVec_inj, Int64.toBitVec_and, Int64.toBitVec_shiftRight, wb_tb, wb_sm k hk]
  have e0 : (0 : Int64).toBitVec = 0#64 := rfl
  have e1 : (1 : Int64).toBitVec = 1#64 := rfl
  rw [e0, e1]
  have hs : (BitVec.ofNat 64 k).toNat = k := by rw [BitVec.toNat_ofNat, Nat.mod_eq_of_lt (by omega)]
  unfold lb
  have g0 : ((L.toBitVec.sshiftRight' (BitVec.ofNat 64 k)) &&& 1#64).getLsbD 0 = L.toBitVec.getLsbD k := by
    rw [BitVec.getLsbD_and, BitVec.sshiftRight_eq', hs, BitVec.getLsbD_sshiftRight]
    simp [hk]
  constructor
  · intro h
    rw [h] at g0
    rw [← g0]; simp
  · intro h
    apply BitVec.eq_of_getLsbD_eq
    intro i hi
    by_cases e : i = 0
    · subst e; rw [g0, h]; simp
    · rw [BitVec.getLsbD_and]
      have : (1#64).getLsbD i = false := by simp [e]
      rw [this]; simp
/-- the bits of a long below n, the lowest first -/
def bl (L : Int64) : Nat → List Nat
  | 0 => []
  | n + 1 => if lb L n = true then bl L n ++ [n] else bl L n
theorem bl_yes {L : Int64} {n : Nat} (h : lb L n = true) : bl L (n + 1) = bl L n ++ [n] := if_pos h
theorem bl_no {L : Int64} {n : Nat} (h : ¬ lb L n = true) : bl L (n + 1) = bl L n := if_neg h
theorem bl_len (L : Int64) : ∀ n, (bl L n).length = popN L.toBitVec.toNat n
  | 0 => rfl
  | n + 1 => by
    have ih := bl_len L n
    show _ = popN L.toBitVec.toNat n + L.toBitVec.toNat / 2 ^ n % 2
    by_cases h : lb L n = true
    · rw [bl_yes h, List.length_append, ih]
      rw [lb_nat] at h
      have := of_decide_eq_true h
      show _ + 1 = _; omega
    · rw [bl_no h, ih]
      rw [lb_nat] at h
      have hq : ¬ L.toBitVec.toNat / 2 ^ n % 2 = 1 := fun y => h (decide_eq_true y)
      omega
theorem bl_le (L : Int64) (n : Nat) : (bl L n).length ≤ n := by rw [bl_len]; exact popN_le _ _
theorem bl_pre {L : Int64} {n k : Nat} (hk : k < (bl L n).length) : ∀ d, (bl L (n + d))[k]? = (bl L n)[k]? := by
  have key : ∀ d, (bl L (n + d))[k]? = (bl L n)[k]? ∧ k < (bl L (n + d)).length := by
    intro d
    induction d with
    | zero => exact ⟨rfl, hk⟩
    | succ d ih =>
      obtain ⟨a, b⟩ := ih
      by_cases h : lb L (n + d) = true
      · show (bl L (n + d + 1))[k]? = _ ∧ k < (bl L (n + d + 1)).length
        rw [bl_yes h, List.getElem?_append_left b, List.length_append]
        exact ⟨a, by show k < _ + 1; omega⟩
      · show (bl L (n + d + 1))[k]? = _ ∧ k < (bl L (n + d + 1)).length
        rw [bl_no h]; exact ⟨a, b⟩
  exact fun d => (key d).1
theorem bl_cong {L M : Int64} : ∀ n, (∀ j, j < n → lb L j = lb M j) → bl L n = bl M n
  | 0, _ => rfl
  | n + 1, h => by
    have ih := bl_cong n (fun j hj => h j (by omega))
    unfold bl
    rw [ih, h n (by omega)]
def bitA (L : Int64) (i : Int32) : Int32 := if i < 0 then -1 else if nI (bl L 64).length ≤ i then -1 else nI ((bl L 64).getD (tn i) 0)
theorem lgc_eq {x : Int64} : lg_cmp x 0 = 0 ↔ x = 0 := by
  unfold lg_cmp
  by_cases h2 : x = 0
  · subst h2; decide
  · by_cases h : x > 0
    · rw [if_pos h]; exact ⟨fun z => absurd z (by decide), fun z => absurd z h2⟩
    · rw [if_neg h, if_neg h2]; exact ⟨fun z => absurd z (by decide), fun z => absurd z h2⟩
