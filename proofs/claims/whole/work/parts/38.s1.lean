/-! the class: bits, small static methods -/
theorem c85 : (6148914691236517205 : Int64) = lN (mkB 85 8) := by decide +kernel
theorem c51 : (3689348814741910323 : Int64) = lN (mkB 51 8) := by decide +kernel
theorem c15 : (1085102592571150095 : Int64) = lN (mkB 15 8) := by decide +kernel
theorem m85 : mkB 85 8 < 2 ^ 64 := by decide +kernel
theorem m51 : mkB 51 8 < 2 ^ 62 := by decide +kernel
theorem m15 : mkB 15 8 < 2 ^ 64 := by decide +kernel
theorem lb1 {n : Nat} (hn : n < 2 ^ 64) : (lN n) - ((((lN n).toUInt64 >>> ((1 : Int32).toInt64.toUInt64 &&& Int64.toUInt64 63)).toInt64) &&& ((6148914691236517205 : Int64))) = lN (p1 8 n) := by
  have h := wb_shr (k := 1) hn (by decide)
  rw [show (1 : Int32) = nI 1 from rfl, h, c85, wb_and (Nat.lt_of_le_of_lt (Nat.div_le_self _ _) hn) m85]
  exact lN_sub (Nat.le_trans Nat.and_le_left (Nat.div_le_self _ _))
theorem lb2 {n : Nat} (hn : n < 2 ^ 64) : ((lN n) &&& ((3689348814741910323 : Int64))) + ((((lN n).toUInt64 >>> ((2 : Int32).toInt64.toUInt64 &&& Int64.toUInt64 63)).toInt64) &&& ((3689348814741910323 : Int64))) = lN (p2 8 n) := by
  have h := wb_shr (k := 2) hn (by decide)
  have h51 : mkB 51 8 < 2 ^ 64 := Nat.lt_trans m51 (by decide)
  rw [show (2 : Int32) = nI 2 from rfl, h, c51, wb_and hn h51, wb_and (Nat.lt_of_le_of_lt (Nat.div_le_self _ _) hn) h51]
  exact lN_add _ _
theorem p2_lt (n : Nat) : p2 8 n < 2 ^ 63 := by
  have a : n &&& mkB 51 8 < 2 ^ 62 := Nat.and_lt_two_pow _ m51
  have b : (n / 4) &&& mkB 51 8 < 2 ^ 62 := Nat.and_lt_two_pow _ m51
  unfold p2
  omega
theorem p1_lt {n : Nat} (hn : n < 2 ^ 64) : p1 8 n < 2 ^ 64 := Nat.lt_of_le_of_lt (Nat.sub_le _ _) hn
theorem lb3 {n : Nat} (hn : n < 2 ^ 63) : ((lN n) + (((lN n).toUInt64 >>> ((4 : Int32).toInt64.toUInt64 &&& Int64.toUInt64 63)).toInt64)) &&& ((1085102592571150095 : Int64)) = lN (p3 8 n) := by
  have h := wb_shr (n := n) (k := 4) (by omega) (by decide)
  rw [show (4 : Int32) = nI 4 from rfl, h, c15, lN_add, wb_and (by omega) m15]
  rfl
theorem lbs {n k : Nat} (hn : n < 2 ^ 64) (hk : k < 64) : (lN n) + (((lN n).toUInt64 >>> ((nI k).toInt64.toUInt64 &&& Int64.toUInt64 63)).toInt64) = lN (n + n / 2 ^ k) := by
  rw [wb_shr hn hk]; exact lN_add _ _
theorem lbe (n : Nat) : (lN n).toInt32 &&& (127 : Int32) = nI (n % 128) := by
  rw [lN_i, pk_and (nI n) (m := 127) 7 (by decide)]
  have e : (nI n).toBitVec.toNat = n % 2 ^ 32 := BitVec.toNat_ofNat n 32
  rw [e]
  exact congrArg nI (Nat.mod_mod_of_dvd n ⟨2 ^ 25, by decide⟩)
theorem d85 : (1431655765 : Int32) = nI (mkB 85 4) := by decide +kernel
theorem d51 : (858993459 : Int32) = nI (mkB 51 4) := by decide +kernel
theorem d15 : (252645135 : Int32) = nI (mkB 15 4) := by decide +kernel
theorem ib1 {n : Nat} (hn : n < 2 ^ 31) : (nI n) - (((nI n).toUInt32 >>> ((1 : Int32).toUInt32 &&& Int32.toUInt32 31)).toInt32 &&& (1431655765 : Int32)) = nI (p1 4 n) := by
  rw [pk_ushrN (by omega) 1 1 (by decide), d85, nx_and]
  exact pk_sub (Nat.le_trans Nat.and_le_left (Nat.div_le_self _ _))
theorem ib2 {n : Nat} (hn : n < 2 ^ 31) : ((nI n) &&& (858993459 : Int32)) + (((nI n).toUInt32 >>> ((2 : Int32).toUInt32 &&& Int32.toUInt32 31)).toInt32 &&& (858993459 : Int32)) = nI (p2 4 n) := by
  rw [pk_ushrN (by omega) 2 2 (by decide), d51, nx_and, nx_and]
  exact nI_add _ _
theorem ib3 {n : Nat} (hn : n < 2 ^ 32) : ((nI n) + ((nI n).toUInt32 >>> ((4 : Int32).toUInt32 &&& Int32.toUInt32 31)).toInt32) &&& (252645135 : Int32) = nI (p3 4 n) := by
  rw [pk_ushrN hn 4 4 (by decide), d15, nI_add, nx_and]
  rfl
theorem ib8 {n : Nat} (hn : n < 2 ^ 32) : (nI n) + ((nI n).toUInt32 >>> ((8 : Int32).toUInt32 &&& Int32.toUInt32 31)).toInt32 = nI (n + n / 256) := by
  rw [pk_ushrN hn 8 8 (by decide)]; exact nI_add _ _
theorem ib16 {n : Nat} (hn : n < 2 ^ 32) : (nI n) + ((nI n).toUInt32 >>> ((16 : Int32).toUInt32 &&& Int32.toUInt32 31)).toInt32 = nI (n + n / 65536) := by
  rw [pk_ushrN hn 16 16 (by decide)]; exact nI_add _ _
theorem m51i : mkB 51 4 < 2 ^ 30 := by decide +kernel
theorem p2_lt4 (n : Nat) : p2 4 n < 2 ^ 31 := by
  have a : n &&& mkB 51 4 < 2 ^ 30 := Nat.and_lt_two_pow _ m51i
  have b : (n / 4) &&& mkB 51 4 < 2 ^ 30 := Nat.and_lt_two_pow _ m51i
  unfold p2
  omega
theorem bitA_at {Λ : Int64} {κ : Nat} (hκ : κ < 64) (h : lb Λ κ = true) : bitA Λ (nI (bl Λ κ).length) = nI κ := by
  have h1 := bl_le Λ κ
  have hl : (bl Λ (κ + 1)).length = (bl Λ κ).length + 1 := by rw [bl_yes h, List.length_append]; rfl
  have hp := bl_pre (L := Λ) (n := κ + 1) (k := (bl Λ κ).length) (by omega) (64 - (κ + 1))
  rw [show κ + 1 + (64 - (κ + 1)) = 64 by omega, bl_yes h, List.getElem?_append_right (Nat.le_refl _), Nat.sub_self] at hp
  have hp : (bl Λ 64)[(bl Λ κ).length]? = some κ := hp
  have hlt := (List.getElem?_eq_some_iff.mp hp).1
  have h64 := bl_le Λ 64
  unfold bitA
  rw [if_neg (nI_pos (by omega)), if_neg (nI_ge hlt (by omega)), tn_nI (by omega), List.getD_eq_getElem?_getD, hp]
  rfl
theorem bitA_no {Λ : Int64} {i : Int32} (h : ∀ k, k < 2 ^ 31 → i = nI k → (bl Λ 64).length ≤ k) : bitA Λ i = -1 := by
  unfold bitA
  by_cases q : i < 0
  · rw [if_pos q]
  · obtain ⟨k, hk, e⟩ := nI_of q
    rw [if_neg q, if_pos (by rw [e]; exact nI_le (h k hk e) hk)]
theorem lim2 {x r : Int32} (h : r = if x < 0 ∨ 2 ≤ x then 0 else 1) : ((x < 0 ∨ 1 < x) ∧ r = 0) ∨ (¬ (x < 0 ∨ 1 < x) ∧ r = 1) := by
  have e : ((2 : Int32) ≤ x) ↔ 1 < x := by
    rw [Int32.le_iff_toInt_le, Int32.lt_iff_toInt_lt]
    show (2 : Int) ≤ _ ↔ (1 : Int) < _
    omega
  by_cases q : x < 0 ∨ 1 < x
  · exact Or.inl ⟨q, by rw [h, if_pos (q.imp id e.mpr)]⟩
  · exact Or.inr ⟨q, by rw [h, if_neg (fun z => q (z.imp id e.mp))]⟩
theorem lim4 {x r : Int32} (h : r = if x < 0 ∨ 4 ≤ x then 0 else 1) : ((x < 0 ∨ 3 < x) ∧ r = 0) ∨ (¬ (x < 0 ∨ 3 < x) ∧ r = 1) := by
  have e : ((4 : Int32) ≤ x) ↔ 3 < x := by
    rw [Int32.le_iff_toInt_le, Int32.lt_iff_toInt_lt]
    show (4 : Int) ≤ _ ↔ (3 : Int) < _
    omega
  by_cases q : x < 0 ∨ 3 < x
  · exact Or.inl ⟨q, by rw [h, if_pos (q.imp id e.mpr)]⟩
  · exact Or.inr ⟨q, by rw [h, if_neg (fun z => q (z.imp id e.mp))]⟩
theorem lim8 {x r : Int32} (h : r = if x < 0 ∨ 8 ≤ x then 0 else 1) : ((x < 0 ∨ 7 < x) ∧ r = 0) ∨ (¬ (x < 0 ∨ 7 < x) ∧ r = 1) := by
  have e : ((8 : Int32) ≤ x) ↔ 7 < x := by
    rw [Int32.le_iff_toInt_le, Int32.lt_iff_toInt_lt]
    show (8 : Int) ≤ _ ↔ (7 : Int) < _
    omega
  by_cases q : x < 0 ∨ 7 < x
  · exact Or.inl ⟨q, by rw [h, if_pos (q.imp id e.mpr)]⟩
  · exact Or.inr ⟨q, by rw [h, if_neg (fun z => q (z.imp id e.mp))]⟩
theorem lim10 {x r : Int32} (h : r = if x < 0 ∨ 10 ≤ x then 0 else 1) : ((x < 0 ∨ 9 < x) ∧ r = 0) ∨ (¬ (x < 0 ∨ 9 < x) ∧ r = 1) := by
  have e : ((10 : Int32) ≤ x) ↔ 9 < x := by
    rw [Int32.le_iff_toInt_le, Int32.lt_iff_toInt_lt]
    show (10 : Int) ≤ _ ↔ (9 : Int) < _
    omega
  by_cases q : x < 0 ∨ 9 < x
  · exact Or.inl ⟨q, by rw [h, if_pos (q.imp id e.mpr)]⟩
  · exact Or.inr ⟨q, by rw [h, if_neg (fun z => q (z.imp id e.mp))]⟩
theorem lim64 {x r : Int32} (h : r = if x < 0 ∨ 64 ≤ x then 0 else 1) : ((x < 0 ∨ 63 < x) ∧ r = 0) ∨ (¬ (x < 0 ∨ 63 < x) ∧ r = 1) := by
  have e : ((64 : Int32) ≤ x) ↔ 63 < x := by
    rw [Int32.le_iff_toInt_le, Int32.lt_iff_toInt_lt]
    show (64 : Int) ≤ _ ↔ (63 : Int) < _
    omega
  by_cases q : x < 0 ∨ 63 < x
  · exact Or.inl ⟨q, by rw [h, if_pos (q.imp id e.mpr)]⟩
  · exact Or.inr ⟨q, by rw [h, if_neg (fun z => q (z.imp id e.mp))]⟩
def rmX4_hasBit : Room := { frames := 0, cells := 0, slots := 0, locals := 0 }
set_option maxHeartbeats 4000000 in
set_option maxRecDepth 100000 in
theorem kX4_hasBit (G : TG) (ws : va_W) (Λ : Int64) (k : Nat) (hk : k < 64) : CT G yX4_hasBit cX4_hasBit 3 (some .boolean) rmX4_hasBit 0 0 [.long (Λ), .int (nI (k))] ws (fun _ : Unit => ws) (Ri (fun r _ => r = if lb Λ k = true then 1 else 0)) := by
  refine CT.enter (by decide) (Nat.le_of_ble_eq_true rfl) (fun X C hnm => ?_)
  refine V.less [(0, .long (Λ)), (2, .int (nI (k)))] ⟨rfl, rfl, trivial⟩ ?_
  generalize hQ : (QX G X (fun _ : Unit => ws) (Ri (fun r _ => r = if lb Λ k = true then 1 else 0)) 0 0) = Qq
  refine v_lload_n (pc := 0) C dX4_hasBit_0 rfl ?_
  refine v_iload_n (pc := 1) C dX4_hasBit_1 rfl ?_
  refine v_lshr (pc := 2) C dX4_hasBit_2 ?_
  refine v_lconst (pc := 3) (v := 1) C dX4_hasBit_3 (by decide) ?_
  refine v_land (pc := 4) C dX4_hasBit_4 ?_
  refine v_lconst (pc := 5) (v := 0) C dX4_hasBit_5 (by decide) ?_
  refine v_lcmp (pc := 6) C dX4_hasBit_6 ?_
  refine v_if_eq (pc := 7) (tgt := 14) C dX4_hasBit_7 (by decide) (fun c_7 => ?_) (fun c_7 => ?_)
  · refine v_iconst (pc := 14) (v := 0) C dX4_hasBit_14 (by decide) ?_
    subst hQ
    exact v_iret (pc := 15) C dX4_hasBit_15 (rfl) (()) rfl (by rw [if_neg (by rw [(hb0 hk).mp (lgc_eq.mp c_7)]; decide)])
  · refine v_iconst (pc := 10) (v := 1) C dX4_hasBit_10 (by decide) ?_
    refine v_goto (pc := 11) (tgt := 15) C dX4_hasBit_11 (by decide) ?_
    subst hQ
    exact v_iret (pc := 15) C dX4_hasBit_15 (rfl) (()) rfl (by rw [if_pos (by rcases Bool.eq_false_or_eq_true (lb Λ k) with hβ | hβ; exact hβ; exact absurd (lgc_eq.mpr ((hb0 hk).mpr hβ)) c_7)])
def rmX4_bitAt : Room := { frames := 1, cells := 0, slots := 0, locals := 22 }
set_option maxHeartbeats 4000000 in
set_option maxRecDepth 100000 in
theorem kX4_bitAt (G : TG) (ws : va_W) (Λ : Int64) (i : Int32) : CT G yX4_bitAt cX4_bitAt 5 (some .int) rmX4_bitAt 0 0 [.long (Λ), .int (i)] ws (fun _ : Unit => ws) (Ri (fun r _ => r = bitA Λ i)) := by
  refine CT.enter (by decide) (Nat.le_of_ble_eq_true rfl) (fun X C hnm => ?_)
  refine V.less [(0, .long (Λ)), (2, .int (i))] ⟨rfl, rfl, trivial⟩ ?_
  generalize hQ : (QX G X (fun _ : Unit => ws) (Ri (fun r _ => r = bitA Λ i)) 0 0) = Qq
  refine v_iconst (pc := 0) (v := 0) C dX4_bitAt_0 (by decide) ?_
  refine v_istore_n (pc := 1) C dX4_bitAt_1 (by decide) ?_
  refine v_iconst (pc := 2) (v := 0) C dX4_bitAt_2 (by decide) ?_
  refine v_istore (pc := 3) C dX4_bitAt_3 (by decide) ?_
  have L5 : ∀ (fu : Nat) (κ : Nat) (σ : Nat), (64 < κ + fu) → (κ ≤ 64) → (σ = (bl Λ κ).length) → (∀ k, k < 2 ^ 31 → i = nI k → σ ≤ k) → V G X cX4_bitAt 5 rmX4_bitAt Qq 0 0 5 (lvo [(0, .long (Λ)), (2, .int (i)), (3, .int (nI (σ))), (4, .int (nI (κ)))]) [] ws := by
    intro fu
    induction fu with
    | zero => intro κ σ hφ hκ hσ hn9; exfalso; omega
    | succ fu ih5 =>
      intro κ σ hφ hκ hσ hn9
      refine v_iload (pc := 5) C dX4_bitAt_5 rfl ?_
      refine v_bipush (pc := 7) (v := 64) C dX4_bitAt_7 (by decide) ?_
      refine v_icmp_geN (pc := 9) (tgt := 38) C (κ) 64 rfl rfl (by omega) (by omega) dX4_bitAt_9 (by decide) (fun c_9 => ?_) (fun c_9 => ?_)
      · refine v_iconst (pc := 38) (v := (-1)) C dX4_bitAt_38 (by decide) ?_
        subst hQ
        exact v_iret (pc := 39) C dX4_bitAt_39 (rfl) (()) rfl ((bitA_no (fun k hk e => by have := hn9 k hk e; rw [hσ, show κ = 64 by omega] at this; exact this)).symm)
      · refine v_lload_n (pc := 12) C dX4_bitAt_12 rfl ?_
        refine v_iload (pc := 13) C dX4_bitAt_13 rfl ?_
        refine v_callS0 (pc := 15) (st := []) C (kX4_hasBit G _ (Λ) (κ) (by omega)) ykX4_hasBit kw2_101 kw2_144 dX4_bitAt_15 rfl rfl rfl (by decide) (Nat.le_of_ble_eq_true rfl) (by decide) rfl (Ri_kk (fun r_15 u_15 h_15 => ?_))
        rcases (if01 h_15) with ⟨q_15, rfl⟩ | ⟨q_15, rfl⟩
        · refine v_if_eqT (pc := 18) (tgt := 32) C (by decide) dX4_bitAt_18 (by decide) ?_
          refine v_iinc1 (pc := 32) C (κ) rfl dX4_bitAt_32 rfl ?_
          refine v_goto (pc := 35) (tgt := 5) C dX4_bitAt_35 (by decide) ?_
          exact V.lessE (ih5  (((κ) + 1)) ((σ)) (by omega) (by omega) (by rw [bl_no q_15]; exact hσ) (hn9)) ⟨rfl, rfl, rfl, rfl, trivial⟩
        · refine v_if_eqF (pc := 18) (tgt := 32) C (by decide) dX4_bitAt_18 (by decide) ?_
          refine v_iload_n (pc := 21) C dX4_bitAt_21 rfl ?_
          refine v_iload_n (pc := 22) C dX4_bitAt_22 rfl ?_
          refine v_icmp_ne (pc := 23) (tgt := 29) C dX4_bitAt_23 (by decide) (fun c_23 => ?_) (fun c_23 => ?_)
          · refine v_iinc1 (pc := 29) C (σ) rfl dX4_bitAt_29 rfl ?_
            refine v_iinc1 (pc := 32) C (κ) rfl dX4_bitAt_32 rfl ?_
            refine v_goto (pc := 35) (tgt := 5) C dX4_bitAt_35 (by decide) ?_
            exact V.lessE (ih5  (((κ) + 1)) (((σ) + 1)) (by omega) (by omega) (by rw [bl_yes q_15, List.length_append, ← hσ]; rfl) (fun k hk e => by have := hn9 k hk e; rcases (show k = σ ∨ σ + 1 ≤ k by omega) with z | z; exact absurd (by rw [e, z]) c_23; exact z)) ⟨rfl, rfl, rfl, rfl, trivial⟩
          · refine v_iload (pc := 26) C dX4_bitAt_26 rfl ?_
            subst hQ
            exact v_iret (pc := 28) C dX4_bitAt_28 (rfl) (()) rfl (by rw [← c_23, hσ]; exact (bitA_at (by omega) q_15).symm)
  exact V.lessE (L5 (65) (0) (0) (by omega) (by omega) (rfl) (fun k _ _ => Nat.zero_le k)) ⟨rfl, rfl, rfl, rfl, trivial⟩
def rmJ13_bitCount_95d88 : Room := { frames := 0, cells := 0, slots := 0, locals := 0 }
set_option maxHeartbeats 4000000 in
set_option maxRecDepth 100000 in
theorem kJ13_bitCount (G : TG) (ws : va_W) (Λ : Int64) : CT G yJ13_bitCount_95d88 cJ13_bitCount_95d88 2 (some .int) rmJ13_bitCount_95d88 0 0 [.long (Λ)] ws (fun _ : Unit => ws) (Ri (fun r _ => r = nI (bl Λ 64).length)) := by
  refine CT.enter (by decide) (Nat.le_of_ble_eq_true rfl) (fun X C hnm => ?_)
  refine V.less [(0, .long (Λ))] ⟨rfl, trivial⟩ ?_
  generalize hQ : (QX G X (fun _ : Unit => ws) (Ri (fun r _ => r = nI (bl Λ 64).length)) 0 0) = Qq
  obtain ⟨n, hn, rfl⟩ := wb_of Λ
  refine v_lload_n (pc := 0) C dJ13_bitCount_95d88_0 rfl ?_
  refine v_lload_n (pc := 1) C dJ13_bitCount_95d88_1 rfl ?_
  refine v_iconst (pc := 2) (v := 1) C dJ13_bitCount_95d88_2 (by decide) ?_
  refine v_lushr (pc := 3) C dJ13_bitCount_95d88_3 ?_
  refine v_ldc2 (pc := 4) C dJ13_bitCount_95d88_4 kw2_157 ?_
  refine v_land (pc := 7) C dJ13_bitCount_95d88_7 ?_
  refine v_lsub (pc := 8) C dJ13_bitCount_95d88_8 ?_
  refine v_cvl (y := lN (p1 8 n)) (lb1 hn) ?_
  refine v_lstore_n (pc := 9) C dJ13_bitCount_95d88_9 (by decide) ?_
  refine v_lload_n (pc := 10) C dJ13_bitCount_95d88_10 rfl ?_
  refine v_ldc2 (pc := 11) C dJ13_bitCount_95d88_11 kw2_158 ?_
  refine v_land (pc := 14) C dJ13_bitCount_95d88_14 ?_
  refine v_lload_n (pc := 15) C dJ13_bitCount_95d88_15 rfl ?_
  refine v_iconst (pc := 16) (v := 2) C dJ13_bitCount_95d88_16 (by decide) ?_
  refine v_lushr (pc := 17) C dJ13_bitCount_95d88_17 ?_
  refine v_ldc2 (pc := 18) C dJ13_bitCount_95d88_18 kw2_158 ?_
  refine v_land (pc := 21) C dJ13_bitCount_95d88_21 ?_
  refine v_ladd (pc := 22) C dJ13_bitCount_95d88_22 ?_
  refine v_cvl (y := lN (p2 8 (p1 8 n))) (lb2 (p1_lt hn)) ?_
  refine v_lstore_n (pc := 23) C dJ13_bitCount_95d88_23 (by decide) ?_
  refine v_lload_n (pc := 24) C dJ13_bitCount_95d88_24 rfl ?_
  refine v_lload_n (pc := 25) C dJ13_bitCount_95d88_25 rfl ?_
  refine v_iconst (pc := 26) (v := 4) C dJ13_bitCount_95d88_26 (by decide) ?_
  refine v_lushr (pc := 27) C dJ13_bitCount_95d88_27 ?_
  refine v_ladd (pc := 28) C dJ13_bitCount_95d88_28 ?_
  refine v_ldc2 (pc := 29) C dJ13_bitCount_95d88_29 kw2_159 ?_
  refine v_land (pc := 32) C dJ13_bitCount_95d88_32 ?_
  refine v_cvl (y := lN (p3 8 (p2 8 (p1 8 n)))) (lb3 (p2_lt _)) ?_
  refine v_lstore_n (pc := 33) C dJ13_bitCount_95d88_33 (by decide) ?_
  obtain ⟨x3, hx3, e3, hfin⟩ := pc64 hn
  rw [e3]
  refine v_lload_n (pc := 34) C dJ13_bitCount_95d88_34 rfl ?_
  refine v_lload_n (pc := 35) C dJ13_bitCount_95d88_35 rfl ?_
  refine v_bipush (pc := 36) (v := 8) C dJ13_bitCount_95d88_36 (by decide) ?_
  refine v_lushr (pc := 38) C dJ13_bitCount_95d88_38 ?_
  refine v_ladd (pc := 39) C dJ13_bitCount_95d88_39 ?_
  refine v_cvl (y := lN (x3 + x3 / 256)) (lbs (k := 8) (by omega) (by decide)) ?_
  refine v_lstore_n (pc := 40) C dJ13_bitCount_95d88_40 (by decide) ?_
  refine v_lload_n (pc := 41) C dJ13_bitCount_95d88_41 rfl ?_
  refine v_lload_n (pc := 42) C dJ13_bitCount_95d88_42 rfl ?_
  refine v_bipush (pc := 43) (v := 16) C dJ13_bitCount_95d88_43 (by decide) ?_
  refine v_lushr (pc := 45) C dJ13_bitCount_95d88_45 ?_
  refine v_ladd (pc := 46) C dJ13_bitCount_95d88_46 ?_
  refine v_cvl (y := lN (x3 + x3 / 256 + (x3 + x3 / 256) / 65536)) (lbs (k := 16) (by omega) (by decide)) ?_
  refine v_lstore_n (pc := 47) C dJ13_bitCount_95d88_47 (by decide) ?_
  refine v_lload_n (pc := 48) C dJ13_bitCount_95d88_48 rfl ?_
  refine v_lload_n (pc := 49) C dJ13_bitCount_95d88_49 rfl ?_
  refine v_bipush (pc := 50) (v := 32) C dJ13_bitCount_95d88_50 (by decide) ?_
  refine v_lushr (pc := 52) C dJ13_bitCount_95d88_52 ?_
  refine v_ladd (pc := 53) C dJ13_bitCount_95d88_53 ?_
  refine v_cvl (y := lN (x3 + x3 / 256 + (x3 + x3 / 256) / 65536 + (x3 + x3 / 256 + (x3 + x3 / 256) / 65536) / 4294967296)) (lbs (k := 32) (by omega) (by decide)) ?_
  refine v_lstore_n (pc := 54) C dJ13_bitCount_95d88_54 (by decide) ?_
  refine v_lload_n (pc := 55) C dJ13_bitCount_95d88_55 rfl ?_
  refine v_l2i (pc := 56) C dJ13_bitCount_95d88_56 ?_
  refine v_bipush (pc := 57) (v := 127) C dJ13_bitCount_95d88_57 (by decide) ?_
  refine v_iand (pc := 59) C dJ13_bitCount_95d88_59 ?_
  refine v_cv (y := (nI ((x3 + x3 / 256 + (x3 + x3 / 256) / 65536 + (x3 + x3 / 256 + (x3 + x3 / 256) / 65536) / 4294967296) % 128))) (lbe _) ?_
  subst hQ
  exact v_iret (pc := 60) C dJ13_bitCount_95d88_60 (rfl) (()) rfl (by rw [hfin, bl_len, wb_tn hn])
def rmJ6_bitCount_0f7a4 : Room := { frames := 0, cells := 0, slots := 0, locals := 0 }
set_option maxHeartbeats 4000000 in
set_option maxRecDepth 100000 in
theorem kJ6_bitCount (G : TG) (ws : va_W) (c : Nat) (hc : c < 65536) : CT G yJ6_bitCount_0f7a4 cJ6_bitCount_0f7a4 1 (some .int) rmJ6_bitCount_0f7a4 0 0 [.int (nI (c))] ws (fun _ : Unit => ws) (Ri (fun r _ => r = nI (popN c 16))) := by
  refine CT.enter (by decide) (Nat.le_of_ble_eq_true rfl) (fun X C hnm => ?_)
  refine V.less [(0, .int (nI (c)))] ⟨rfl, trivial⟩ ?_
  generalize hQ : (QX G X (fun _ : Unit => ws) (Ri (fun r _ => r = nI (popN c 16))) 0 0) = Qq
  refine v_iload_n (pc := 0) C dJ6_bitCount_0f7a4_0 rfl ?_
  refine v_iload_n (pc := 1) C dJ6_bitCount_0f7a4_1 rfl ?_
  refine v_iconst (pc := 2) (v := 1) C dJ6_bitCount_0f7a4_2 (by decide) ?_
  refine v_iushr (pc := 3) C dJ6_bitCount_0f7a4_3 ?_
  refine v_ldcw (pc := 4) C dJ6_bitCount_0f7a4_4 kw2_199 ?_
  refine v_iand (pc := 7) C dJ6_bitCount_0f7a4_7 ?_
  refine v_isub (pc := 8) C dJ6_bitCount_0f7a4_8 ?_
  refine v_cv (y := (nI (p1 4 c))) (ib1 (by omega)) ?_
  refine v_istore_n (pc := 9) C dJ6_bitCount_0f7a4_9 (by decide) ?_
  refine v_iload_n (pc := 10) C dJ6_bitCount_0f7a4_10 rfl ?_
  refine v_ldcw (pc := 11) C dJ6_bitCount_0f7a4_11 kw2_200 ?_
  refine v_iand (pc := 14) C dJ6_bitCount_0f7a4_14 ?_
  refine v_iload_n (pc := 15) C dJ6_bitCount_0f7a4_15 rfl ?_
  refine v_iconst (pc := 16) (v := 2) C dJ6_bitCount_0f7a4_16 (by decide) ?_
  refine v_iushr (pc := 17) C dJ6_bitCount_0f7a4_17 ?_
  refine v_ldcw (pc := 18) C dJ6_bitCount_0f7a4_18 kw2_200 ?_
  refine v_iand (pc := 21) C dJ6_bitCount_0f7a4_21 ?_
  refine v_iadd (pc := 22) C dJ6_bitCount_0f7a4_22 ?_
  refine v_cv (y := (nI (p2 4 (p1 4 c)))) (ib2 (Nat.lt_of_le_of_lt (Nat.sub_le _ _) (by omega))) ?_
  refine v_istore_n (pc := 23) C dJ6_bitCount_0f7a4_23 (by decide) ?_
  refine v_iload_n (pc := 24) C dJ6_bitCount_0f7a4_24 rfl ?_
  refine v_iload_n (pc := 25) C dJ6_bitCount_0f7a4_25 rfl ?_
  refine v_iconst (pc := 26) (v := 4) C dJ6_bitCount_0f7a4_26 (by decide) ?_
  refine v_iushr (pc := 27) C dJ6_bitCount_0f7a4_27 ?_
  refine v_iadd (pc := 28) C dJ6_bitCount_0f7a4_28 ?_
  refine v_ldcw (pc := 29) C dJ6_bitCount_0f7a4_29 kw2_201 ?_
  refine v_iand (pc := 32) C dJ6_bitCount_0f7a4_32 ?_
  refine v_cv (y := (nI (p3 4 (p2 4 (p1 4 c))))) (ib3 (Nat.lt_trans (p2_lt4 _) (by decide))) ?_
  refine v_istore_n (pc := 33) C dJ6_bitCount_0f7a4_33 (by decide) ?_
  obtain ⟨x3, hx3, e3, hfin⟩ := pc32 hc
  rw [e3]
  refine v_iload_n (pc := 34) C dJ6_bitCount_0f7a4_34 rfl ?_
  refine v_iload_n (pc := 35) C dJ6_bitCount_0f7a4_35 rfl ?_
  refine v_bipush (pc := 36) (v := 8) C dJ6_bitCount_0f7a4_36 (by decide) ?_
  refine v_iushr (pc := 38) C dJ6_bitCount_0f7a4_38 ?_
  refine v_iadd (pc := 39) C dJ6_bitCount_0f7a4_39 ?_
  refine v_cv (y := (nI (x3 + x3 / 256))) (ib8 (by omega)) ?_
  refine v_istore_n (pc := 40) C dJ6_bitCount_0f7a4_40 (by decide) ?_
  refine v_iload_n (pc := 41) C dJ6_bitCount_0f7a4_41 rfl ?_
  refine v_iload_n (pc := 42) C dJ6_bitCount_0f7a4_42 rfl ?_
  refine v_bipush (pc := 43) (v := 16) C dJ6_bitCount_0f7a4_43 (by decide) ?_
  refine v_iushr (pc := 45) C dJ6_bitCount_0f7a4_45 ?_
  refine v_iadd (pc := 46) C dJ6_bitCount_0f7a4_46 ?_
  refine v_cv (y := (nI (x3 + x3 / 256 + (x3 + x3 / 256) / 65536))) (ib16 (by omega)) ?_
  refine v_istore_n (pc := 47) C dJ6_bitCount_0f7a4_47 (by decide) ?_
  refine v_iload_n (pc := 48) C dJ6_bitCount_0f7a4_48 rfl ?_
  refine v_bipush (pc := 49) (v := 63) C dJ6_bitCount_0f7a4_49 (by decide) ?_
  refine v_iand (pc := 51) C dJ6_bitCount_0f7a4_51 ?_
  refine v_cv (y := (nI ((x3 + x3 / 256 + (x3 + x3 / 256) / 65536) % 2 ^ 6))) (pk_andN (n := x3 + x3 / 256 + (x3 + x3 / 256) / 65536) (by omega) 6 (by decide)) ?_
  subst hQ
  exact v_iret (pc := 52) C dJ6_bitCount_0f7a4_52 (rfl) (()) rfl (congrArg nI hfin)
def rmX4_isPupil : Room := { frames := 0, cells := 0, slots := 0, locals := 0 }
set_option maxHeartbeats 4000000 in
set_option maxRecDepth 100000 in
theorem kX4_isPupil (G : TG) (ws : va_W) (x : Int32) : CT G yX4_isPupil cX4_isPupil 1 (some .boolean) rmX4_isPupil 0 0 [.int (x)] ws (fun _ : Unit => ws) (Ri (fun r _ => r = if x < 0 ∨ 10 ≤ x then 0 else 1)) := by
  refine CT.enter (by decide) (Nat.le_of_ble_eq_true rfl) (fun X C hnm => ?_)
  refine V.less [(0, .int (x))] ⟨rfl, trivial⟩ ?_
  generalize hQ : (QX G X (fun _ : Unit => ws) (Ri (fun r _ => r = if x < 0 ∨ 10 ≤ x then 0 else 1)) 0 0) = Qq
  refine v_iload_n (pc := 0) C dX4_isPupil_0 rfl ?_
  refine v_if_lt (pc := 1) (tgt := 14) C dX4_isPupil_1 (by decide) (fun c_1 => ?_) (fun c_1 => ?_)
  · refine v_iconst (pc := 14) (v := 0) C dX4_isPupil_14 (by decide) ?_
    subst hQ
    exact v_iret (pc := 15) C dX4_isPupil_15 (rfl) (()) rfl (by simp [c_1])
  · refine v_iload_n (pc := 4) C dX4_isPupil_4 rfl ?_
    refine v_bipush (pc := 5) (v := 10) C dX4_isPupil_5 (by decide) ?_
    refine v_icmp_ge (pc := 7) (tgt := 14) C dX4_isPupil_7 (by decide) (fun c_7 => ?_) (fun c_7 => ?_)
    · refine v_iconst (pc := 14) (v := 0) C dX4_isPupil_14 (by decide) ?_
      subst hQ
      exact v_iret (pc := 15) C dX4_isPupil_15 (rfl) (()) rfl (by simp [c_1, c_7])
    · refine v_iconst (pc := 10) (v := 1) C dX4_isPupil_10 (by decide) ?_
      refine v_goto (pc := 11) (tgt := 15) C dX4_isPupil_11 (by decide) ?_
      subst hQ
      exact v_iret (pc := 15) C dX4_isPupil_15 (rfl) (()) rfl (by simp [c_1, c_7])
def rmX4_isInput : Room := { frames := 0, cells := 0, slots := 0, locals := 0 }
set_option maxHeartbeats 4000000 in
set_option maxRecDepth 100000 in
theorem kX4_isInput (G : TG) (ws : va_W) (x : Int32) : CT G yX4_isInput cX4_isInput 1 (some .boolean) rmX4_isInput 0 0 [.int (x)] ws (fun _ : Unit => ws) (Ri (fun r _ => r = if x < 0 ∨ 10 ≤ x then 0 else 1)) := by
  refine CT.enter (by decide) (Nat.le_of_ble_eq_true rfl) (fun X C hnm => ?_)
  refine V.less [(0, .int (x))] ⟨rfl, trivial⟩ ?_
  generalize hQ : (QX G X (fun _ : Unit => ws) (Ri (fun r _ => r = if x < 0 ∨ 10 ≤ x then 0 else 1)) 0 0) = Qq
  refine v_iload_n (pc := 0) C dX4_isInput_0 rfl ?_
  refine v_if_lt (pc := 1) (tgt := 14) C dX4_isInput_1 (by decide) (fun c_1 => ?_) (fun c_1 => ?_)
  · refine v_iconst (pc := 14) (v := 0) C dX4_isInput_14 (by decide) ?_
    subst hQ
    exact v_iret (pc := 15) C dX4_isInput_15 (rfl) (()) rfl (by simp [c_1])
  · refine v_iload_n (pc := 4) C dX4_isInput_4 rfl ?_
    refine v_bipush (pc := 5) (v := 10) C dX4_isInput_5 (by decide) ?_
    refine v_icmp_ge (pc := 7) (tgt := 14) C dX4_isInput_7 (by decide) (fun c_7 => ?_) (fun c_7 => ?_)
    · refine v_iconst (pc := 14) (v := 0) C dX4_isInput_14 (by decide) ?_
      subst hQ
      exact v_iret (pc := 15) C dX4_isInput_15 (rfl) (()) rfl (by simp [c_1, c_7])
    · refine v_iconst (pc := 10) (v := 1) C dX4_isInput_10 (by decide) ?_
      refine v_goto (pc := 11) (tgt := 15) C dX4_isInput_11 (by decide) ?_
      subst hQ
      exact v_iret (pc := 15) C dX4_isInput_15 (rfl) (()) rfl (by simp [c_1, c_7])
def rmX4_isMachine : Room := { frames := 0, cells := 0, slots := 0, locals := 0 }
set_option maxHeartbeats 4000000 in
set_option maxRecDepth 100000 in
theorem kX4_isMachine (G : TG) (ws : va_W) (x : Int32) : CT G yX4_isMachine cX4_isMachine 1 (some .boolean) rmX4_isMachine 0 0 [.int (x)] ws (fun _ : Unit => ws) (Ri (fun r _ => r = if x < 0 ∨ 64 ≤ x then 0 else 1)) := by
  refine CT.enter (by decide) (Nat.le_of_ble_eq_true rfl) (fun X C hnm => ?_)
  refine V.less [(0, .int (x))] ⟨rfl, trivial⟩ ?_
  generalize hQ : (QX G X (fun _ : Unit => ws) (Ri (fun r _ => r = if x < 0 ∨ 64 ≤ x then 0 else 1)) 0 0) = Qq
  refine v_iload_n (pc := 0) C dX4_isMachine_0 rfl ?_
  refine v_if_lt (pc := 1) (tgt := 14) C dX4_isMachine_1 (by decide) (fun c_1 => ?_) (fun c_1 => ?_)
  · refine v_iconst (pc := 14) (v := 0) C dX4_isMachine_14 (by decide) ?_
    subst hQ
    exact v_iret (pc := 15) C dX4_isMachine_15 (rfl) (()) rfl (by simp [c_1])
  · refine v_iload_n (pc := 4) C dX4_isMachine_4 rfl ?_
    refine v_bipush (pc := 5) (v := 64) C dX4_isMachine_5 (by decide) ?_
    refine v_icmp_ge (pc := 7) (tgt := 14) C dX4_isMachine_7 (by decide) (fun c_7 => ?_) (fun c_7 => ?_)
    · refine v_iconst (pc := 14) (v := 0) C dX4_isMachine_14 (by decide) ?_
      subst hQ
      exact v_iret (pc := 15) C dX4_isMachine_15 (rfl) (()) rfl (by simp [c_1, c_7])
    · refine v_iconst (pc := 10) (v := 1) C dX4_isMachine_10 (by decide) ?_
      refine v_goto (pc := 11) (tgt := 15) C dX4_isMachine_11 (by decide) ?_
      subst hQ
      exact v_iret (pc := 15) C dX4_isMachine_15 (rfl) (()) rfl (by simp [c_1, c_7])
def rmX4_isVariable : Room := { frames := 0, cells := 0, slots := 0, locals := 0 }
set_option maxHeartbeats 4000000 in
set_option maxRecDepth 100000 in
theorem kX4_isVariable (G : TG) (ws : va_W) (x : Int32) : CT G yX4_isVariable cX4_isVariable 1 (some .boolean) rmX4_isVariable 0 0 [.int (x)] ws (fun _ : Unit => ws) (Ri (fun r _ => r = if x < 0 ∨ 4 ≤ x then 0 else 1)) := by
  refine CT.enter (by decide) (Nat.le_of_ble_eq_true rfl) (fun X C hnm => ?_)
  refine V.less [(0, .int (x))] ⟨rfl, trivial⟩ ?_
  generalize hQ : (QX G X (fun _ : Unit => ws) (Ri (fun r _ => r = if x < 0 ∨ 4 ≤ x then 0 else 1)) 0 0) = Qq
  refine v_iload_n (pc := 0) C dX4_isVariable_0 rfl ?_
  refine v_if_lt (pc := 1) (tgt := 13) C dX4_isVariable_1 (by decide) (fun c_1 => ?_) (fun c_1 => ?_)
  · refine v_iconst (pc := 13) (v := 0) C dX4_isVariable_13 (by decide) ?_
    subst hQ
    exact v_iret (pc := 14) C dX4_isVariable_14 (rfl) (()) rfl (by simp [c_1])
  · refine v_iload_n (pc := 4) C dX4_isVariable_4 rfl ?_
    refine v_iconst (pc := 5) (v := 4) C dX4_isVariable_5 (by decide) ?_
    refine v_icmp_ge (pc := 6) (tgt := 13) C dX4_isVariable_6 (by decide) (fun c_6 => ?_) (fun c_6 => ?_)
    · refine v_iconst (pc := 13) (v := 0) C dX4_isVariable_13 (by decide) ?_
      subst hQ
      exact v_iret (pc := 14) C dX4_isVariable_14 (rfl) (()) rfl (by simp [c_1, c_6])
    · refine v_iconst (pc := 9) (v := 1) C dX4_isVariable_9 (by decide) ?_
      refine v_goto (pc := 10) (tgt := 14) C dX4_isVariable_10 (by decide) ?_
      subst hQ
      exact v_iret (pc := 14) C dX4_isVariable_14 (rfl) (()) rfl (by simp [c_1, c_6])
def rmX4_isCell : Room := { frames := 0, cells := 0, slots := 0, locals := 0 }
set_option maxHeartbeats 4000000 in
set_option maxRecDepth 100000 in
theorem kX4_isCell (G : TG) (ws : va_W) (x : Int32) : CT G yX4_isCell cX4_isCell 1 (some .boolean) rmX4_isCell 0 0 [.int (x)] ws (fun _ : Unit => ws) (Ri (fun r _ => r = if x < 0 ∨ 8 ≤ x then 0 else 1)) := by
  refine CT.enter (by decide) (Nat.le_of_ble_eq_true rfl) (fun X C hnm => ?_)
  refine V.less [(0, .int (x))] ⟨rfl, trivial⟩ ?_
  generalize hQ : (QX G X (fun _ : Unit => ws) (Ri (fun r _ => r = if x < 0 ∨ 8 ≤ x then 0 else 1)) 0 0) = Qq
  refine v_iload_n (pc := 0) C dX4_isCell_0 rfl ?_
  refine v_if_lt (pc := 1) (tgt := 14) C dX4_isCell_1 (by decide) (fun c_1 => ?_) (fun c_1 => ?_)
  · refine v_iconst (pc := 14) (v := 0) C dX4_isCell_14 (by decide) ?_
    subst hQ
    exact v_iret (pc := 15) C dX4_isCell_15 (rfl) (()) rfl (by simp [c_1])
  · refine v_iload_n (pc := 4) C dX4_isCell_4 rfl ?_
    refine v_bipush (pc := 5) (v := 8) C dX4_isCell_5 (by decide) ?_
    refine v_icmp_ge (pc := 7) (tgt := 14) C dX4_isCell_7 (by decide) (fun c_7 => ?_) (fun c_7 => ?_)
    · refine v_iconst (pc := 14) (v := 0) C dX4_isCell_14 (by decide) ?_
      subst hQ
      exact v_iret (pc := 15) C dX4_isCell_15 (rfl) (()) rfl (by simp [c_1, c_7])
    · refine v_iconst (pc := 10) (v := 1) C dX4_isCell_10 (by decide) ?_
      refine v_goto (pc := 11) (tgt := 15) C dX4_isCell_11 (by decide) ?_
      subst hQ
      exact v_iret (pc := 15) C dX4_isCell_15 (rfl) (()) rfl (by simp [c_1, c_7])
def rmX4_isName : Room := { frames := 0, cells := 0, slots := 0, locals := 0 }
set_option maxHeartbeats 4000000 in
set_option maxRecDepth 100000 in
theorem kX4_isName (G : TG) (ws : va_W) (x : Int32) : CT G yX4_isName cX4_isName 1 (some .boolean) rmX4_isName 0 0 [.int (x)] ws (fun _ : Unit => ws) (Ri (fun r _ => r = if x < 0 ∨ 2 ≤ x then 0 else 1)) := by
  refine CT.enter (by decide) (Nat.le_of_ble_eq_true rfl) (fun X C hnm => ?_)
  refine V.less [(0, .int (x))] ⟨rfl, trivial⟩ ?_
  generalize hQ : (QX G X (fun _ : Unit => ws) (Ri (fun r _ => r = if x < 0 ∨ 2 ≤ x then 0 else 1)) 0 0) = Qq
  refine v_iload_n (pc := 0) C dX4_isName_0 rfl ?_
  refine v_if_lt (pc := 1) (tgt := 13) C dX4_isName_1 (by decide) (fun c_1 => ?_) (fun c_1 => ?_)
  · refine v_iconst (pc := 13) (v := 0) C dX4_isName_13 (by decide) ?_
    subst hQ
    exact v_iret (pc := 14) C dX4_isName_14 (rfl) (()) rfl (by simp [c_1])
  · refine v_iload_n (pc := 4) C dX4_isName_4 rfl ?_
    refine v_iconst (pc := 5) (v := 2) C dX4_isName_5 (by decide) ?_
    refine v_icmp_ge (pc := 6) (tgt := 13) C dX4_isName_6 (by decide) (fun c_6 => ?_) (fun c_6 => ?_)
    · refine v_iconst (pc := 13) (v := 0) C dX4_isName_13 (by decide) ?_
      subst hQ
      exact v_iret (pc := 14) C dX4_isName_14 (rfl) (()) rfl (by simp [c_1, c_6])
    · refine v_iconst (pc := 9) (v := 1) C dX4_isName_9 (by decide) ?_
      refine v_goto (pc := 10) (tgt := 14) C dX4_isName_10 (by decide) ?_
      subst hQ
      exact v_iret (pc := 14) C dX4_isName_14 (rfl) (()) rfl (by simp [c_1, c_6])
def rmX4_fitsOp : Room := { frames := 1, cells := 0, slots := 0, locals := 20 }
set_option maxHeartbeats 4000000 in
set_option maxRecDepth 100000 in
theorem kX4_fitsOp (G : TG) (ws : va_W) (c x y : Int32) : CT G yX4_fitsOp cX4_fitsOp 3 (some .boolean) rmX4_fitsOp 0 0 [.int (c), .int (x), .int (y)] ws (fun _ : Unit => ws) (Ri (fun r _ => r = if mayB c x y = false then 0 else 1)) := by
  refine CT.enter (by decide) (Nat.le_of_ble_eq_true rfl) (fun X C hnm => ?_)
  refine V.less [(0, .int (c)), (1, .int (x)), (2, .int (y))] ⟨rfl, rfl, rfl, trivial⟩ ?_
  generalize hQ : (QX G X (fun _ : Unit => ws) (Ri (fun r _ => r = if mayB c x y = false then 0 else 1)) 0 0) = Qq
  refine v_iload_n (pc := 0) C dX4_fitsOp_0 rfl ?_
  by_cases sw_1_0 : (c) = 0
  · refine v_cv (y := 0) sw_1_0 ?_
    refine v_tableIn (pc := 1) (tgt := 56) C dX4_fitsOp_1 (by decide) (by decide) rfl (by decide) ?_
    refine v_iload_n (pc := 56) C dX4_fitsOp_56 rfl ?_
    refine v_callS0 (pc := 57) (st := []) C (kX4_isVariable G _ x) ykX4_isVariable kw1_196 kw1_195 dX4_fitsOp_57 rfl rfl rfl (by decide) (Nat.le_of_ble_eq_true rfl) (by decide) rfl (Ri_kk (fun r_57 u_57 h_57 => ?_))
    rcases (lim4 h_57) with ⟨q_57, rfl⟩ | ⟨q_57, rfl⟩
    · refine v_if_eqT (pc := 60) (tgt := 79) C (by decide) dX4_fitsOp_60 (by decide) ?_
      refine v_iconst (pc := 79) (v := 0) C dX4_fitsOp_79 (by decide) ?_
      subst hQ
      exact v_iret (pc := 80) C dX4_fitsOp_80 (rfl) (()) rfl (by rw [sw_1_0]; simp [mayB, inw_f q_57])
    · refine v_if_eqF (pc := 60) (tgt := 79) C (by decide) dX4_fitsOp_60 (by decide) ?_
      refine v_iload_n (pc := 63) C dX4_fitsOp_63 rfl ?_
      refine v_bipush (pc := 64) (v := (-99)) C dX4_fitsOp_64 (by decide) ?_
      refine v_icmp_lt (pc := 66) (tgt := 79) C dX4_fitsOp_66 (by decide) (fun c_66 => ?_) (fun c_66 => ?_)
      · refine v_iconst (pc := 79) (v := 0) C dX4_fitsOp_79 (by decide) ?_
        subst hQ
        exact v_iret (pc := 80) C dX4_fitsOp_80 (rfl) (()) rfl (by rw [sw_1_0]; simp [mayB, inw_t q_57, inw_f (lo := -99) (hi := 99) (Or.inl c_66)])
      · refine v_iload_n (pc := 69) C dX4_fitsOp_69 rfl ?_
        refine v_bipush (pc := 70) (v := 99) C dX4_fitsOp_70 (by decide) ?_
        refine v_icmp_gt (pc := 72) (tgt := 79) C dX4_fitsOp_72 (by decide) (fun c_72 => ?_) (fun c_72 => ?_)
        · refine v_iconst (pc := 79) (v := 0) C dX4_fitsOp_79 (by decide) ?_
          subst hQ
          exact v_iret (pc := 80) C dX4_fitsOp_80 (rfl) (()) rfl (by rw [sw_1_0]; simp [mayB, inw_t q_57, inw_f (lo := -99) (hi := 99) (Or.inr c_72)])
        · refine v_iconst (pc := 75) (v := 1) C dX4_fitsOp_75 (by decide) ?_
          refine v_goto (pc := 76) (tgt := 80) C dX4_fitsOp_76 (by decide) ?_
          subst hQ
          exact v_iret (pc := 80) C dX4_fitsOp_80 (rfl) (()) rfl (by rw [sw_1_0]; simp [mayB, inw_t q_57, inw_t (lo := -99) (hi := 99) (fun z => z.elim c_66 c_72)])
  by_cases sw_1_1 : (c) = 1
  · refine v_cv (y := 1) sw_1_1 ?_
    refine v_tableIn (pc := 1) (tgt := 81) C dX4_fitsOp_1 (by decide) (by decide) rfl (by decide) ?_
    refine v_iload_n (pc := 81) C dX4_fitsOp_81 rfl ?_
    refine v_callS0 (pc := 82) (st := []) C (kX4_isVariable G _ x) ykX4_isVariable kw1_196 kw1_195 dX4_fitsOp_82 rfl rfl rfl (by decide) (Nat.le_of_ble_eq_true rfl) (by decide) rfl (Ri_kk (fun r_82 u_82 h_82 => ?_))
    rcases (lim4 h_82) with ⟨q_82, rfl⟩ | ⟨q_82, rfl⟩
    · refine v_if_eqT (pc := 85) (tgt := 99) C (by decide) dX4_fitsOp_85 (by decide) ?_
      refine v_iconst (pc := 99) (v := 0) C dX4_fitsOp_99 (by decide) ?_
      subst hQ
      exact v_iret (pc := 100) C dX4_fitsOp_100 (rfl) (()) rfl (by rw [sw_1_1]; simp [mayB, inw_f q_82])
    · refine v_if_eqF (pc := 85) (tgt := 99) C (by decide) dX4_fitsOp_85 (by decide) ?_
      refine v_iload_n (pc := 88) C dX4_fitsOp_88 rfl ?_
      refine v_callS0 (pc := 89) (st := []) C (kX4_isVariable G _ y) ykX4_isVariable kw1_196 kw1_195 dX4_fitsOp_89 rfl rfl rfl (by decide) (Nat.le_of_ble_eq_true rfl) (by decide) rfl (Ri_kk (fun r_89 u_89 h_89 => ?_))
      rcases (lim4 h_89) with ⟨q_89, rfl⟩ | ⟨q_89, rfl⟩
      · refine v_if_eqT (pc := 92) (tgt := 99) C (by decide) dX4_fitsOp_92 (by decide) ?_
        refine v_iconst (pc := 99) (v := 0) C dX4_fitsOp_99 (by decide) ?_
        subst hQ
        exact v_iret (pc := 100) C dX4_fitsOp_100 (rfl) (()) rfl (by rw [sw_1_1]; simp [mayB, inw_t q_82, inw_f q_89])
      · refine v_if_eqF (pc := 92) (tgt := 99) C (by decide) dX4_fitsOp_92 (by decide) ?_
        refine v_iconst (pc := 95) (v := 1) C dX4_fitsOp_95 (by decide) ?_
        refine v_goto (pc := 96) (tgt := 100) C dX4_fitsOp_96 (by decide) ?_
        subst hQ
        exact v_iret (pc := 100) C dX4_fitsOp_100 (rfl) (()) rfl (by rw [sw_1_1]; simp [mayB, inw_t q_82, inw_t q_89])
  by_cases sw_1_2 : (c) = 2
  · refine v_cv (y := 2) sw_1_2 ?_
    refine v_tableIn (pc := 1) (tgt := 81) C dX4_fitsOp_1 (by decide) (by decide) rfl (by decide) ?_
    refine v_iload_n (pc := 81) C dX4_fitsOp_81 rfl ?_
    refine v_callS0 (pc := 82) (st := []) C (kX4_isVariable G _ x) ykX4_isVariable kw1_196 kw1_195 dX4_fitsOp_82 rfl rfl rfl (by decide) (Nat.le_of_ble_eq_true rfl) (by decide) rfl (Ri_kk (fun r_82 u_82 h_82 => ?_))
    rcases (lim4 h_82) with ⟨q_82, rfl⟩ | ⟨q_82, rfl⟩
    · refine v_if_eqT (pc := 85) (tgt := 99) C (by decide) dX4_fitsOp_85 (by decide) ?_
      refine v_iconst (pc := 99) (v := 0) C dX4_fitsOp_99 (by decide) ?_
      subst hQ
      exact v_iret (pc := 100) C dX4_fitsOp_100 (rfl) (()) rfl (by rw [sw_1_2]; simp [mayB, inw_f q_82])
    · refine v_if_eqF (pc := 85) (tgt := 99) C (by decide) dX4_fitsOp_85 (by decide) ?_
      refine v_iload_n (pc := 88) C dX4_fitsOp_88 rfl ?_
      refine v_callS0 (pc := 89) (st := []) C (kX4_isVariable G _ y) ykX4_isVariable kw1_196 kw1_195 dX4_fitsOp_89 rfl rfl rfl (by decide) (Nat.le_of_ble_eq_true rfl) (by decide) rfl (Ri_kk (fun r_89 u_89 h_89 => ?_))
      rcases (lim4 h_89) with ⟨q_89, rfl⟩ | ⟨q_89, rfl⟩
      · refine v_if_eqT (pc := 92) (tgt := 99) C (by decide) dX4_fitsOp_92 (by decide) ?_
        refine v_iconst (pc := 99) (v := 0) C dX4_fitsOp_99 (by decide) ?_
        subst hQ
        exact v_iret (pc := 100) C dX4_fitsOp_100 (rfl) (()) rfl (by rw [sw_1_2]; simp [mayB, inw_t q_82, inw_f q_89])
      · refine v_if_eqF (pc := 92) (tgt := 99) C (by decide) dX4_fitsOp_92 (by decide) ?_
        refine v_iconst (pc := 95) (v := 1) C dX4_fitsOp_95 (by decide) ?_
        refine v_goto (pc := 96) (tgt := 100) C dX4_fitsOp_96 (by decide) ?_
        subst hQ
        exact v_iret (pc := 100) C dX4_fitsOp_100 (rfl) (()) rfl (by rw [sw_1_2]; simp [mayB, inw_t q_82, inw_t q_89])
  by_cases sw_1_3 : (c) = 3
  · refine v_cv (y := 3) sw_1_3 ?_
    refine v_tableIn (pc := 1) (tgt := 81) C dX4_fitsOp_1 (by decide) (by decide) rfl (by decide) ?_
    refine v_iload_n (pc := 81) C dX4_fitsOp_81 rfl ?_
    refine v_callS0 (pc := 82) (st := []) C (kX4_isVariable G _ x) ykX4_isVariable kw1_196 kw1_195 dX4_fitsOp_82 rfl rfl rfl (by decide) (Nat.le_of_ble_eq_true rfl) (by decide) rfl (Ri_kk (fun r_82 u_82 h_82 => ?_))
    rcases (lim4 h_82) with ⟨q_82, rfl⟩ | ⟨q_82, rfl⟩
    · refine v_if_eqT (pc := 85) (tgt := 99) C (by decide) dX4_fitsOp_85 (by decide) ?_
      refine v_iconst (pc := 99) (v := 0) C dX4_fitsOp_99 (by decide) ?_
      subst hQ
      exact v_iret (pc := 100) C dX4_fitsOp_100 (rfl) (()) rfl (by rw [sw_1_3]; simp [mayB, inw_f q_82])
    · refine v_if_eqF (pc := 85) (tgt := 99) C (by decide) dX4_fitsOp_85 (by decide) ?_
      refine v_iload_n (pc := 88) C dX4_fitsOp_88 rfl ?_
      refine v_callS0 (pc := 89) (st := []) C (kX4_isVariable G _ y) ykX4_isVariable kw1_196 kw1_195 dX4_fitsOp_89 rfl rfl rfl (by decide) (Nat.le_of_ble_eq_true rfl) (by decide) rfl (Ri_kk (fun r_89 u_89 h_89 => ?_))
      rcases (lim4 h_89) with ⟨q_89, rfl⟩ | ⟨q_89, rfl⟩
      · refine v_if_eqT (pc := 92) (tgt := 99) C (by decide) dX4_fitsOp_92 (by decide) ?_
        refine v_iconst (pc := 99) (v := 0) C dX4_fitsOp_99 (by decide) ?_
        subst hQ
        exact v_iret (pc := 100) C dX4_fitsOp_100 (rfl) (()) rfl (by rw [sw_1_3]; simp [mayB, inw_t q_82, inw_f q_89])
      · refine v_if_eqF (pc := 92) (tgt := 99) C (by decide) dX4_fitsOp_92 (by decide) ?_
        refine v_iconst (pc := 95) (v := 1) C dX4_fitsOp_95 (by decide) ?_
        refine v_goto (pc := 96) (tgt := 100) C dX4_fitsOp_96 (by decide) ?_
        subst hQ
        exact v_iret (pc := 100) C dX4_fitsOp_100 (rfl) (()) rfl (by rw [sw_1_3]; simp [mayB, inw_t q_82, inw_t q_89])
  by_cases sw_1_4 : (c) = 4
  · refine v_cv (y := 4) sw_1_4 ?_
    refine v_tableIn (pc := 1) (tgt := 101) C dX4_fitsOp_1 (by decide) (by decide) rfl (by decide) ?_
    refine v_iload_n (pc := 101) C dX4_fitsOp_101 rfl ?_
    refine v_callS0 (pc := 102) (st := []) C (kX4_isVariable G _ x) ykX4_isVariable kw1_196 kw1_195 dX4_fitsOp_102 rfl rfl rfl (by decide) (Nat.le_of_ble_eq_true rfl) (by decide) rfl (Ri_kk (fun r_102 u_102 h_102 => ?_))
    rcases (lim4 h_102) with ⟨q_102, rfl⟩ | ⟨q_102, rfl⟩
    · refine v_if_eqT (pc := 105) (tgt := 116) C (by decide) dX4_fitsOp_105 (by decide) ?_
      refine v_iconst (pc := 116) (v := 0) C dX4_fitsOp_116 (by decide) ?_
      subst hQ
      exact v_iret (pc := 117) C dX4_fitsOp_117 (rfl) (()) rfl (by rw [sw_1_4]; simp [mayB, inw_f q_102])
    · refine v_if_eqF (pc := 105) (tgt := 116) C (by decide) dX4_fitsOp_105 (by decide) ?_
      refine v_iload_n (pc := 108) C dX4_fitsOp_108 rfl ?_
      refine v_if_ne (pc := 109) (tgt := 116) C dX4_fitsOp_109 (by decide) (fun c_109 => ?_) (fun c_109 => ?_)
      · refine v_iconst (pc := 116) (v := 0) C dX4_fitsOp_116 (by decide) ?_
        subst hQ
        exact v_iret (pc := 117) C dX4_fitsOp_117 (rfl) (()) rfl (by rw [sw_1_4]; simp [mayB, inw_t q_102, c_109])
      · refine v_iconst (pc := 112) (v := 1) C dX4_fitsOp_112 (by decide) ?_
        refine v_goto (pc := 113) (tgt := 117) C dX4_fitsOp_113 (by decide) ?_
        subst hQ
        exact v_iret (pc := 117) C dX4_fitsOp_117 (rfl) (()) rfl (by rw [sw_1_4]; simp [mayB, inw_t q_102, c_109])
  by_cases sw_1_5 : (c) = 5
  · refine v_cv (y := 5) sw_1_5 ?_
    refine v_tableIn (pc := 1) (tgt := 81) C dX4_fitsOp_1 (by decide) (by decide) rfl (by decide) ?_
    refine v_iload_n (pc := 81) C dX4_fitsOp_81 rfl ?_
    refine v_callS0 (pc := 82) (st := []) C (kX4_isVariable G _ x) ykX4_isVariable kw1_196 kw1_195 dX4_fitsOp_82 rfl rfl rfl (by decide) (Nat.le_of_ble_eq_true rfl) (by decide) rfl (Ri_kk (fun r_82 u_82 h_82 => ?_))
    rcases (lim4 h_82) with ⟨q_82, rfl⟩ | ⟨q_82, rfl⟩
    · refine v_if_eqT (pc := 85) (tgt := 99) C (by decide) dX4_fitsOp_85 (by decide) ?_
      refine v_iconst (pc := 99) (v := 0) C dX4_fitsOp_99 (by decide) ?_
      subst hQ
      exact v_iret (pc := 100) C dX4_fitsOp_100 (rfl) (()) rfl (by rw [sw_1_5]; simp [mayB, inw_f q_82])
    · refine v_if_eqF (pc := 85) (tgt := 99) C (by decide) dX4_fitsOp_85 (by decide) ?_
      refine v_iload_n (pc := 88) C dX4_fitsOp_88 rfl ?_
      refine v_callS0 (pc := 89) (st := []) C (kX4_isVariable G _ y) ykX4_isVariable kw1_196 kw1_195 dX4_fitsOp_89 rfl rfl rfl (by decide) (Nat.le_of_ble_eq_true rfl) (by decide) rfl (Ri_kk (fun r_89 u_89 h_89 => ?_))
      rcases (lim4 h_89) with ⟨q_89, rfl⟩ | ⟨q_89, rfl⟩
      · refine v_if_eqT (pc := 92) (tgt := 99) C (by decide) dX4_fitsOp_92 (by decide) ?_
        refine v_iconst (pc := 99) (v := 0) C dX4_fitsOp_99 (by decide) ?_
        subst hQ
        exact v_iret (pc := 100) C dX4_fitsOp_100 (rfl) (()) rfl (by rw [sw_1_5]; simp [mayB, inw_t q_82, inw_f q_89])
      · refine v_if_eqF (pc := 92) (tgt := 99) C (by decide) dX4_fitsOp_92 (by decide) ?_
        refine v_iconst (pc := 95) (v := 1) C dX4_fitsOp_95 (by decide) ?_
        refine v_goto (pc := 96) (tgt := 100) C dX4_fitsOp_96 (by decide) ?_
        subst hQ
        exact v_iret (pc := 100) C dX4_fitsOp_100 (rfl) (()) rfl (by rw [sw_1_5]; simp [mayB, inw_t q_82, inw_t q_89])
  by_cases sw_1_6 : (c) = 6
  · refine v_cv (y := 6) sw_1_6 ?_
    refine v_tableIn (pc := 1) (tgt := 118) C dX4_fitsOp_1 (by decide) (by decide) rfl (by decide) ?_
    refine v_iload_n (pc := 118) C dX4_fitsOp_118 rfl ?_
    refine v_if_ne (pc := 119) (tgt := 130) C dX4_fitsOp_119 (by decide) (fun c_119 => ?_) (fun c_119 => ?_)
    · refine v_iconst (pc := 130) (v := 0) C dX4_fitsOp_130 (by decide) ?_
      subst hQ
      exact v_iret (pc := 131) C dX4_fitsOp_131 (rfl) (()) rfl (by rw [sw_1_6]; simp [mayB, c_119])
    · refine v_iload_n (pc := 122) C dX4_fitsOp_122 rfl ?_
      refine v_if_ne (pc := 123) (tgt := 130) C dX4_fitsOp_123 (by decide) (fun c_123 => ?_) (fun c_123 => ?_)
      · refine v_iconst (pc := 130) (v := 0) C dX4_fitsOp_130 (by decide) ?_
        subst hQ
        exact v_iret (pc := 131) C dX4_fitsOp_131 (rfl) (()) rfl (by rw [sw_1_6]; simp [mayB, c_119, c_123])
      · refine v_iconst (pc := 126) (v := 1) C dX4_fitsOp_126 (by decide) ?_
        refine v_goto (pc := 127) (tgt := 131) C dX4_fitsOp_127 (by decide) ?_
        subst hQ
        exact v_iret (pc := 131) C dX4_fitsOp_131 (rfl) (()) rfl (by rw [sw_1_6]; simp [mayB, c_119, c_123])
  by_cases sw_1_7 : (c) = 7
  · refine v_cv (y := 7) sw_1_7 ?_
    refine v_tableIn (pc := 1) (tgt := 132) C dX4_fitsOp_1 (by decide) (by decide) rfl (by decide) ?_
    refine v_iload_n (pc := 132) C dX4_fitsOp_132 rfl ?_
    refine v_callS0 (pc := 133) (st := []) C (kX4_isCell G _ x) ykX4_isCell kw1_199 kw1_198 dX4_fitsOp_133 rfl rfl rfl (by decide) (Nat.le_of_ble_eq_true rfl) (by decide) rfl (Ri_kk (fun r_133 u_133 h_133 => ?_))
    rcases (lim8 h_133) with ⟨q_133, rfl⟩ | ⟨q_133, rfl⟩
    · refine v_if_eqT (pc := 136) (tgt := 150) C (by decide) dX4_fitsOp_136 (by decide) ?_
      refine v_iconst (pc := 150) (v := 0) C dX4_fitsOp_150 (by decide) ?_
      subst hQ
      exact v_iret (pc := 151) C dX4_fitsOp_151 (rfl) (()) rfl (by rw [sw_1_7]; simp [mayB, inw_f q_133])
    · refine v_if_eqF (pc := 136) (tgt := 150) C (by decide) dX4_fitsOp_136 (by decide) ?_
      refine v_iload_n (pc := 139) C dX4_fitsOp_139 rfl ?_
      refine v_callS0 (pc := 140) (st := []) C (kX4_isVariable G _ y) ykX4_isVariable kw1_196 kw1_195 dX4_fitsOp_140 rfl rfl rfl (by decide) (Nat.le_of_ble_eq_true rfl) (by decide) rfl (Ri_kk (fun r_140 u_140 h_140 => ?_))
      rcases (lim4 h_140) with ⟨q_140, rfl⟩ | ⟨q_140, rfl⟩
      · refine v_if_eqT (pc := 143) (tgt := 150) C (by decide) dX4_fitsOp_143 (by decide) ?_
        refine v_iconst (pc := 150) (v := 0) C dX4_fitsOp_150 (by decide) ?_
        subst hQ
        exact v_iret (pc := 151) C dX4_fitsOp_151 (rfl) (()) rfl (by rw [sw_1_7]; simp [mayB, inw_t q_133, inw_f q_140])
      · refine v_if_eqF (pc := 143) (tgt := 150) C (by decide) dX4_fitsOp_143 (by decide) ?_
        refine v_iconst (pc := 146) (v := 1) C dX4_fitsOp_146 (by decide) ?_
        refine v_goto (pc := 147) (tgt := 151) C dX4_fitsOp_147 (by decide) ?_
        subst hQ
        exact v_iret (pc := 151) C dX4_fitsOp_151 (rfl) (()) rfl (by rw [sw_1_7]; simp [mayB, inw_t q_133, inw_t q_140])
  by_cases sw_1_8 : (c) = 8
  · refine v_cv (y := 8) sw_1_8 ?_
    refine v_tableIn (pc := 1) (tgt := 152) C dX4_fitsOp_1 (by decide) (by decide) rfl (by decide) ?_
    refine v_iload_n (pc := 152) C dX4_fitsOp_152 rfl ?_
    refine v_callS0 (pc := 153) (st := []) C (kX4_isVariable G _ x) ykX4_isVariable kw1_196 kw1_195 dX4_fitsOp_153 rfl rfl rfl (by decide) (Nat.le_of_ble_eq_true rfl) (by decide) rfl (Ri_kk (fun r_153 u_153 h_153 => ?_))
    rcases (lim4 h_153) with ⟨q_153, rfl⟩ | ⟨q_153, rfl⟩
    · refine v_if_eqT (pc := 156) (tgt := 170) C (by decide) dX4_fitsOp_156 (by decide) ?_
      refine v_iconst (pc := 170) (v := 0) C dX4_fitsOp_170 (by decide) ?_
      subst hQ
      exact v_iret (pc := 171) C dX4_fitsOp_171 (rfl) (()) rfl (by rw [sw_1_8]; simp [mayB, inw_f q_153])
    · refine v_if_eqF (pc := 156) (tgt := 170) C (by decide) dX4_fitsOp_156 (by decide) ?_
      refine v_iload_n (pc := 159) C dX4_fitsOp_159 rfl ?_
      refine v_callS0 (pc := 160) (st := []) C (kX4_isCell G _ y) ykX4_isCell kw1_199 kw1_198 dX4_fitsOp_160 rfl rfl rfl (by decide) (Nat.le_of_ble_eq_true rfl) (by decide) rfl (Ri_kk (fun r_160 u_160 h_160 => ?_))
      rcases (lim8 h_160) with ⟨q_160, rfl⟩ | ⟨q_160, rfl⟩
      · refine v_if_eqT (pc := 163) (tgt := 170) C (by decide) dX4_fitsOp_163 (by decide) ?_
        refine v_iconst (pc := 170) (v := 0) C dX4_fitsOp_170 (by decide) ?_
        subst hQ
        exact v_iret (pc := 171) C dX4_fitsOp_171 (rfl) (()) rfl (by rw [sw_1_8]; simp [mayB, inw_t q_153, inw_f q_160])
      · refine v_if_eqF (pc := 163) (tgt := 170) C (by decide) dX4_fitsOp_163 (by decide) ?_
        refine v_iconst (pc := 166) (v := 1) C dX4_fitsOp_166 (by decide) ?_
        refine v_goto (pc := 167) (tgt := 171) C dX4_fitsOp_167 (by decide) ?_
        subst hQ
        exact v_iret (pc := 171) C dX4_fitsOp_171 (rfl) (()) rfl (by rw [sw_1_8]; simp [mayB, inw_t q_153, inw_t q_160])
  by_cases sw_1_9 : (c) = 9
  · refine v_cv (y := 9) sw_1_9 ?_
    refine v_tableIn (pc := 1) (tgt := 172) C dX4_fitsOp_1 (by decide) (by decide) rfl (by decide) ?_
    refine v_iload_n (pc := 172) C dX4_fitsOp_172 rfl ?_
    refine v_callS0 (pc := 173) (st := []) C (kX4_isName G _ x) ykX4_isName kw1_202 kw1_201 dX4_fitsOp_173 rfl rfl rfl (by decide) (Nat.le_of_ble_eq_true rfl) (by decide) rfl (Ri_kk (fun r_173 u_173 h_173 => ?_))
    rcases (lim2 h_173) with ⟨q_173, rfl⟩ | ⟨q_173, rfl⟩
    · refine v_if_eqT (pc := 176) (tgt := 190) C (by decide) dX4_fitsOp_176 (by decide) ?_
      refine v_iconst (pc := 190) (v := 0) C dX4_fitsOp_190 (by decide) ?_
      subst hQ
      exact v_iret (pc := 191) C dX4_fitsOp_191 (rfl) (()) rfl (by rw [sw_1_9]; simp [mayB, inw_f q_173])
    · refine v_if_eqF (pc := 176) (tgt := 190) C (by decide) dX4_fitsOp_176 (by decide) ?_
      refine v_iload_n (pc := 179) C dX4_fitsOp_179 rfl ?_
      refine v_callS0 (pc := 180) (st := []) C (kX4_isName G _ y) ykX4_isName kw1_202 kw1_201 dX4_fitsOp_180 rfl rfl rfl (by decide) (Nat.le_of_ble_eq_true rfl) (by decide) rfl (Ri_kk (fun r_180 u_180 h_180 => ?_))
      rcases (lim2 h_180) with ⟨q_180, rfl⟩ | ⟨q_180, rfl⟩
      · refine v_if_eqT (pc := 183) (tgt := 190) C (by decide) dX4_fitsOp_183 (by decide) ?_
        refine v_iconst (pc := 190) (v := 0) C dX4_fitsOp_190 (by decide) ?_
        subst hQ
        exact v_iret (pc := 191) C dX4_fitsOp_191 (rfl) (()) rfl (by rw [sw_1_9]; simp [mayB, inw_t q_173, inw_f q_180])
      · refine v_if_eqF (pc := 183) (tgt := 190) C (by decide) dX4_fitsOp_183 (by decide) ?_
        refine v_iconst (pc := 186) (v := 1) C dX4_fitsOp_186 (by decide) ?_
        refine v_goto (pc := 187) (tgt := 191) C dX4_fitsOp_187 (by decide) ?_
        subst hQ
        exact v_iret (pc := 191) C dX4_fitsOp_191 (rfl) (()) rfl (by rw [sw_1_9]; simp [mayB, inw_t q_173, inw_t q_180])
  have so_1 : (c).toInt < 0 ∨ 9 < (c).toInt := by
    refine sw_out (fun v h1 h2 h3 => ?_)
    rcases (show v = 0 ∨ v = 1 ∨ v = 2 ∨ v = 3 ∨ v = 4 ∨ v = 5 ∨ v = 6 ∨ v = 7 ∨ v = 8 ∨ v = 9 by omega) with rfl | rfl | rfl | rfl | rfl | rfl | rfl | rfl | rfl | rfl
    · exact sw_1_0 (Int32.toInt_inj.mp h3)
    · exact sw_1_1 (Int32.toInt_inj.mp h3)
    · exact sw_1_2 (Int32.toInt_inj.mp h3)
    · exact sw_1_3 (Int32.toInt_inj.mp h3)
    · exact sw_1_4 (Int32.toInt_inj.mp h3)
    · exact sw_1_5 (Int32.toInt_inj.mp h3)
    · exact sw_1_6 (Int32.toInt_inj.mp h3)
    · exact sw_1_7 (Int32.toInt_inj.mp h3)
    · exact sw_1_8 (Int32.toInt_inj.mp h3)
    · exact sw_1_9 (Int32.toInt_inj.mp h3)
  refine v_tableOut (pc := 1) (tgt := 192) C dX4_fitsOp_1 so_1 (by decide) ?_
  refine v_iconst (pc := 192) (v := 0) C dX4_fitsOp_192 (by decide) ?_
  subst hQ
  exact v_iret (pc := 193) C dX4_fitsOp_193 (rfl) (()) rfl (by simp [mayB, sw_1_0, sw_1_1, sw_1_2, sw_1_3, sw_1_4, sw_1_5, sw_1_6, sw_1_7, sw_1_8, sw_1_9])
def rmX4_singleMachine : Room := { frames := 0, cells := 0, slots := 0, locals := 0 }
set_option maxHeartbeats 4000000 in
set_option maxRecDepth 100000 in
theorem kX4_singleMachine (G : TG) (ws : va_W) (i : Nat) (hi : i < 7) : CT G yX4_singleMachine cX4_singleMachine 1 (some .int) rmX4_singleMachine 0 0 [.int (nI (i))] ws (fun _ : Unit => ws) (Ri (fun r _ => r = nI (smN i))) := by
  refine CT.enter (by decide) (Nat.le_of_ble_eq_true rfl) (fun X C hnm => ?_)
  refine V.less [(0, .int (nI (i)))] ⟨rfl, trivial⟩ ?_
  generalize hQ : (QX G X (fun _ : Unit => ws) (Ri (fun r _ => r = nI (smN i))) 0 0) = Qq
  refine v_iload_n (pc := 0) C dX4_singleMachine_0 rfl ?_
  refine v_if_neN (pc := 1) (tgt := 8) C (i) rfl (by omega) dX4_singleMachine_1 (by decide) (fun c_1 => ?_) (fun c_1 => ?_)
  · refine v_iconst (pc := 8) (v := 1) C dX4_singleMachine_8 (by decide) ?_
    refine v_iload_n (pc := 9) C dX4_singleMachine_9 rfl ?_
    refine v_iconst (pc := 10) (v := 1) C dX4_singleMachine_10 (by decide) ?_
    refine v_isubN (pc := 11) C (i) 1 rfl rfl (by omega) dX4_singleMachine_11 ?_
    refine v_ishl (pc := 12) C dX4_singleMachine_12 ?_
    subst hQ
    exact v_iret (pc := 13) C dX4_singleMachine_13 (rfl) (()) rfl (sm_p i hi c_1)
  · refine v_iconst (pc := 4) (v := 0) C dX4_singleMachine_4 (by decide) ?_
    refine v_goto (pc := 5) (tgt := 13) C dX4_singleMachine_5 (by decide) ?_
    subst hQ
    exact v_iret (pc := 13) C dX4_singleMachine_13 (rfl) (()) rfl (sm_z i hi c_1)
