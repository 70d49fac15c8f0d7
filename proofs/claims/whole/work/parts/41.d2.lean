/-! the desk: set answers, pairs parted -/
theorem nx_or (a b : Nat) : nI a ||| nI b = nI (a ||| b) := by
  apply Int32.toBitVec_inj.1
  show BitVec.ofNat 32 a ||| BitVec.ofNat 32 b = BitVec.ofNat 32 (a ||| b)
  apply BitVec.eq_of_getLsbD_eq
  intro i hi
  rw [BitVec.getLsbD_or, BitVec.getLsbD_ofNat, BitVec.getLsbD_ofNat, BitVec.getLsbD_ofNat, Nat.testBit_or]
  simp [hi]
theorem sh_31 : ∀ k, k < 31 → (1 : Int32) <<< (nI k &&& 31) = nI (2 ^ k) := by decide +kernel
theorem or2 {x k : Nat} (hk : k < 31) (hx : x < 2 ^ k) : nI x ||| ((1 : Int32) <<< (nI k &&& 31)) = nI (x + 2 ^ k) := by
  rw [sh_31 k hk, nx_or]
  have h := Nat.two_pow_add_eq_or_of_lt hx 1
  rw [Nat.mul_one] at h
  rw [Nat.or_comm, ← h, Nat.add_comm]
theorem bitdm (x p : Nat) : x / 2 ^ p % 2 = 1 ↔ x.testBit p = true := by rw [Nat.testBit_eq_decide_div_mod_eq]; exact ⟨fun h => decide_eq_true h, fun h => of_decide_eq_true h⟩
theorem or_bit (x y p : Nat) : (x ||| y) / 2 ^ p % 2 = 1 ↔ x / 2 ^ p % 2 = 1 ∨ y / 2 ^ p % 2 = 1 := by
  rw [bitdm, bitdm, bitdm, Nat.testBit_or, Bool.or_eq_true]
theorem allb {x : Nat} (hx : x < 2 ^ 21) : x = 2097151 ↔ ∀ p, p < 21 → x / 2 ^ p % 2 = 1 := by
  constructor
  · intro e
    subst e
    decide
  · intro h
    apply Nat.eq_of_testBit_eq
    intro i
    rcases Nat.lt_or_ge i 21 with z | z
    · rw [(bitdm x i).mp (h i z)]
      revert z; revert i; decide
    · rw [Nat.testBit_lt_two_pow (Nat.lt_of_lt_of_le hx (Nat.pow_le_pow_right (by decide) z)), Nat.testBit_lt_two_pow (Nat.lt_of_lt_of_le (by decide) (Nat.pow_le_pow_right (by decide) z))]
theorem lb_i2l {s : Nat} (hs : s < 2 ^ 31) (q : Nat) : lb ((nI s).toInt64) q = true ↔ s / 2 ^ q % 2 = 1 := by
  rw [nI_l hs, lb_nat, wb_tn (by omega)]
  exact ⟨fun h => of_decide_eq_true h, fun h => decide_eq_true h⟩
theorem mx {x y : Nat} (hx : x < 2 ^ 31) (hy : y < 2 ^ 31) : (if nI x < nI y then nI y else nI x) = nI (if x < y then y else x) := by
  by_cases h : x < y
  · rw [if_pos h, if_pos (nI_lt h hy)]
  · rw [if_neg h, if_neg (nI_nlt (by omega) hx)]
def tr (i : Nat) : Nat := if i = 1 then 0 else if i = 2 then 1 else if i = 3 then 3 else if i = 4 then 6 else if i = 5 then 10 else if i = 6 then 15 else 21
def pI (p : Nat) : Nat := if p < 1 then 1 else if p < 3 then 2 else if p < 6 then 3 else if p < 10 then 4 else if p < 15 then 5 else 6
def pJ (p : Nat) : Nat := p - tr (pI p)
theorem tr_s : ∀ i, i < 7 → 1 ≤ i → tr i + i = tr (i + 1) := by decide
theorem pIJ : ∀ i, i < 7 → ∀ j, j < i → pI (tr i + j) = i ∧ pJ (tr i + j) = j ∧ tr i + j < 21 := by decide
theorem pIJ2 : ∀ p, p < 21 → pI p < 7 ∧ pJ p < pI p ∧ tr (pI p) + pJ p = p := by decide
/-- the pairs parted, as bits -/
def pv (ans : Nat → Int32) : Nat → Nat
  | 0 => 0
  | p + 1 => pv ans p + (if ans (smN (pI p)) = ans (smN (pJ p)) then 0 else 2 ^ p)
theorem pv_lt (ans : Nat → Int32) : ∀ p, pv ans p < 2 ^ p
  | 0 => Nat.zero_lt_one
  | p + 1 => by
    have ih := pv_lt ans p
    have e : pv ans (p + 1) ≤ pv ans p + 2 ^ p := by
      show pv ans p + (if ans (smN (pI p)) = ans (smN (pJ p)) then 0 else 2 ^ p) ≤ pv ans p + 2 ^ p
      refine Nat.add_le_add_left ?_ _
      by_cases h : ans (smN (pI p)) = ans (smN (pJ p))
      · rw [if_pos h]; exact Nat.zero_le _
      · rw [if_neg h]; exact Nat.le_refl _
    rw [Nat.pow_succ]
    omega
theorem pv_hi {x p m : Nat} (hx : x < 2 ^ p) (h : m < p) : (x + 2 ^ p) / 2 ^ m % 2 = x / 2 ^ m % 2 := by
  have e : 2 ^ p = 2 ^ m * (2 * 2 ^ (p - m - 1)) := by
    rw [← Nat.pow_succ', ← Nat.pow_add]
    congr 1
    omega
  rw [e, Nat.add_mul_div_left _ _ (Nat.two_pow_pos m), Nat.add_mul_mod_self_left]
theorem pv_bit (ans : Nat → Int32) : ∀ p m, m < p → (pv ans p / 2 ^ m % 2 = 1 ↔ ¬ ans (smN (pI m)) = ans (smN (pJ m))) := by
  intro p
  induction p with
  | zero => intro m hm; exact absurd hm (Nat.not_lt_zero m)
  | succ p ih =>
    intro m hm
    have hl := pv_lt ans p
    show (pv ans p + (if ans (smN (pI p)) = ans (smN (pJ p)) then 0 else 2 ^ p)) / 2 ^ m % 2 = 1 ↔ _
    rcases Nat.lt_or_ge m p with z | z
    · by_cases h : ans (smN (pI p)) = ans (smN (pJ p))
      · rw [if_pos h, Nat.add_zero]; exact ih m z
      · rw [if_neg h, pv_hi hl z]; exact ih m z
    · have e : m = p := by omega
      subst e
      by_cases h : ans (smN (pI m)) = ans (smN (pJ m))
      · rw [if_pos h, Nat.add_zero, Nat.div_eq_of_lt hl]
        exact ⟨fun q => absurd q (by decide), fun q => absurd h q⟩
      · rw [if_neg h, Nat.add_div_right _ (Nat.two_pow_pos m), Nat.div_eq_of_lt hl]
        exact ⟨fun _ => h, fun _ => rfl⟩
theorem pv_s {ans : Nat → Int32} {i j x : Nat} (hi : i < 7) (hj : j < i) (hx : x = pv ans (tr i + j)) : pv ans (tr i + (j + 1)) = x + (if ans (smN i) = ans (smN j) then 0 else 2 ^ (tr i + j)) := by
  subst hx
  obtain ⟨e1, e2, -⟩ := pIJ i hi j hj
  show pv ans (tr i + j) + (if ans (smN (pI (tr i + j))) = ans (smN (pJ (tr i + j))) then 0 else 2 ^ (tr i + j)) = _
  rw [e1, e2]
/-- all pairs are parted by the questions of s -/
def paP (v : Nat → Nat) (s n : Nat) : Prop := ∀ p, p < 21 → ∃ q, q < n ∧ s / 2 ^ q % 2 = 1 ∧ v q / 2 ^ p % 2 = 1
theorem ls_add {L : List Nat} {t ans : Nat → Int32} {f m : Nat} (hf : f = L.length) (h : ∀ y x, L[y]? = some x → t y = ans x) : ∀ y x, (L ++ [m])[y]? = some x → upd t f (ans m) y = ans x := by
  subst hf
  intro y x hw
  by_cases e : y = L.length
  · subst e
    rw [List.getElem?_append_right (Nat.le_refl _), Nat.sub_self] at hw
    cases hw
    exact pk_us
  · have hl : y < L.length := by
      have := (List.getElem?_eq_some_iff.mp hw).1
      rw [List.length_append] at this
      have : y < L.length + 1 := this
      omega
    rw [pk_un e]
    rw [List.getElem?_append_left hl] at hw
    exact h y x hw
theorem acc_no {v : Nat → Nat} {s x q : Nat} (h : ∀ p, p < 21 → (x / 2 ^ p % 2 = 1 ↔ ∃ z, z < q ∧ s / 2 ^ z % 2 = 1 ∧ v z / 2 ^ p % 2 = 1)) (hn : ¬ s / 2 ^ q % 2 = 1) : ∀ p, p < 21 → (x / 2 ^ p % 2 = 1 ↔ ∃ z, z < q + 1 ∧ s / 2 ^ z % 2 = 1 ∧ v z / 2 ^ p % 2 = 1) := by
  intro p hp
  rw [h p hp]
  constructor
  · rintro ⟨z, a, b, c⟩; exact ⟨z, by omega, b, c⟩
  · rintro ⟨z, a, b, c⟩
    rcases Nat.lt_or_ge z q with y | y
    · exact ⟨z, y, b, c⟩
    · rw [show z = q by omega] at b; exact absurd b hn
theorem acc_yes {v : Nat → Nat} {s x q : Nat} (h : ∀ p, p < 21 → (x / 2 ^ p % 2 = 1 ↔ ∃ z, z < q ∧ s / 2 ^ z % 2 = 1 ∧ v z / 2 ^ p % 2 = 1)) (hy : s / 2 ^ q % 2 = 1) : ∀ p, p < 21 → ((x ||| v q) / 2 ^ p % 2 = 1 ↔ ∃ z, z < q + 1 ∧ s / 2 ^ z % 2 = 1 ∧ v z / 2 ^ p % 2 = 1) := by
  intro p hp
  rw [or_bit, h p hp]
  constructor
  · rintro (⟨z, a, b, c⟩ | c)
    · exact ⟨z, by omega, b, c⟩
    · exact ⟨q, by omega, hy, c⟩
  · rintro ⟨z, a, b, c⟩
    rcases Nat.lt_or_ge z q with y | y
    · exact Or.inl ⟨z, y, b, c⟩
    · rw [show z = q by omega] at c; exact Or.inr c
theorem bit_hi {s n q : Nat} (hs : s < 2 ^ n) (h : s / 2 ^ q % 2 = 1) : q < n := by
  rcases Nat.lt_or_ge q n with z | z
  · exact z
  · rw [Nat.div_eq_of_lt (Nat.lt_of_lt_of_le hs (Nat.pow_le_pow_right (by decide) z))] at h
    exact absurd h (by decide)
theorem pa_fin {v : Nat → Nat} {s x n : Nat} (hs : s < 2 ^ n) (hx : x < 2 ^ 21) (h : ∀ p, p < 21 → (x / 2 ^ p % 2 = 1 ↔ ∃ z, z < 12 ∧ s / 2 ^ z % 2 = 1 ∧ v z / 2 ^ p % 2 = 1)) (hn : n ≤ 12) : x = 2097151 ↔ paP v s n := by
  rw [allb hx]
  constructor
  · intro g p hp
    obtain ⟨z, -, b, c⟩ := (h p hp).mp (g p hp)
    exact ⟨z, bit_hi hs b, b, c⟩
  · intro g p hp
    obtain ⟨z, a, b, c⟩ := g p hp
    exact (h p hp).mpr ⟨z, by omega, b, c⟩
def rmX4_listSetAnswers : Room := { frames := 4, cells := 0, slots := 0, locals := 94 }
set_option maxHeartbeats 4000000 in
set_option maxRecDepth 100000 in
theorem kX4_listSetAnswers (G : TG) (o p q : Nat) (a f c d : Nat → Nat) (RP RQ RU : Nat → Option Nat) (S K T Z : MS) (ans : Nat → Int32) (ζ : MS) (hη : QOK ans ζ T Z) (Λ : Int64) : CT G yX4_listSetAnswers cX4_listSetAnswers 6 (some .int) rmX4_listSetAnswers 0 0 [.ref (o), .ref (q), .long (Λ)] (CWd G o a RP RQ RU S ++ (KWd G (a 5) f K ++ (PWd G p c T ++ (QWd G q d p Z)))) (fun u : MS × MS × MS => CWd G o a RP RQ RU u.1 ++ (KWd G (a 5) f u.2.1 ++ (PWd G p c T ++ QWd G q d p u.2.2))) (Ri (fun r u => r = nI (bl Λ 64).length ∧ (∃ t, u.1 = sA S 9 t ∧ ∀ y x, (bl Λ 64)[y]? = some x → t y = ans x) ∧ QOK ans ζ T u.2.2)) := by
  refine CT.enter (by decide) (Nat.le_of_ble_eq_true rfl) (fun X C hnm => ?_)
  refine V.less [(0, .ref (o)), (1, .ref (q)), (2, .long (Λ))] ⟨rfl, rfl, rfl, trivial⟩ ?_
  generalize hQ : (QX G X (fun u : MS × MS × MS => CWd G o a RP RQ RU u.1 ++ (KWd G (a 5) f u.2.1 ++ (PWd G p c T ++ QWd G q d p u.2.2))) (Ri (fun r u => r = nI (bl Λ 64).length ∧ (∃ t, u.1 = sA S 9 t ∧ ∀ y x, (bl Λ 64)[y]? = some x → t y = ans x) ∧ QOK ans ζ T u.2.2)) 0 0) = Qq
  refine v_iconst (pc := 0) (v := 0) C dX4_listSetAnswers_0 (by decide) ?_
  refine v_istore (pc := 1) C dX4_listSetAnswers_1 (by decide) ?_
  refine v_iconst (pc := 3) (v := 0) C dX4_listSetAnswers_3 (by decide) ?_
  refine v_istore (pc := 4) C dX4_listSetAnswers_4 (by decide) ?_
  have L6 : ∀ (fu : Nat) (κ : Nat) (σ : Nat) (t : Nat → Int32) (K1 : MS) (Z1 : MS), (64 < κ + fu) → (κ ≤ 64) → (σ = (bl Λ κ).length) → (∀ y x, (bl Λ κ)[y]? = some x → t y = ans x) → (QOK ans ζ T Z1) → V G X cX4_listSetAnswers 6 rmX4_listSetAnswers Qq 0 0 6 (lvo [(0, .ref (o)), (1, .ref (q)), (2, .long (Λ)), (4, .int (nI (σ))), (5, .int (nI (κ)))]) [] (CWd G o a RP RQ RU (sA S 9 t) ++ (KWd G (a 5) f K1 ++ (PWd G p c T ++ (QWd G q d p Z1)))) := by
    intro fu
    induction fu with
    | zero => intro κ σ t K1 Z1 hφ hκ hσ hτ hQ1; exfalso; omega
    | succ fu ih6 =>
      intro κ σ t K1 Z1 hφ hκ hσ hτ hQ1
      have hle := bl_le Λ κ
      refine v_iload (pc := 6) C dX4_listSetAnswers_6 rfl ?_
      refine v_bipush (pc := 8) (v := 64) C dX4_listSetAnswers_8 (by decide) ?_
      refine v_icmp_geN (pc := 10) (tgt := 45) C (κ) 64 rfl rfl (by omega) (by omega) dX4_listSetAnswers_10 (by decide) (fun c_10 => ?_) (fun c_10 => ?_)
      · have hκ4 : κ = 64 := by omega
        subst hκ4
        refine v_iload (pc := 45) C dX4_listSetAnswers_45 rfl ?_
        subst hQ
        exact v_iret (pc := 47) C dX4_listSetAnswers_47 (rfl) (((sA S 9 t), K1, Z1)) rfl (⟨by rw [hσ], ⟨t, rfl, hτ⟩, hQ1⟩)
      · refine v_lload_n (pc := 13) C dX4_listSetAnswers_13 rfl ?_
        refine v_iload (pc := 14) C dX4_listSetAnswers_14 rfl ?_
        refine v_callS0 (pc := 16) (st := []) C (kX4_hasBit G _ (Λ) (κ) (by omega)) ykX4_hasBit kw2_101 kw2_144 dX4_listSetAnswers_16 rfl rfl rfl (by decide) (Nat.le_of_ble_eq_true rfl) (by decide) rfl (Ri_kk (fun r_16 u_16 h_16 => ?_))
        rcases (if01 h_16) with ⟨q_16, rfl⟩ | ⟨q_16, rfl⟩
        · refine v_if_eqT (pc := 19) (tgt := 39) C (by decide) dX4_listSetAnswers_19 (by decide) ?_
          refine v_iinc1 (pc := 39) C (κ) rfl dX4_listSetAnswers_39 rfl ?_
          refine v_goto (pc := 42) (tgt := 6) C dX4_listSetAnswers_42 (by decide) ?_
          exact V.lessE (ih6  (((κ) + 1)) ((σ)) (t) (K1) (Z1) (by omega) (by omega) (by rw [bl_no q_16]; exact hσ) (by rw [bl_no q_16]; exact hτ) (hQ1)) ⟨rfl, rfl, rfl, rfl, rfl, trivial⟩
        · refine v_if_eqF (pc := 19) (tgt := 39) C (by decide) dX4_listSetAnswers_19 (by decide) ?_
          refine v_aload_n (pc := 22) C dX4_listSetAnswers_22 rfl ?_
          refine v_get (pc := 23) (v := .ref (a 9)) C inX4 0 rfl rfl 9 (by decide) kw1_91 rfl dX4_listSetAnswers_23 ?_
          refine v_iload (pc := 26) C dX4_listSetAnswers_26 rfl ?_
          refine v_aload_n (pc := 28) C dX4_listSetAnswers_28 rfl ?_
          refine v_aload_n (pc := 29) C dX4_listSetAnswers_29 rfl ?_
          refine v_iload (pc := 30) C dX4_listSetAnswers_30 rfl ?_
          refine v_callV0 (pc := 32) (st := [.int (nI (σ)), .ref (a 9)]) (q0 := 0) C (kX4_answerBy G o p q a f c d RP RQ RU (sA S 9 t) K1 T Z1 ans ζ hQ1 (κ) (by omega)) ykX4_answerBy cvX4_answerBy kw2_92 dX4_listSetAnswers_32 rfl rfl rfl rfl rfl (by decide) (Nat.le_of_ble_eq_true rfl) (by decide) rfl (Ri_kk (fun r_32 u_32 h_32 => ?_))
          obtain ⟨er_32, eS_32, hQ_32⟩ := h_32
          subst er_32
          refine V.same (ws' := (CWd G o a RP RQ RU (sA S 9 t) ++ (KWd G (a 5) f u_32.2.1 ++ (PWd G p c T ++ (QWd G q d p u_32.2.2))))) (by show CWd G o a RP RQ RU u_32.1 ++ _ = _; rw [eS_32]) ?_
          refine V.same (ws' := (CWd G o a RP RQ RU (sA S 9 t) ++ (KWd G (a 5) f u_32.2.1 ++ (PWd G p c T ++ (QWd G q d p u_32.2.2))))) rfl ?_
          refine v_iastN (pc := 35) (i := (σ)) (f := t) C 7 rfl (by omega) (by decide) dX4_listSetAnswers_35 (ws' := (CWd G o a RP RQ RU (sA S 9 (upd (t) (σ) (ans (κ)))) ++ (KWd G (a 5) f u_32.2.1 ++ (PWd G p c T ++ (QWd G q d p u_32.2.2))))) rfl ?_
          refine v_iinc1 (pc := 36) C (σ) rfl dX4_listSetAnswers_36 rfl ?_
          refine v_iinc1 (pc := 39) C (κ) rfl dX4_listSetAnswers_39 rfl ?_
          refine v_goto (pc := 42) (tgt := 6) C dX4_listSetAnswers_42 (by decide) ?_
          exact V.lessE (ih6  (((κ) + 1)) (((σ) + 1)) ((upd (t) (σ) (ans (κ)))) (u_32.2.1) (u_32.2.2) (by omega) (by omega) (by rw [bl_yes q_16, List.length_append, ← hσ]; rfl) (by rw [bl_yes q_16]; exact ls_add hσ hτ) (hQ_32)) ⟨rfl, rfl, rfl, rfl, rfl, trivial⟩
  exact V.lessE (L6 (65) (0) (0) ((mA S 9)) (K) (Z) (by omega) (by omega) (rfl) (fun y x h => by cases h) (hη)) ⟨rfl, rfl, rfl, rfl, rfl, trivial⟩
def rmX4_mostAlike : Room := { frames := 1, cells := 0, slots := 0, locals := 21 }
set_option maxHeartbeats 4000000 in
set_option maxRecDepth 100000 in
theorem kX4_mostAlike (G : TG) (o : Nat) (a : Nat → Nat) (RP RQ RU : Nat → Option Nat) (S : MS) (n : Nat) (hn : n ≤ 64) : CT G yX4_mostAlike cX4_mostAlike 6 (some .int) rmX4_mostAlike 0 0 [.ref (o), .int (nI (n))] (CWd G o a RP RQ RU S) (fun S : MS => CWd G o a RP RQ RU S) (Ri (fun r S' => S' = S ∧ r = nI (mostN (mA S 9) n n))) := by
  refine CT.enter (by decide) (Nat.le_of_ble_eq_true rfl) (fun X C hnm => ?_)
  refine V.less [(0, .ref (o)), (1, .int (nI (n)))] ⟨rfl, rfl, trivial⟩ ?_
  generalize hQ : (QX G X (fun S : MS => CWd G o a RP RQ RU S) (Ri (fun r S' => S' = S ∧ r = nI (mostN (mA S 9) n n))) 0 0) = Qq
  refine v_iconst (pc := 0) (v := 0) C dX4_mostAlike_0 (by decide) ?_
  refine v_istore_n (pc := 1) C dX4_mostAlike_1 (by decide) ?_
  refine v_iconst (pc := 2) (v := 0) C dX4_mostAlike_2 (by decide) ?_
  refine v_istore_n (pc := 3) C dX4_mostAlike_3 (by decide) ?_
  have L4 : ∀ (fu : Nat) (i : Nat), (n < i + fu) → (i ≤ n) → V G X cX4_mostAlike 6 rmX4_mostAlike Qq 0 0 4 (lvo [(0, .ref (o)), (1, .int (nI (n))), (2, .int (nI (mostN (mA S 9) n i))), (3, .int (nI (i)))]) [] (CWd G o a RP RQ RU S) := by
    intro fu
    induction fu with
    | zero => intro i hφ hi; exfalso; omega
    | succ fu ih4 =>
      intro i hφ hi
      have hmo := mostN_le (mA S 9) n i
      refine v_iload_n (pc := 4) C dX4_mostAlike_4 rfl ?_
      refine v_iload_n (pc := 5) C dX4_mostAlike_5 rfl ?_
      refine v_icmp_geN (pc := 6) (tgt := 59) C (i) (n) rfl rfl (by omega) (by omega) dX4_mostAlike_6 (by decide) (fun c_6 => ?_) (fun c_6 => ?_)
      · refine v_iload_n (pc := 59) C dX4_mostAlike_59 rfl ?_
        subst hQ
        exact v_iret (pc := 60) C dX4_mostAlike_60 (rfl) (S) rfl (⟨rfl, by rw [show i = n by omega]⟩)
      · refine v_iconst (pc := 9) (v := 0) C dX4_mostAlike_9 (by decide) ?_
        refine v_istore (pc := 10) C dX4_mostAlike_10 (by decide) ?_
        refine v_iconst (pc := 12) (v := 0) C dX4_mostAlike_12 (by decide) ?_
        refine v_istore (pc := 13) C dX4_mostAlike_13 (by decide) ?_
        have L15 : ∀ (fu : Nat) (z : Nat) (cn : Nat), (n < z + fu) → (z ≤ n) → (cn = cntN (mA S 9) ((mA S 9) i) z) → V G X cX4_mostAlike 6 rmX4_mostAlike Qq 0 0 15 (lvo [(0, .ref (o)), (1, .int (nI (n))), (2, .int (nI (mostN (mA S 9) n i))), (3, .int (nI (i))), (4, .int (nI (cn))), (5, .int (nI (z)))]) [] (CWd G o a RP RQ RU S) := by
          intro fu
          induction fu with
          | zero => intro z cn hψ hz hc; exfalso; omega
          | succ fu ih15 =>
            intro z cn hψ hz hc
            have hcn := cntN_le (mA S 9) ((mA S 9) i) z
            refine v_iload (pc := 15) C dX4_mostAlike_15 rfl ?_
            refine v_iload_n (pc := 17) C dX4_mostAlike_17 rfl ?_
            refine v_icmp_geN (pc := 18) (tgt := 46) C (z) (n) rfl rfl (by omega) (by omega) dX4_mostAlike_18 (by decide) (fun c_18 => ?_) (fun c_18 => ?_)
            · have hzn : z = n := by omega
              refine v_iload_n (pc := 46) C dX4_mostAlike_46 rfl ?_
              refine v_iload (pc := 47) C dX4_mostAlike_47 rfl ?_
              refine v_mmax (pc := 49) C kw2_236 kw2_237 kw1_10 kw2_238 (by decide) (by decide) (by decide) (by decide) dX4_mostAlike_49 ?_
              refine v_cv (y := (nI (mostN (mA S 9) n (i + 1)))) ((mx (by omega) (by omega)).trans (by rw [hc, hzn]; rfl)) ?_
              refine v_istore_n (pc := 52) C dX4_mostAlike_52 (by decide) ?_
              refine v_iinc1 (pc := 53) C (i) rfl dX4_mostAlike_53 rfl ?_
              refine v_goto (pc := 56) (tgt := 4) C dX4_mostAlike_56 (by decide) ?_
              exact V.lessE (ih4  (((i) + 1)) (by omega) (by omega)) ⟨rfl, rfl, rfl, rfl, trivial⟩
            · refine v_aload_n (pc := 21) C dX4_mostAlike_21 rfl ?_
              refine v_get (pc := 22) (v := .ref (a 9)) C inX4 0 rfl rfl 9 (by decide) kw1_91 rfl dX4_mostAlike_22 ?_
              refine v_iload_n (pc := 25) C dX4_mostAlike_25 rfl ?_
              refine v_ialdN (pc := 26) (i := (i)) (f := (mA S 9)) C 7 rfl (by omega) (by decide) dX4_mostAlike_26 ?_
              refine v_aload_n (pc := 27) C dX4_mostAlike_27 rfl ?_
              refine v_get (pc := 28) (v := .ref (a 9)) C inX4 0 rfl rfl 9 (by decide) kw1_91 rfl dX4_mostAlike_28 ?_
              refine v_iload (pc := 31) C dX4_mostAlike_31 rfl ?_
              refine v_ialdN (pc := 33) (i := (z)) (f := (mA S 9)) C 7 rfl (by omega) (by decide) dX4_mostAlike_33 ?_
              refine v_icmp_ne (pc := 34) (tgt := 40) C dX4_mostAlike_34 (by decide) (fun c_34 => ?_) (fun c_34 => ?_)
              · refine v_iinc1 (pc := 40) C (z) rfl dX4_mostAlike_40 rfl ?_
                refine v_goto (pc := 43) (tgt := 15) C dX4_mostAlike_43 (by decide) ?_
                exact V.lessE (ih15  (((z) + 1)) ((cn)) (by omega) (by omega) (by show _ = cntN (mA S 9) ((mA S 9) i) z + (if (mA S 9) z = (mA S 9) i then 1 else 0); rw [if_neg (fun e => c_34 e.symm)]; exact hc)) ⟨rfl, rfl, rfl, rfl, rfl, rfl, trivial⟩
              · refine v_iinc1 (pc := 37) C (cn) rfl dX4_mostAlike_37 rfl ?_
                refine v_iinc1 (pc := 40) C (z) rfl dX4_mostAlike_40 rfl ?_
                refine v_goto (pc := 43) (tgt := 15) C dX4_mostAlike_43 (by decide) ?_
                exact V.lessE (ih15  (((z) + 1)) (((cn) + 1)) (by omega) (by omega) (by show _ = cntN (mA S 9) ((mA S 9) i) z + (if (mA S 9) z = (mA S 9) i then 1 else 0); rw [if_pos c_34.symm, hc])) ⟨rfl, rfl, rfl, rfl, rfl, rfl, trivial⟩
        exact V.lessE (L15 (n + 1) (0) (0) (by omega) (by omega) (rfl)) ⟨rfl, rfl, rfl, rfl, rfl, rfl, trivial⟩
  exact V.lessE (L4 (n + 1) (0) (by omega) (by omega)) ⟨rfl, rfl, rfl, rfl, trivial⟩
def rmX4_pairsParted : Room := { frames := 4, cells := 0, slots := 0, locals := 94 }
set_option maxHeartbeats 4000000 in
set_option maxRecDepth 100000 in
theorem kX4_pairsParted (G : TG) (o p q : Nat) (a f c d : Nat → Nat) (RP RQ RU : Nat → Option Nat) (S K T Z : MS) (ans : Nat → Int32) (ζ : MS) (hη : QOK ans ζ T Z)  : CT G yX4_pairsParted cX4_pairsParted 6 (some .int) rmX4_pairsParted 0 0 [.ref (o), .ref (q)] (CWd G o a RP RQ RU S ++ (KWd G (a 5) f K ++ (PWd G p c T ++ (QWd G q d p Z)))) (fun u : MS × MS × MS => CWd G o a RP RQ RU u.1 ++ (KWd G (a 5) f u.2.1 ++ (PWd G p c T ++ QWd G q d p u.2.2))) (Ri (fun r u => r = nI (pv ans 21) ∧ u.1 = S ∧ QOK ans ζ T u.2.2)) := by
  refine CT.enter (by decide) (Nat.le_of_ble_eq_true rfl) (fun X C hnm => ?_)
  refine V.less [(0, .ref (o)), (1, .ref (q))] ⟨rfl, rfl, trivial⟩ ?_
  generalize hQ : (QX G X (fun u : MS × MS × MS => CWd G o a RP RQ RU u.1 ++ (KWd G (a 5) f u.2.1 ++ (PWd G p c T ++ QWd G q d p u.2.2))) (Ri (fun r u => r = nI (pv ans 21) ∧ u.1 = S ∧ QOK ans ζ T u.2.2)) 0 0) = Qq
  refine v_iconst (pc := 0) (v := 0) C dX4_pairsParted_0 (by decide) ?_
  refine v_istore_n (pc := 1) C dX4_pairsParted_1 (by decide) ?_
  refine v_iconst (pc := 2) (v := 0) C dX4_pairsParted_2 (by decide) ?_
  refine v_istore_n (pc := 3) C dX4_pairsParted_3 (by decide) ?_
  refine v_iconst (pc := 4) (v := 1) C dX4_pairsParted_4 (by decide) ?_
  refine v_istore (pc := 5) C dX4_pairsParted_5 (by decide) ?_
  have L7 : ∀ (fu : Nat) (i : Nat) (x : Nat) (π : Nat) (K1 : MS) (Z1 : MS), (7 < i + fu) → (i ≤ 7) → (1 ≤ i) → (x = pv ans (tr i)) → (π = tr i) → (QOK ans ζ T Z1) → V G X cX4_pairsParted 6 rmX4_pairsParted Qq 0 0 7 (lvo [(0, .ref (o)), (1, .ref (q)), (2, .int (nI (x))), (3, .int (nI (π))), (4, .int (nI (i)))]) [] (CWd G o a RP RQ RU S ++ (KWd G (a 5) f K1 ++ (PWd G p c T ++ (QWd G q d p Z1)))) := by
    intro fu
    induction fu with
    | zero => intro i x π K1 Z1 hφ hi h1i hx hpp hQ1; exfalso; omega
    | succ fu ih7 =>
      intro i x π K1 Z1 hφ hi h1i hx hpp hQ1
      refine v_iload (pc := 7) C dX4_pairsParted_7 rfl ?_
      refine v_bipush (pc := 9) (v := 7) C dX4_pairsParted_9 (by decide) ?_
      refine v_icmp_geN (pc := 11) (tgt := 68) C (i) 7 rfl rfl (by omega) (by omega) dX4_pairsParted_11 (by decide) (fun c_11 => ?_) (fun c_11 => ?_)
      · refine v_iload_n (pc := 68) C dX4_pairsParted_68 rfl ?_
        subst hQ
        exact v_iret (pc := 69) C dX4_pairsParted_69 (rfl) ((S, K1, Z1)) rfl (⟨by rw [hx, show i = 7 by omega]; rfl, rfl, hQ1⟩)
      · refine v_iconst (pc := 14) (v := 0) C dX4_pairsParted_14 (by decide) ?_
        refine v_istore (pc := 15) C dX4_pairsParted_15 (by decide) ?_
        have L17 : ∀ (fu : Nat) (j : Nat) (x : Nat) (π : Nat) (K1 : MS) (Z1 : MS), (i < j + fu) → (j ≤ i) → (x = pv ans (tr i + j)) → (π = tr i + j) → (QOK ans ζ T Z1) → V G X cX4_pairsParted 6 rmX4_pairsParted Qq 0 0 17 (lvo [(0, .ref (o)), (1, .ref (q)), (2, .int (nI (x))), (3, .int (nI (π))), (4, .int (nI (i))), (5, .int (nI (j)))]) [] (CWd G o a RP RQ RU S ++ (KWd G (a 5) f K1 ++ (PWd G p c T ++ (QWd G q d p Z1)))) := by
          intro fu
          induction fu with
          | zero => intro j x π K1 Z1 hψ hj hx hpp hQ1; exfalso; omega
          | succ fu ih17 =>
            intro j x π K1 Z1 hψ hj hx hpp hQ1
            refine v_iload (pc := 17) C dX4_pairsParted_17 rfl ?_
            refine v_iload (pc := 19) C dX4_pairsParted_19 rfl ?_
            refine v_icmp_geN (pc := 21) (tgt := 62) C (j) (i) rfl rfl (by omega) (by omega) dX4_pairsParted_21 (by decide) (fun c_21 => ?_) (fun c_21 => ?_)
            · have hji : j = i := by omega
              refine v_iinc1 (pc := 62) C (i) rfl dX4_pairsParted_62 rfl ?_
              refine v_goto (pc := 65) (tgt := 7) C dX4_pairsParted_65 (by decide) ?_
              exact V.lessE (ih7  (((i) + 1)) ((x)) ((π)) (K1) (Z1) (by omega) (by omega) (by omega) (by rw [← tr_s i (by omega) h1i]; rw [hji] at hx; exact hx) (by rw [← tr_s i (by omega) h1i]; rw [hji] at hpp; exact hpp) (hQ1)) ⟨rfl, rfl, rfl, rfl, rfl, trivial⟩
            · have hp21 := (pIJ i (by omega) j c_21).2.2
              have hxl := pv_lt ans (tr i + j)
              rw [← hx, ← hpp] at hxl
              refine v_aload_n (pc := 24) C dX4_pairsParted_24 rfl ?_
              refine v_aload_n (pc := 25) C dX4_pairsParted_25 rfl ?_
              refine v_iload (pc := 26) C dX4_pairsParted_26 rfl ?_
              refine v_callS0 (pc := 28) (st := [.ref (q), .ref (o)]) C (kX4_singleMachine G _ i (by omega)) ykX4_singleMachine kw2_121 kw2_120 dX4_pairsParted_28 rfl rfl rfl (by decide) (Nat.le_of_ble_eq_true rfl) (by decide) rfl (Ri_kk (fun r_28 u_28 h_28 => ?_))
              subst h_28
              have hsm_28 := smN_lt i (by omega)
              refine v_callV0 (pc := 31) (st := []) (q0 := 0) C (kX4_answerBy G o p q a f c d RP RQ RU S K1 T Z1 ans ζ hQ1 (smN i) (by omega)) ykX4_answerBy cvX4_answerBy kw2_92 dX4_pairsParted_31 rfl rfl rfl rfl rfl (by decide) (Nat.le_of_ble_eq_true rfl) (by decide) rfl (Ri_kk (fun r_31 u_31 h_31 => ?_))
              obtain ⟨er_31, eS_31, hQ_31⟩ := h_31
              subst er_31
              refine V.same (ws' := (CWd G o a RP RQ RU S ++ (KWd G (a 5) f u_31.2.1 ++ (PWd G p c T ++ (QWd G q d p u_31.2.2))))) (by show CWd G o a RP RQ RU u_31.1 ++ _ = _; rw [eS_31]) ?_
              refine V.same (ws' := (CWd G o a RP RQ RU S ++ (KWd G (a 5) f u_31.2.1 ++ (PWd G p c T ++ (QWd G q d p u_31.2.2))))) rfl ?_
              refine v_aload_n (pc := 34) C dX4_pairsParted_34 rfl ?_
              refine v_aload_n (pc := 35) C dX4_pairsParted_35 rfl ?_
              refine v_iload (pc := 36) C dX4_pairsParted_36 rfl ?_
              refine v_callS0 (pc := 38) (st := [.ref (q), .ref (o), .int (ans (smN i))]) C (kX4_singleMachine G _ j (by omega)) ykX4_singleMachine kw2_121 kw2_120 dX4_pairsParted_38 rfl rfl rfl (by decide) (Nat.le_of_ble_eq_true rfl) (by decide) rfl (Ri_kk (fun r_38 u_38 h_38 => ?_))
              subst h_38
              have hsm_38 := smN_lt j (by omega)
              refine v_callV0 (pc := 41) (st := [.int (ans (smN i))]) (q0 := 0) C (kX4_answerBy G o p q a f c d RP RQ RU S u_31.2.1 T u_31.2.2 ans ζ hQ_31 (smN j) (by omega)) ykX4_answerBy cvX4_answerBy kw2_92 dX4_pairsParted_41 rfl rfl rfl rfl rfl (by decide) (Nat.le_of_ble_eq_true rfl) (by decide) rfl (Ri_kk (fun r_41 u_41 h_41 => ?_))
              obtain ⟨er_41, eS_41, hQ_41⟩ := h_41
              subst er_41
              refine V.same (ws' := (CWd G o a RP RQ RU S ++ (KWd G (a 5) f u_41.2.1 ++ (PWd G p c T ++ (QWd G q d p u_41.2.2))))) (by show CWd G o a RP RQ RU u_41.1 ++ _ = _; rw [eS_41]) ?_
              refine V.same (ws' := (CWd G o a RP RQ RU S ++ (KWd G (a 5) f u_41.2.1 ++ (PWd G p c T ++ (QWd G q d p u_41.2.2))))) rfl ?_
              refine v_icmp_eq (pc := 44) (tgt := 53) C dX4_pairsParted_44 (by decide) (fun c_44 => ?_) (fun c_44 => ?_)
              · refine v_iinc1 (pc := 53) C (π) rfl dX4_pairsParted_53 rfl ?_
                refine v_iinc1 (pc := 56) C (j) rfl dX4_pairsParted_56 rfl ?_
                refine v_goto (pc := 59) (tgt := 17) C dX4_pairsParted_59 (by decide) ?_
                exact V.lessE (ih17  (((j) + 1)) ((x)) (((π) + 1)) (u_41.2.1) (u_41.2.2) (by omega) (by omega) (by rw [pv_s (by omega) c_21 hx, if_pos c_44]; rfl) (by omega) (hQ_41)) ⟨rfl, rfl, rfl, rfl, rfl, rfl, trivial⟩
              · refine v_iload_n (pc := 47) C dX4_pairsParted_47 rfl ?_
                refine v_iconst (pc := 48) (v := 1) C dX4_pairsParted_48 (by decide) ?_
                refine v_iload_n (pc := 49) C dX4_pairsParted_49 rfl ?_
                refine v_ishl (pc := 50) C dX4_pairsParted_50 ?_
                refine v_ior (pc := 51) C dX4_pairsParted_51 ?_
                refine v_cv (y := (nI (x + 2 ^ π))) (or2 (by omega) hxl) ?_
                refine v_istore_n (pc := 52) C dX4_pairsParted_52 (by decide) ?_
                refine v_iinc1 (pc := 53) C (π) rfl dX4_pairsParted_53 rfl ?_
                refine v_iinc1 (pc := 56) C (j) rfl dX4_pairsParted_56 rfl ?_
                refine v_goto (pc := 59) (tgt := 17) C dX4_pairsParted_59 (by decide) ?_
                exact V.lessE (ih17  (((j) + 1)) ((x + 2 ^ π)) (((π) + 1)) (u_41.2.1) (u_41.2.2) (by omega) (by omega) (by rw [pv_s (by omega) c_21 hx, if_neg c_44, ← hpp]) (by omega) (hQ_41)) ⟨rfl, rfl, rfl, rfl, rfl, rfl, trivial⟩
        exact V.lessE (L17 (i + 1) (0) ((x)) ((π)) (K1) (Z1) (by omega) (by omega) (hx) (hpp) (hQ1)) ⟨rfl, rfl, rfl, rfl, rfl, rfl, trivial⟩
  exact V.lessE (L7 (8) (1) (0) (0) (K) (Z) (by omega) (by omega) (by omega) (rfl) (rfl) (hη)) ⟨rfl, rfl, rfl, rfl, rfl, trivial⟩
def rmX4_partsAll : Room := { frames := 1, cells := 0, slots := 0, locals := 22 }
set_option maxHeartbeats 4000000 in
set_option maxRecDepth 100000 in
theorem kX4_partsAll (G : TG) (o : Nat) (a : Nat → Nat) (RP RQ RU : Nat → Option Nat) (S : MS) (s n : Nat) (v : Nat → Nat) (hn : n ≤ 12) (hs : s < 2 ^ n) (hv : ∀ q, q < n → mA S 10 q = nI (v q) ∧ v q < 2 ^ 21) : CT G yX4_partsAll cX4_partsAll 4 (some .boolean) rmX4_partsAll 0 0 [.ref (o), .int (nI (s))] (CWd G o a RP RQ RU S) (fun S : MS => CWd G o a RP RQ RU S) (Ri (fun r S' => S' = S ∧ ((r = 1 ∧ paP v s n) ∨ (r = 0 ∧ ¬ (paP v s n))))) := by
  refine CT.enter (by decide) (Nat.le_of_ble_eq_true rfl) (fun X C hnm => ?_)
  refine V.less [(0, .ref (o)), (1, .int (nI (s)))] ⟨rfl, rfl, trivial⟩ ?_
  generalize hQ : (QX G X (fun S : MS => CWd G o a RP RQ RU S) (Ri (fun r S' => S' = S ∧ ((r = 1 ∧ paP v s n) ∨ (r = 0 ∧ ¬ (paP v s n))))) 0 0) = Qq
  have h2n : 2 ^ n ≤ 2 ^ 12 := Nat.pow_le_pow_right (by decide) hn
  refine v_iconst (pc := 0) (v := 0) C dX4_partsAll_0 (by decide) ?_
  refine v_istore_n (pc := 1) C dX4_partsAll_1 (by decide) ?_
  refine v_iconst (pc := 2) (v := 0) C dX4_partsAll_2 (by decide) ?_
  refine v_istore_n (pc := 3) C dX4_partsAll_3 (by decide) ?_
  have L4 : ∀ (fu : Nat) (q : Nat) (x : Nat), (12 < q + fu) → (q ≤ 12) → (x < 2 ^ 21) → (∀ p, p < 21 → (x / 2 ^ p % 2 = 1 ↔ ∃ z, z < q ∧ s / 2 ^ z % 2 = 1 ∧ v z / 2 ^ p % 2 = 1)) → V G X cX4_partsAll 4 rmX4_partsAll Qq 0 0 4 (lvo [(0, .ref (o)), (1, .int (nI (s))), (2, .int (nI (x))), (3, .int (nI (q)))]) [] (CWd G o a RP RQ RU S) := by
    intro fu
    induction fu with
    | zero => intro q x hφ hq hx1 hx2; exfalso; omega
    | succ fu ih4 =>
      intro q x hφ hq hx1 hx2
      refine v_iload_n (pc := 4) C dX4_partsAll_4 rfl ?_
      refine v_bipush (pc := 5) (v := 12) C dX4_partsAll_5 (by decide) ?_
      refine v_icmp_geN (pc := 7) (tgt := 34) C (q) 12 rfl rfl (by omega) (by omega) dX4_partsAll_7 (by decide) (fun c_7 => ?_) (fun c_7 => ?_)
      · have hq12 : q = 12 := by omega
        subst hq12
        have hfi := pa_fin (v := v) hs hx1 hx2 hn
        refine v_iload_n (pc := 34) C dX4_partsAll_34 rfl ?_
        refine v_ldcw (pc := 35) C dX4_partsAll_35 kw3_14 ?_
        refine v_icmp_neN (pc := 38) (tgt := 45) C (x) 2097151 rfl rfl (by omega) (by omega) dX4_partsAll_38 (by decide) (fun c_38 => ?_) (fun c_38 => ?_)
        · refine v_iconst (pc := 45) (v := 0) C dX4_partsAll_45 (by decide) ?_
          subst hQ
          exact v_iret (pc := 46) C dX4_partsAll_46 (rfl) (S) rfl (⟨rfl, Or.inr ⟨rfl, fun z => c_38 (hfi.mpr z)⟩⟩)
        · refine v_iconst (pc := 41) (v := 1) C dX4_partsAll_41 (by decide) ?_
          refine v_goto (pc := 42) (tgt := 46) C dX4_partsAll_42 (by decide) ?_
          subst hQ
          exact v_iret (pc := 46) C dX4_partsAll_46 (rfl) (S) rfl (⟨rfl, Or.inl ⟨rfl, hfi.mp c_38⟩⟩)
      · refine v_iload_n (pc := 10) C dX4_partsAll_10 rfl ?_
        refine v_i2l (pc := 11) C dX4_partsAll_11 ?_
        refine v_iload_n (pc := 12) C dX4_partsAll_12 rfl ?_
        refine v_callS0 (pc := 13) (st := []) C (kX4_hasBit G _ ((nI s).toInt64) (q) (by omega)) ykX4_hasBit kw2_101 kw2_144 dX4_partsAll_13 rfl rfl rfl (by decide) (Nat.le_of_ble_eq_true rfl) (by decide) rfl (Ri_kk (fun r_13 u_13 h_13 => ?_))
        rcases (if01 h_13) with ⟨q_13, rfl⟩ | ⟨q_13, rfl⟩
        · refine v_if_eqT (pc := 16) (tgt := 28) C (by decide) dX4_partsAll_16 (by decide) ?_
          refine v_iinc1 (pc := 28) C (q) rfl dX4_partsAll_28 rfl ?_
          refine v_goto (pc := 31) (tgt := 4) C dX4_partsAll_31 (by decide) ?_
          exact V.lessE (ih4  (((q) + 1)) ((x)) (by omega) (by omega) (hx1) (acc_no hx2 (fun z => q_13 ((lb_i2l (by omega) q).mpr z)))) ⟨rfl, rfl, rfl, rfl, trivial⟩
        · refine v_if_eqF (pc := 16) (tgt := 28) C (by decide) dX4_partsAll_16 (by decide) ?_
          have hqn : q < n := bit_hi hs ((lb_i2l (by omega) q).mp q_13)
          refine v_iload_n (pc := 19) C dX4_partsAll_19 rfl ?_
          refine v_aload_n (pc := 20) C dX4_partsAll_20 rfl ?_
          refine v_get (pc := 21) (v := .ref (a 10)) C inX4 0 rfl rfl 10 (by decide) kw1_92 rfl dX4_partsAll_21 ?_
          refine v_iload_n (pc := 24) C dX4_partsAll_24 rfl ?_
          refine v_ialdN (pc := 25) (i := (q)) (f := (mA S 10)) C 8 rfl (by omega) (by decide) dX4_partsAll_25 ?_
          refine v_cv (y := (nI (v q))) ((hv q hqn).1) ?_
          refine v_ior (pc := 26) C dX4_partsAll_26 ?_
          refine v_cv (y := (nI (x ||| v q))) (nx_or _ _) ?_
          refine v_istore_n (pc := 27) C dX4_partsAll_27 (by decide) ?_
          refine v_iinc1 (pc := 28) C (q) rfl dX4_partsAll_28 rfl ?_
          refine v_goto (pc := 31) (tgt := 4) C dX4_partsAll_31 (by decide) ?_
          exact V.lessE (ih4  (((q) + 1)) ((x ||| v q)) (by omega) (by omega) (Nat.or_lt_two_pow hx1 (hv q hqn).2) (acc_yes hx2 ((lb_i2l (by omega) q).mp q_13))) ⟨rfl, rfl, rfl, rfl, trivial⟩
  exact V.lessE (L4 (13) (0) (0) (by omega) (by omega) (by decide) (fun p hp => by rw [Nat.zero_div]; exact ⟨fun z => absurd z (by decide), fun z => by obtain ⟨y, a, -⟩ := z; exact absurd a (Nat.not_lt_zero y)⟩)) ⟨rfl, rfl, rfl, rfl, trivial⟩
