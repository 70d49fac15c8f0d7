/-! the desk as a whole: its state, how it holds what is meant -/
def PRC (O X Y : Nat → Int32) (n : Nat) (T : MS) : Prop := PR O X Y n T ∧ (∀ k, k < n → mA T 3 k = nI (dp O k)) ∧ mI T 6 = nI (dp O n) ∧ ∀ i, i < dp O n → ∃ m, m < n ∧ mA T 5 i = nI m ∧ (O m = 4 ∨ O m = 5) ∧ dp O m = i ∧ ∀ j, m < j → j ≤ n → i < dp O j
def PAll (A : AS) (Ps : Nat → MS) : Prop := ∀ p, p < aNp A → PRC (aO A p) (aX A p) (aY A p) (aN A p) (Ps p) ∧ mI (Ps p) 8 = (if askedA A p = true then 1 else 0)
def TRel (A : AS) (S K : MS) : Prop := (aT A = none ∧ mI S 14 = 0 ∧ mI K 6 = 0) ∨ ∃ n t d, aT A = some (n, t, d) ∧ n ≤ 20 ∧ mI S 14 = 1 ∧ mI K 6 = nI n ∧ (∀ k, k < 4 → mA K 0 k = t k) ∧ okK K ∧ (∀ w, w < 8 → kCell K w = t (4 + w)) ∧ (if mI K 8 = 0 then (0 : Int32) else 1) = t 12 ∧ (if mA K 2 0 = mA K 2 1 then (1 : Int32) else 0) = t 13 ∧ ∀ k, k < 20 → mA K 3 k = d k
def ChRel (A : AS) (S : MS) : Prop := ∃ c q, mI S 16 = nI c ∧ mI S 15 = nI q ∧ q < 60 ∧ c ≤ 6 ∧ (aC A).length = c ∧ (c = 0 ∨ (q < aNq A ∧ aC A = (chK A q 7).take c))
def FlRel (A : AS) (S : MS) : Prop := aF A = (bl (mL S 17) 64).map (fun b => nI b - 9) ∧ ∀ b, b < 64 → 19 ≤ b → lb (mL S 17) b = false
def SAll (A : AS) (S K : MS) : Prop := SRel A S ∧ TRel A S K ∧ ChRel A S ∧ FlRel A S ∧ mI S 13 = nI (linesA A (aNp A))
abbrev DS : Type := MS × MS × MS × MS × (Nat → MS) × (Nat → MS) × (Nat → MS) × (Nat → Option Nat) × (Nat → Option Nat) × (Nat → Nat) × (Nat → Nat → Nat) × (Nat → Nat) × (Nat → Nat → Nat)
def CAll (A : AS) (RP RQ RU : Nat → Option Nat) (ua pa qa : Nat → Nat) (S K0 : MS) (Us Ps Zs : Nat → MS) : Prop := SAll A S K0 ∧ PAll A Ps ∧ QAll A Ps Zs ∧ (∀ u, u < 10 → URel A u (Us u)) ∧ (∀ i, i < aNp A → RP i = some (pa i)) ∧ (∀ j, j < aNq A → RQ j = some (qa j)) ∧ ∀ u, u < 10 → RU u = some (ua u)
def CRel (A : AS) (RU : Nat → Option Nat) (ua : Nat → Nat) (D : DS) : Prop := CAll A D.2.2.2.2.2.2.2.1 D.2.2.2.2.2.2.2.2.1 RU ua D.2.2.2.2.2.2.2.2.2.1 D.2.2.2.2.2.2.2.2.2.2.2.1 D.1 D.2.1 D.2.2.2.2.1 D.2.2.2.2.2.1 D.2.2.2.2.2.2.1
def DWd (G : TG) (o : Nat) (a : Nat → Nat) (f : Nat → Nat → Nat) (ua : Nat → Nat) (ub : Nat → Nat → Nat) (RU : Nat → Option Nat) (A : AS) (D : DS) : va_W := CWd G o a D.2.2.2.2.2.2.2.1 D.2.2.2.2.2.2.2.2.1 RU D.1 ++ (KWd G (a 4) (f 0) D.2.1 ++ (KWd G (a 5) (f 1) D.2.2.1 ++ (KWd G (a 6) (f 2) D.2.2.2.1 ++ (ULd G 10 ua ub D.2.2.2.2.1 ++ (PLd G (aNp A) D.2.2.2.2.2.2.2.2.2.1 D.2.2.2.2.2.2.2.2.2.2.1 D.2.2.2.2.2.1 ++ QLd G (aNq A) D.2.2.2.2.2.2.2.2.2.2.2.1 D.2.2.2.2.2.2.2.2.2.2.2.2 (fun j => D.2.2.2.2.2.2.2.2.2.1 (aQp A j)) D.2.2.2.2.2.2.1)))))
theorem T_none {A : AS} {S K : MS} (h : TRel A S K) (c : mI S 14 = 0) : aT A = none := by
  rcases h with ⟨q, -⟩ | ⟨n, t, d, -, -, q, -⟩
  · exact q
  · rw [c] at q; exact absurd q (by decide)
theorem T_some {A : AS} {S K : MS} (h : TRel A S K) (c : ¬ mI S 14 = 0) : ∃ n t d, aT A = some (n, t, d) ∧ n ≤ 20 ∧ mI S 14 = 1 ∧ mI K 6 = nI n ∧ (∀ k, k < 4 → mA K 0 k = t k) ∧ okK K ∧ (∀ w, w < 8 → kCell K w = t (4 + w)) ∧ (if mI K 8 = 0 then (0 : Int32) else 1) = t 12 ∧ (if mA K 2 0 = mA K 2 1 then (1 : Int32) else 0) = t 13 ∧ ∀ k, k < 20 → mA K 3 k = d k := by
  rcases h with ⟨-, q, -⟩ | q
  · exact absurd q c
  · exact q
theorem done_neg {A : AS} {l : Int32} (h : l < 0) : s_done A l = -1 := by
  unfold s_done
  cases aT A with
  | none => rfl
  | some x => obtain ⟨n, t, d⟩ := x; exact if_pos h
theorem done_ge {A : AS} {S K : MS} {l : Int32} (hT : TRel A S K) (h0 : ¬ l < 0) (h : ¬ l < mI K 6) : s_done A l = -1 := by
  unfold s_done
  rcases hT with ⟨q, -⟩ | ⟨n, t, d, q, hn, -, h6, -⟩
  · rw [q]
  · rw [q]
    show (if l < 0 then -1 else if nI n ≤ l then -1 else d (tn l)) = -1
    rw [h6] at h
    rw [if_neg h0, if_pos (Int32.not_lt.mp h)]
theorem done_in {A : AS} {S K : MS} {l : Int32} (hT : TRel A S K) (h0 : ¬ l < 0) (h : l < mI K 6) : ∃ k, k < 20 ∧ l = nI k ∧ mA K 3 k = s_done A l := by
  rcases hT with ⟨-, -, q⟩ | ⟨n, t, d, q, hn, -, h6, -, -, -, -, -, hd⟩
  · rw [q] at h; exact absurd h h0
  · rw [h6] at h
    obtain ⟨k, hk, e⟩ := ixN h0 (Int32.not_le.mpr h) (by omega)
    subst e
    refine ⟨k, by omega, rfl, ?_⟩
    unfold s_done
    rw [q]
    show _ = if nI k < 0 then -1 else if nI n ≤ nI k then -1 else d (tn (nI k))
    rw [if_neg h0, if_neg (Int32.not_le.mpr h), tn_nI (by omega)]
    exact hd k (by omega)
theorem bitA_set {A : AS} {u : Nat} {Λ : Int64} {i : Int32} (h : bl Λ 64 = setL A u) : bitA Λ i = if i < 0 then -1 else if nI (setL A u).length ≤ i then -1 else nI ((setL A u).getD (tn i) 0) := by
  unfold bitA; rw [h]
theorem bl_mem {Λ : Int64} : ∀ n x, x ∈ bl Λ n → x < n := by
  intro n
  induction n with
  | zero => intro x hx; cases hx
  | succ n ih =>
    intro x hx
    by_cases h : lb Λ n = true
    · rw [bl_yes h] at hx
      rcases List.mem_append.mp hx with q | q
      · have := ih x q; omega
      · have := List.mem_singleton.mp q; omega
    · rw [bl_no h] at hx; have := ih x hx; omega
theorem bitA_or (Λ : Int64) (i : Int32) : (bitA Λ i = -1 ∧ (i < 0 ∨ nI (bl Λ 64).length ≤ i)) ∨ ∃ k b, k < (bl Λ 64).length ∧ i = nI k ∧ (bl Λ 64)[k]? = some b ∧ b < 64 ∧ bitA Λ i = nI b := by
  have hl := bl_le Λ 64
  unfold bitA
  by_cases q : i < 0
  · exact Or.inl ⟨if_pos q, Or.inl q⟩
  · by_cases z : nI (bl Λ 64).length ≤ i
    · exact Or.inl ⟨by rw [if_neg q, if_pos z], Or.inr z⟩
    · obtain ⟨k, hk, e⟩ := ixN q z (by omega)
      subst e
      have hg := getD_at (d := 0) hk
      refine Or.inr ⟨k, _, hk, rfl, hg, bl_mem 64 _ (List.mem_of_getElem? hg), ?_⟩
      rw [if_neg q, if_neg z, tn_nI (by omega)]
theorem nI_small {b : Nat} (hb : b < 64) : 0 ≤ nI b := nI_pos' (by omega)
theorem dp_le20 {A : AS} (hI : AInv A) {p : Nat} (hp : p < aNp A) : dp (aO A p) (aN A p) < 2 ^ 31 := by
  have := dp_le (aO A p) (aN A p)
  have := hI.2.1 p
  omega
theorem wh01 {d : Nat} {r : Int32} (hd : d < 2 ^ 31) (h : r = if nI d = 0 then 1 else 0) : (¬ d = 0 ∧ r = 0) ∨ (d = 0 ∧ r = 1) := by
  by_cases q : d = 0
  · subst q; exact Or.inr ⟨rfl, h⟩
  · exact Or.inl ⟨q, by rw [h, if_neg (nI_ne0 (by omega) hd)]⟩
theorem w03 {w : Int32} (h0 : ¬ w = 0) (h1 : ¬ w = 1) (h2 : ¬ w = 2) (h3 : ¬ w = 3) : w < 0 ∨ 3 < w := by
  rcases pk_ix w (n := 4) (by decide) with q | q | ⟨j, a, b⟩
  · exact Or.inl q
  · have : (3 : Int32) < 4 := by decide
    exact Or.inr (Int32.lt_of_lt_of_le this q)
  · subst b
    rcases (show j = 0 ∨ j = 1 ∨ j = 2 ∨ j = 3 by omega) with z | z | z | z <;> subst z
    · exact absurd rfl h0
    · exact absurd rfl h1
    · exact absurd rfl h2
    · exact absurd rfl h3
theorem ab_bad {A : AS} {p l w : Int32} {j : Nat} (hj : j < aNp A) (h10 : aNp A ≤ 10) (e : p = nI j) (hb : l < 0 ∨ nI (aN A j) ≤ l) : s_about A p l w = NV := by
  subst e
  unfold s_about
  rw [tn_nI (by omega), if_neg (nbad hj (by omega))]
  rcases hb with q | q
  · rw [if_pos q]
  · by_cases z : l < 0
    · rw [if_pos z]
    · rw [if_neg z, if_pos q]
theorem to_in {k : Nat} (h : k < 14) : ¬ (nI k < 0 ∨ 13 < nI k) := fun z => z.elim (fun y => nI_pos (by omega) y) (fun y => nI_nlt (show k ≤ 13 by omega) (by decide) y)
theorem to_out {w : Int32} (h0 : 0 ≤ w) (h4 : 4 ≤ w) (h12 : 12 ≤ w) (n12 : ¬ w = 12) (n13 : ¬ w = 13) : w < 0 ∨ 13 < w := by
  rcases pk_ix w (n := 14) (by decide) with q | q | ⟨j, a, b⟩
  · exact Or.inl q
  · have : (13 : Int32) < 14 := by decide
    exact Or.inr (Int32.lt_of_lt_of_le this q)
  · subst b
    have hj : 12 ≤ j := (nI_leI (by decide) (by omega)).mp h12
    rcases (show j = 12 ∨ j = 13 by omega) with z | z <;> subst z
    · exact absurd rfl n12
    · exact absurd rfl n13
theorem to_4 {w : Int32} (h0 : 0 ≤ w) (h : ¬ 4 ≤ w) : ∃ k, k < 4 ∧ w = nI k := ixN (fun z => absurd z (Int32.not_lt.mpr h0)) h (by decide)
theorem to_12 {w : Int32} (h4 : 4 ≤ w) (h : ¬ 12 ≤ w) : ∃ k, k < 8 ∧ w = nI (k + 4) := by
  have h0 : ¬ w < 0 := fun z => absurd (Int32.lt_of_le_of_lt h4 z) (by decide)
  obtain ⟨k, hk, e⟩ := ixN (n := 12) h0 h (by decide)
  subst e
  have := (nI_leI (a := 4) (by decide) (by omega)).mp h4
  exact ⟨k - 4, by omega, by rw [show k - 4 + 4 = k by omega]⟩
def rmX4_count : Room := { frames := 0, cells := 0, slots := 0, locals := 0 }
set_option maxHeartbeats 4000000 in
set_option maxRecDepth 100000 in
theorem kX4_count (G : TG) (o : Nat) (a : Nat → Nat) (f : Nat → Nat → Nat) (ua : Nat → Nat) (ub : Nat → Nat → Nat) (RP RQ RU : Nat → Option Nat) (S K0 K1 K2 : MS) (Us Ps Zs : Nat → MS) (pa qa : Nat → Nat) (pb qb : Nat → Nat → Nat) (A : AS) (hI : AInv A) (hC : CAll A RP RQ RU ua pa qa S K0 Us Ps Zs) (w : Int32) : CT G yX4_count cX4_count 2 (some .int) rmX4_count 0 0 [.ref (o), .int (w)] (CWd G o a RP RQ RU S ++ (KWd G (a 4) (f 0) K0 ++ (KWd G (a 5) (f 1) K1 ++ (KWd G (a 6) (f 2) K2 ++ (ULd G 10 ua ub Us ++ (PLd G (aNp A) pa pb Ps ++ (QLd G (aNq A) qa qb (fun j => pa (aQp A j)) Zs))))))) (fun u : AS × DS => DWd G o a f ua ub RU u.1 u.2) (Ri (fun r δ => r = s_count A w ∧ δ.1 = A ∧ CRel δ.1 RU ua δ.2)) := by
  refine CT.enter (by decide) (Nat.le_of_ble_eq_true rfl) (fun X C hnm => ?_)
  refine V.less [(0, .ref (o)), (1, .int (w))] ⟨rfl, rfl, trivial⟩ ?_
  generalize hQ : (QX G X (fun u : AS × DS => DWd G o a f ua ub RU u.1 u.2) (Ri (fun r δ => r = s_count A w ∧ δ.1 = A ∧ CRel δ.1 RU ua δ.2)) 0 0) = Qq
  have hnp := hI.1
  have hnq := hI.2.2.2.2.1
  obtain ⟨hS, hP, hA, hU, hRP, hRQ, hRU⟩ := id hC
  refine v_iload_n (pc := 0) C dX4_count_0 rfl ?_
  by_cases sw_1_0 : (w) = 0
  · refine v_cv (y := 0) sw_1_0 ?_
    refine v_tableIn (pc := 1) (tgt := 28) C dX4_count_1 (by decide) (by decide) rfl (by decide) ?_
    refine v_aload_n (pc := 28) C dX4_count_28 rfl ?_
    refine v_get (pc := 29) (v := .int (mI S 11)) C inX4 0 rfl rfl 11 (by decide) kw1_93 rfl dX4_count_29 ?_
    subst hQ
    exact v_iret (pc := 32) C dX4_count_32 (rfl) ((A, (S, K0, K1, K2, Us, Ps, Zs, RP, RQ, pa, pb, qa, qb))) rfl (⟨by unfold s_count; rw [if_pos sw_1_0]; exact hS.1.1, rfl, hC⟩)
  by_cases sw_1_1 : (w) = 1
  · refine v_cv (y := 1) sw_1_1 ?_
    refine v_tableIn (pc := 1) (tgt := 33) C dX4_count_1 (by decide) (by decide) rfl (by decide) ?_
    refine v_aload_n (pc := 33) C dX4_count_33 rfl ?_
    refine v_get (pc := 34) (v := .int (mI S 12)) C inX4 0 rfl rfl 12 (by decide) kw1_94 rfl dX4_count_34 ?_
    subst hQ
    exact v_iret (pc := 37) C dX4_count_37 (rfl) ((A, (S, K0, K1, K2, Us, Ps, Zs, RP, RQ, pa, pb, qa, qb))) rfl (⟨by unfold s_count; rw [if_neg sw_1_0, if_pos sw_1_1]; exact hS.1.2.1, rfl, hC⟩)
  by_cases sw_1_2 : (w) = 2
  · refine v_cv (y := 2) sw_1_2 ?_
    refine v_tableIn (pc := 1) (tgt := 38) C dX4_count_1 (by decide) (by decide) rfl (by decide) ?_
    refine v_aload_n (pc := 38) C dX4_count_38 rfl ?_
    refine v_get (pc := 39) (v := .int (mI S 13)) C inX4 0 rfl rfl 13 (by decide) kw1_95 rfl dX4_count_39 ?_
    subst hQ
    exact v_iret (pc := 42) C dX4_count_42 (rfl) ((A, (S, K0, K1, K2, Us, Ps, Zs, RP, RQ, pa, pb, qa, qb))) rfl (⟨by unfold s_count; rw [if_neg sw_1_0, if_neg sw_1_1, if_pos sw_1_2]; exact hS.2.2.2.2, rfl, hC⟩)
  have so_1 : (w).toInt < 0 ∨ 2 < (w).toInt := by
    refine sw_out (fun v h1 h2 h3 => ?_)
    rcases (show v = 0 ∨ v = 1 ∨ v = 2 by omega) with rfl | rfl | rfl
    · exact sw_1_0 (Int32.toInt_inj.mp h3)
    · exact sw_1_1 (Int32.toInt_inj.mp h3)
    · exact sw_1_2 (Int32.toInt_inj.mp h3)
  refine v_tableOut (pc := 1) (tgt := 43) C dX4_count_1 so_1 (by decide) ?_
  refine v_iconst (pc := 43) (v := (-1)) C dX4_count_43 (by decide) ?_
  subst hQ
  exact v_iret (pc := 44) C dX4_count_44 (rfl) ((A, (S, K0, K1, K2, Us, Ps, Zs, RP, RQ, pa, pb, qa, qb))) rfl (⟨by unfold s_count; rw [if_neg sw_1_0, if_neg sw_1_1, if_neg sw_1_2], rfl, hC⟩)
def rmX4_whole : Room := { frames := 1, cells := 0, slots := 0, locals := 21 }
set_option maxHeartbeats 4000000 in
set_option maxRecDepth 100000 in
theorem kX4_whole (G : TG) (o : Nat) (a : Nat → Nat) (f : Nat → Nat → Nat) (ua : Nat → Nat) (ub : Nat → Nat → Nat) (RP RQ RU : Nat → Option Nat) (S K0 K1 K2 : MS) (Us Ps Zs : Nat → MS) (pa qa : Nat → Nat) (pb qb : Nat → Nat → Nat) (A : AS) (hI : AInv A) (hC : CAll A RP RQ RU ua pa qa S K0 Us Ps Zs) (p : Int32) : CT G yX4_whole cX4_whole 3 (some .int) rmX4_whole 0 0 [.ref (o), .int (p)] (CWd G o a RP RQ RU S ++ (KWd G (a 4) (f 0) K0 ++ (KWd G (a 5) (f 1) K1 ++ (KWd G (a 6) (f 2) K2 ++ (ULd G 10 ua ub Us ++ (PLd G (aNp A) pa pb Ps ++ (QLd G (aNq A) qa qb (fun j => pa (aQp A j)) Zs))))))) (fun u : AS × DS => DWd G o a f ua ub RU u.1 u.2) (Ri (fun r δ => r = s_whole A p ∧ δ.1 = A ∧ CRel δ.1 RU ua δ.2)) := by
  refine CT.enter (by decide) (Nat.le_of_ble_eq_true rfl) (fun X C hnm => ?_)
  refine V.less [(0, .ref (o)), (1, .int (p))] ⟨rfl, rfl, trivial⟩ ?_
  generalize hQ : (QX G X (fun u : AS × DS => DWd G o a f ua ub RU u.1 u.2) (Ri (fun r δ => r = s_whole A p ∧ δ.1 = A ∧ CRel δ.1 RU ua δ.2)) 0 0) = Qq
  have hnp := hI.1
  have hnq := hI.2.2.2.2.1
  obtain ⟨hS, hP, hA, hU, hRP, hRQ, hRU⟩ := id hC
  refine v_aload_n (pc := 0) C dX4_whole_0 rfl ?_
  refine v_iload_n (pc := 1) C dX4_whole_1 rfl ?_
  refine V.perm (ws' := (KWd G (a 4) (f 0) K0 ++ (KWd G (a 5) (f 1) K1 ++ (KWd G (a 6) (f 2) K2 ++ (ULd G 10 ua ub Us ++ (PLd G (aNp A) pa pb Ps ++ (QLd G (aNq A) qa qb (fun j => pa (aQp A j)) Zs ++ (CWd G o a RP RQ RU S)))))))) ((List.perm_append_comm).trans (List.Perm.of_eq (by simp only [List.append_assoc]))) ?_
  refine V.same (ws' := (KWd G (a 4) (f 0) K0 ++ (KWd G (a 5) (f 1) K1 ++ (KWd G (a 6) (f 2) K2 ++ (ULd G 10 ua ub Us ++ (PLd G (aNp A) pa pb Ps ++ (QLd G (aNq A) qa qb (fun j => pa (aQp A j)) Zs)))))) ++ (CWd G o a RP RQ RU S)) (by simp only [List.append_assoc]) ?_
  refine v_callV (pc := 2) (st := []) (q0 := 0) (wr := (KWd G (a 4) (f 0) K0 ++ (KWd G (a 5) (f 1) K1 ++ (KWd G (a 6) (f 2) K2 ++ (ULd G 10 ua ub Us ++ (PLd G (aNp A) pa pb Ps ++ (QLd G (aNq A) qa qb (fun j => pa (aQp A j)) Zs))))))) C (kX4_programAt G o a RP RQ RU S p (aNp A) hI.1 hS.1.1) ykX4_programAt cvX4_programAt kw1_188 dX4_whole_2 rfl rfl rfl rfl rfl (by decide) (Nat.le_of_ble_eq_true rfl) (by decide) rfl (Rq_kk (fun r_2 u_2 h_2 => ?_))
  obtain ⟨e_2, h_2⟩ := h_2
  rw [e_2]
  refine V.same (ws' := (KWd G (a 4) (f 0) K0 ++ (KWd G (a 5) (f 1) K1 ++ (KWd G (a 6) (f 2) K2 ++ (ULd G 10 ua ub Us ++ (PLd G (aNp A) pa pb Ps ++ (QLd G (aNq A) qa qb (fun j => pa (aQp A j)) Zs ++ (CWd G o a RP RQ RU S)))))))) (by simp only [List.append_assoc]) ?_
  refine V.perm (ws' := (KWd G (a 5) (f 1) K1 ++ (KWd G (a 6) (f 2) K2 ++ (ULd G 10 ua ub Us ++ (PLd G (aNp A) pa pb Ps ++ (QLd G (aNq A) qa qb (fun j => pa (aQp A j)) Zs ++ (CWd G o a RP RQ RU S ++ (KWd G (a 4) (f 0) K0)))))))) ((List.perm_append_comm).trans (List.Perm.of_eq (by simp only [List.append_assoc]))) ?_
  refine V.perm (ws' := (KWd G (a 6) (f 2) K2 ++ (ULd G 10 ua ub Us ++ (PLd G (aNp A) pa pb Ps ++ (QLd G (aNq A) qa qb (fun j => pa (aQp A j)) Zs ++ (CWd G o a RP RQ RU S ++ (KWd G (a 4) (f 0) K0 ++ (KWd G (a 5) (f 1) K1)))))))) ((List.perm_append_comm).trans (List.Perm.of_eq (by simp only [List.append_assoc]))) ?_
  refine V.perm (ws' := (ULd G 10 ua ub Us ++ (PLd G (aNp A) pa pb Ps ++ (QLd G (aNq A) qa qb (fun j => pa (aQp A j)) Zs ++ (CWd G o a RP RQ RU S ++ (KWd G (a 4) (f 0) K0 ++ (KWd G (a 5) (f 1) K1 ++ (KWd G (a 6) (f 2) K2)))))))) ((List.perm_append_comm).trans (List.Perm.of_eq (by simp only [List.append_assoc]))) ?_
  refine V.perm (ws' := (PLd G (aNp A) pa pb Ps ++ (QLd G (aNq A) qa qb (fun j => pa (aQp A j)) Zs ++ (CWd G o a RP RQ RU S ++ (KWd G (a 4) (f 0) K0 ++ (KWd G (a 5) (f 1) K1 ++ (KWd G (a 6) (f 2) K2 ++ (ULd G 10 ua ub Us)))))))) ((List.perm_append_comm).trans (List.Perm.of_eq (by simp only [List.append_assoc]))) ?_
  refine V.perm (ws' := (QLd G (aNq A) qa qb (fun j => pa (aQp A j)) Zs ++ (CWd G o a RP RQ RU S ++ (KWd G (a 4) (f 0) K0 ++ (KWd G (a 5) (f 1) K1 ++ (KWd G (a 6) (f 2) K2 ++ (ULd G 10 ua ub Us ++ (PLd G (aNp A) pa pb Ps)))))))) ((List.perm_append_comm).trans (List.Perm.of_eq (by simp only [List.append_assoc]))) ?_
  refine V.perm (ws' := (CWd G o a RP RQ RU S ++ (KWd G (a 4) (f 0) K0 ++ (KWd G (a 5) (f 1) K1 ++ (KWd G (a 6) (f 2) K2 ++ (ULd G 10 ua ub Us ++ (PLd G (aNp A) pa pb Ps ++ (QLd G (aNq A) qa qb (fun j => pa (aQp A j)) Zs)))))))) ((List.perm_append_comm).trans (List.Perm.of_eq (by simp only [List.append_assoc]))) ?_
  rcases h_2 with ⟨b_p, rfl⟩ | ⟨j, hj, rfl, rfl⟩
  · refine v_rfn rfl ?_
    refine v_astore_nN (pc := 5) C dX4_whole_5 (by decide) ?_
    refine v_aload_nN (pc := 6) C dX4_whole_6 rfl ?_
    refine v_ifnonnullN (pc := 7) C dX4_whole_7 ?_
    refine v_iconst (pc := 10) (v := (-1)) C dX4_whole_10 (by decide) ?_
    subst hQ
    exact v_iret (pc := 11) C dX4_whole_11 (rfl) ((A, (S, K0, K1, K2, Us, Ps, Zs, RP, RQ, pa, pb, qa, qb))) rfl (⟨by unfold s_whole; rw [if_pos b_p], rfl, hC⟩)
  · refine v_rfs (hRP j hj) ?_
    refine V.perm (ws' := (CWd G o a RP RQ RU S ++ (KWd G (a 4) (f 0) K0 ++ (KWd G (a 5) (f 1) K1 ++ (KWd G (a 6) (f 2) K2 ++ (ULd G 10 ua ub Us ++ (PLx G (aNp A) pa pb Ps j ++ (PWd G (pa j) (pb j) (Ps j) ++ (QLd G (aNq A) qa qb (fun j => pa (aQp A j)) Zs))))))))) ((List.Perm.append_left _ (List.Perm.append_left _ (List.Perm.append_left _ (List.Perm.append_left _ (List.Perm.append_left _ (List.Perm.append_right _ (PL_focus hj))))))).trans (List.Perm.of_eq (by simp only [List.append_assoc]))) ?_
    refine V.perm (ws' := (CWd G o a RP RQ RU S ++ (KWd G (a 4) (f 0) K0 ++ (KWd G (a 5) (f 1) K1 ++ (KWd G (a 6) (f 2) K2 ++ (PLx G (aNp A) pa pb Ps j ++ (PWd G (pa j) (pb j) (Ps j) ++ (QLd G (aNq A) qa qb (fun j => pa (aQp A j)) Zs ++ (ULd G 10 ua ub Us))))))))) ((List.Perm.append_left _ (List.Perm.append_left _ (List.Perm.append_left _ (List.Perm.append_left _ (List.perm_append_comm))))).trans (List.Perm.of_eq (by simp only [List.append_assoc]))) ?_
    refine V.perm (ws' := (CWd G o a RP RQ RU S ++ (KWd G (a 4) (f 0) K0 ++ (KWd G (a 5) (f 1) K1 ++ (KWd G (a 6) (f 2) K2 ++ (PWd G (pa j) (pb j) (Ps j) ++ (QLd G (aNq A) qa qb (fun j => pa (aQp A j)) Zs ++ (ULd G 10 ua ub Us ++ (PLx G (aNp A) pa pb Ps j))))))))) ((List.Perm.append_left _ (List.Perm.append_left _ (List.Perm.append_left _ (List.Perm.append_left _ (List.perm_append_comm))))).trans (List.Perm.of_eq (by simp only [List.append_assoc]))) ?_
    refine V.perm (ws' := (CWd G o a RP RQ RU S ++ (KWd G (a 4) (f 0) K0 ++ (KWd G (a 5) (f 1) K1 ++ (KWd G (a 6) (f 2) K2 ++ (PWd G (pa j) (pb j) (Ps j) ++ (ULd G 10 ua ub Us ++ (PLx G (aNp A) pa pb Ps j ++ (QLd G (aNq A) qa qb (fun j => pa (aQp A j)) Zs))))))))) ((List.Perm.append_left _ (List.Perm.append_left _ (List.Perm.append_left _ (List.Perm.append_left _ (List.Perm.append_left _ (List.perm_append_comm)))))).trans (List.Perm.of_eq (by simp only [List.append_assoc]))) ?_
    refine v_astore_n (pc := 5) C dX4_whole_5 (by decide) ?_
    refine v_aload_n (pc := 6) C dX4_whole_6 rfl ?_
    refine v_ifnonnull (pc := 7) (tgt := 12) C dX4_whole_7 (by decide) ?_
    refine v_aload_n (pc := 12) C dX4_whole_12 rfl ?_
    refine V.perm (ws' := (CWd G o a RP RQ RU S ++ (KWd G (a 4) (f 0) K0 ++ (KWd G (a 5) (f 1) K1 ++ (KWd G (a 6) (f 2) K2 ++ (ULd G 10 ua ub Us ++ (PLx G (aNp A) pa pb Ps j ++ (QLd G (aNq A) qa qb (fun j => pa (aQp A j)) Zs ++ (PWd G (pa j) (pb j) (Ps j)))))))))) ((List.Perm.append_left _ (List.Perm.append_left _ (List.Perm.append_left _ (List.Perm.append_left _ (List.perm_append_comm))))).trans (List.Perm.of_eq (by simp only [List.append_assoc]))) ?_
    refine V.same (ws' := (CWd G o a RP RQ RU S ++ (KWd G (a 4) (f 0) K0 ++ (KWd G (a 5) (f 1) K1 ++ (KWd G (a 6) (f 2) K2 ++ (ULd G 10 ua ub Us ++ (PLx G (aNp A) pa pb Ps j ++ (QLd G (aNq A) qa qb (fun j => pa (aQp A j)) Zs))))))) ++ (PWd G (pa j) (pb j) (Ps j))) (by simp only [List.append_assoc]) ?_
    refine v_callVN (pc := 13) (st := []) (q0 := 0) (wr := (CWd G o a RP RQ RU S ++ (KWd G (a 4) (f 0) K0 ++ (KWd G (a 5) (f 1) K1 ++ (KWd G (a 6) (f 2) K2 ++ (ULd G 10 ua ub Us ++ (PLx G (aNp A) pa pb Ps j ++ (QLd G (aNq A) qa qb (fun j => pa (aQp A j)) Zs)))))))) C (kX1_isWhole G (pa j) (pb j) (Ps j)) ykX1_isWhole cvX1_isWhole nw_20 dX4_whole_13 rfl rfl rfl rfl rfl (by decide) (Nat.le_of_ble_eq_true rfl) (by decide) rfl (Ri_kk (fun r_13 u_13 h_13 => ?_))
    obtain ⟨e_13, h_13⟩ := h_13
    rw [e_13]
    rw [(hP j hj).1.2.2.1] at h_13
    refine V.same (ws' := (CWd G o a RP RQ RU S ++ (KWd G (a 4) (f 0) K0 ++ (KWd G (a 5) (f 1) K1 ++ (KWd G (a 6) (f 2) K2 ++ (ULd G 10 ua ub Us ++ (PLx G (aNp A) pa pb Ps j ++ (QLd G (aNq A) qa qb (fun j => pa (aQp A j)) Zs ++ (PWd G (pa j) (pb j) (Ps j)))))))))) (by simp only [List.append_assoc]) ?_
    refine V.perm (ws' := (CWd G o a RP RQ RU S ++ (KWd G (a 4) (f 0) K0 ++ (KWd G (a 5) (f 1) K1 ++ (KWd G (a 6) (f 2) K2 ++ (PLx G (aNp A) pa pb Ps j ++ (QLd G (aNq A) qa qb (fun j => pa (aQp A j)) Zs ++ (PWd G (pa j) (pb j) (Ps j) ++ (ULd G 10 ua ub Us))))))))) ((List.Perm.append_left _ (List.Perm.append_left _ (List.Perm.append_left _ (List.Perm.append_left _ (List.perm_append_comm))))).trans (List.Perm.of_eq (by simp only [List.append_assoc]))) ?_
    refine V.perm (ws' := (CWd G o a RP RQ RU S ++ (KWd G (a 4) (f 0) K0 ++ (KWd G (a 5) (f 1) K1 ++ (KWd G (a 6) (f 2) K2 ++ (QLd G (aNq A) qa qb (fun j => pa (aQp A j)) Zs ++ (PWd G (pa j) (pb j) (Ps j) ++ (ULd G 10 ua ub Us ++ (PLx G (aNp A) pa pb Ps j))))))))) ((List.Perm.append_left _ (List.Perm.append_left _ (List.Perm.append_left _ (List.Perm.append_left _ (List.perm_append_comm))))).trans (List.Perm.of_eq (by simp only [List.append_assoc]))) ?_
    refine V.perm (ws' := (CWd G o a RP RQ RU S ++ (KWd G (a 4) (f 0) K0 ++ (KWd G (a 5) (f 1) K1 ++ (KWd G (a 6) (f 2) K2 ++ (PWd G (pa j) (pb j) (Ps j) ++ (ULd G 10 ua ub Us ++ (PLx G (aNp A) pa pb Ps j ++ (QLd G (aNq A) qa qb (fun j => pa (aQp A j)) Zs))))))))) ((List.Perm.append_left _ (List.Perm.append_left _ (List.Perm.append_left _ (List.Perm.append_left _ (List.perm_append_comm))))).trans (List.Perm.of_eq (by simp only [List.append_assoc]))) ?_
    rcases (wh01 (dp_le20 hI hj) h_13) with ⟨q_13, rfl⟩ | ⟨q_13, rfl⟩
    · refine v_if_eqT (pc := 16) (tgt := 23) C (by decide) dX4_whole_16 (by decide) ?_
      refine v_iconst (pc := 23) (v := 0) C dX4_whole_23 (by decide) ?_
      refine V.perm (ws' := (CWd G o a RP RQ RU S ++ (KWd G (a 4) (f 0) K0 ++ (KWd G (a 5) (f 1) K1 ++ (KWd G (a 6) (f 2) K2 ++ (PWd G (pa j) (pb j) (Ps j) ++ (ULd G 10 ua ub Us ++ (QLd G (aNq A) qa qb (fun j => pa (aQp A j)) Zs ++ (PLx G (aNp A) pa pb Ps j))))))))) ((List.Perm.append_left _ (List.Perm.append_left _ (List.Perm.append_left _ (List.Perm.append_left _ (List.Perm.append_left _ (List.Perm.append_left _ (List.perm_append_comm))))))).trans (List.Perm.of_eq (by simp only [List.append_assoc]))) ?_
      refine V.perm (ws' := (CWd G o a RP RQ RU S ++ (KWd G (a 4) (f 0) K0 ++ (KWd G (a 5) (f 1) K1 ++ (KWd G (a 6) (f 2) K2 ++ (ULd G 10 ua ub Us ++ (QLd G (aNq A) qa qb (fun j => pa (aQp A j)) Zs ++ (PLx G (aNp A) pa pb Ps j ++ (PWd G (pa j) (pb j) (Ps j)))))))))) ((List.Perm.append_left _ (List.Perm.append_left _ (List.Perm.append_left _ (List.Perm.append_left _ (List.perm_append_comm))))).trans (List.Perm.of_eq (by simp only [List.append_assoc]))) ?_
      refine V.perm (ws' := (CWd G o a RP RQ RU S ++ (KWd G (a 4) (f 0) K0 ++ (KWd G (a 5) (f 1) K1 ++ (KWd G (a 6) (f 2) K2 ++ (ULd G 10 ua ub Us ++ (QLd G (aNq A) qa qb (fun j => pa (aQp A j)) Zs ++ (PLd G (aNp A) pa pb Ps)))))))) (List.Perm.append_left _ (List.Perm.append_left _ (List.Perm.append_left _ (List.Perm.append_left _ (List.Perm.append_left _ (List.Perm.append_left _ (PL_same hj))))))) ?_
      refine V.perm (ws' := (CWd G o a RP RQ RU S ++ (KWd G (a 4) (f 0) K0 ++ (KWd G (a 5) (f 1) K1 ++ (KWd G (a 6) (f 2) K2 ++ (ULd G 10 ua ub Us ++ (PLd G (aNp A) pa pb Ps ++ (QLd G (aNq A) qa qb (fun j => pa (aQp A j)) Zs)))))))) ((List.Perm.append_left _ (List.Perm.append_left _ (List.Perm.append_left _ (List.Perm.append_left _ (List.Perm.append_left _ (List.perm_append_comm)))))).trans (List.Perm.of_eq (by simp only [List.append_assoc]))) ?_
      subst hQ
      exact v_iret (pc := 24) C dX4_whole_24 (rfl) ((A, (S, K0, K1, K2, Us, Ps, Zs, RP, RQ, pa, pb, qa, qb))) rfl (⟨by unfold s_whole; rw [tn_nI (n := j) (by omega), if_neg (nbad hj (by omega)), if_neg q_13], rfl, hC⟩)
    · refine v_if_eqF (pc := 16) (tgt := 23) C (by decide) dX4_whole_16 (by decide) ?_
      refine v_iconst (pc := 19) (v := 1) C dX4_whole_19 (by decide) ?_
      refine v_goto (pc := 20) (tgt := 24) C dX4_whole_20 (by decide) ?_
      refine V.perm (ws' := (CWd G o a RP RQ RU S ++ (KWd G (a 4) (f 0) K0 ++ (KWd G (a 5) (f 1) K1 ++ (KWd G (a 6) (f 2) K2 ++ (PWd G (pa j) (pb j) (Ps j) ++ (ULd G 10 ua ub Us ++ (QLd G (aNq A) qa qb (fun j => pa (aQp A j)) Zs ++ (PLx G (aNp A) pa pb Ps j))))))))) ((List.Perm.append_left _ (List.Perm.append_left _ (List.Perm.append_left _ (List.Perm.append_left _ (List.Perm.append_left _ (List.Perm.append_left _ (List.perm_append_comm))))))).trans (List.Perm.of_eq (by simp only [List.append_assoc]))) ?_
      refine V.perm (ws' := (CWd G o a RP RQ RU S ++ (KWd G (a 4) (f 0) K0 ++ (KWd G (a 5) (f 1) K1 ++ (KWd G (a 6) (f 2) K2 ++ (ULd G 10 ua ub Us ++ (QLd G (aNq A) qa qb (fun j => pa (aQp A j)) Zs ++ (PLx G (aNp A) pa pb Ps j ++ (PWd G (pa j) (pb j) (Ps j)))))))))) ((List.Perm.append_left _ (List.Perm.append_left _ (List.Perm.append_left _ (List.Perm.append_left _ (List.perm_append_comm))))).trans (List.Perm.of_eq (by simp only [List.append_assoc]))) ?_
      refine V.perm (ws' := (CWd G o a RP RQ RU S ++ (KWd G (a 4) (f 0) K0 ++ (KWd G (a 5) (f 1) K1 ++ (KWd G (a 6) (f 2) K2 ++ (ULd G 10 ua ub Us ++ (QLd G (aNq A) qa qb (fun j => pa (aQp A j)) Zs ++ (PLd G (aNp A) pa pb Ps)))))))) (List.Perm.append_left _ (List.Perm.append_left _ (List.Perm.append_left _ (List.Perm.append_left _ (List.Perm.append_left _ (List.Perm.append_left _ (PL_same hj))))))) ?_
      refine V.perm (ws' := (CWd G o a RP RQ RU S ++ (KWd G (a 4) (f 0) K0 ++ (KWd G (a 5) (f 1) K1 ++ (KWd G (a 6) (f 2) K2 ++ (ULd G 10 ua ub Us ++ (PLd G (aNp A) pa pb Ps ++ (QLd G (aNq A) qa qb (fun j => pa (aQp A j)) Zs)))))))) ((List.Perm.append_left _ (List.Perm.append_left _ (List.Perm.append_left _ (List.Perm.append_left _ (List.Perm.append_left _ (List.perm_append_comm)))))).trans (List.Perm.of_eq (by simp only [List.append_assoc]))) ?_
      subst hQ
      exact v_iret (pc := 24) C dX4_whole_24 (rfl) ((A, (S, K0, K1, K2, Us, Ps, Zs, RP, RQ, pa, pb, qa, qb))) rfl (⟨by unfold s_whole; rw [tn_nI (n := j) (by omega), if_neg (nbad hj (by omega)), if_pos q_13], rfl, hC⟩)
def rmX4_about : Room := { frames := 1, cells := 0, slots := 0, locals := 21 }
set_option maxHeartbeats 4000000 in
set_option maxRecDepth 100000 in
theorem kX4_about (G : TG) (o : Nat) (a : Nat → Nat) (f : Nat → Nat → Nat) (ua : Nat → Nat) (ub : Nat → Nat → Nat) (RP RQ RU : Nat → Option Nat) (S K0 K1 K2 : MS) (Us Ps Zs : Nat → MS) (pa qa : Nat → Nat) (pb qb : Nat → Nat → Nat) (A : AS) (hI : AInv A) (hC : CAll A RP RQ RU ua pa qa S K0 Us Ps Zs) (p l w : Int32) : CT G yX4_about cX4_about 5 (some .int) rmX4_about 0 0 [.ref (o), .int (p), .int (l), .int (w)] (CWd G o a RP RQ RU S ++ (KWd G (a 4) (f 0) K0 ++ (KWd G (a 5) (f 1) K1 ++ (KWd G (a 6) (f 2) K2 ++ (ULd G 10 ua ub Us ++ (PLd G (aNp A) pa pb Ps ++ (QLd G (aNq A) qa qb (fun j => pa (aQp A j)) Zs))))))) (fun u : AS × DS => DWd G o a f ua ub RU u.1 u.2) (Ri (fun r δ => r = s_about A p l w ∧ δ.1 = A ∧ CRel δ.1 RU ua δ.2)) := by
  refine CT.enter (by decide) (Nat.le_of_ble_eq_true rfl) (fun X C hnm => ?_)
  refine V.less [(0, .ref (o)), (1, .int (p)), (2, .int (l)), (3, .int (w))] ⟨rfl, rfl, rfl, rfl, trivial⟩ ?_
  generalize hQ : (QX G X (fun u : AS × DS => DWd G o a f ua ub RU u.1 u.2) (Ri (fun r δ => r = s_about A p l w ∧ δ.1 = A ∧ CRel δ.1 RU ua δ.2)) 0 0) = Qq
  have hnp := hI.1
  have hnq := hI.2.2.2.2.1
  obtain ⟨hS, hP, hA, hU, hRP, hRQ, hRU⟩ := id hC
  refine v_aload_n (pc := 0) C dX4_about_0 rfl ?_
  refine v_iload_n (pc := 1) C dX4_about_1 rfl ?_
  refine V.perm (ws' := (KWd G (a 4) (f 0) K0 ++ (KWd G (a 5) (f 1) K1 ++ (KWd G (a 6) (f 2) K2 ++ (ULd G 10 ua ub Us ++ (PLd G (aNp A) pa pb Ps ++ (QLd G (aNq A) qa qb (fun j => pa (aQp A j)) Zs ++ (CWd G o a RP RQ RU S)))))))) ((List.perm_append_comm).trans (List.Perm.of_eq (by simp only [List.append_assoc]))) ?_
  refine V.same (ws' := (KWd G (a 4) (f 0) K0 ++ (KWd G (a 5) (f 1) K1 ++ (KWd G (a 6) (f 2) K2 ++ (ULd G 10 ua ub Us ++ (PLd G (aNp A) pa pb Ps ++ (QLd G (aNq A) qa qb (fun j => pa (aQp A j)) Zs)))))) ++ (CWd G o a RP RQ RU S)) (by simp only [List.append_assoc]) ?_
  refine v_callV (pc := 2) (st := []) (q0 := 0) (wr := (KWd G (a 4) (f 0) K0 ++ (KWd G (a 5) (f 1) K1 ++ (KWd G (a 6) (f 2) K2 ++ (ULd G 10 ua ub Us ++ (PLd G (aNp A) pa pb Ps ++ (QLd G (aNq A) qa qb (fun j => pa (aQp A j)) Zs))))))) C (kX4_programAt G o a RP RQ RU S p (aNp A) hI.1 hS.1.1) ykX4_programAt cvX4_programAt kw1_188 dX4_about_2 rfl rfl rfl rfl rfl (by decide) (Nat.le_of_ble_eq_true rfl) (by decide) rfl (Rq_kk (fun r_2 u_2 h_2 => ?_))
  obtain ⟨e_2, h_2⟩ := h_2
  rw [e_2]
  refine V.same (ws' := (KWd G (a 4) (f 0) K0 ++ (KWd G (a 5) (f 1) K1 ++ (KWd G (a 6) (f 2) K2 ++ (ULd G 10 ua ub Us ++ (PLd G (aNp A) pa pb Ps ++ (QLd G (aNq A) qa qb (fun j => pa (aQp A j)) Zs ++ (CWd G o a RP RQ RU S)))))))) (by simp only [List.append_assoc]) ?_
  refine V.perm (ws' := (KWd G (a 5) (f 1) K1 ++ (KWd G (a 6) (f 2) K2 ++ (ULd G 10 ua ub Us ++ (PLd G (aNp A) pa pb Ps ++ (QLd G (aNq A) qa qb (fun j => pa (aQp A j)) Zs ++ (CWd G o a RP RQ RU S ++ (KWd G (a 4) (f 0) K0)))))))) ((List.perm_append_comm).trans (List.Perm.of_eq (by simp only [List.append_assoc]))) ?_
  refine V.perm (ws' := (KWd G (a 6) (f 2) K2 ++ (ULd G 10 ua ub Us ++ (PLd G (aNp A) pa pb Ps ++ (QLd G (aNq A) qa qb (fun j => pa (aQp A j)) Zs ++ (CWd G o a RP RQ RU S ++ (KWd G (a 4) (f 0) K0 ++ (KWd G (a 5) (f 1) K1)))))))) ((List.perm_append_comm).trans (List.Perm.of_eq (by simp only [List.append_assoc]))) ?_
  refine V.perm (ws' := (ULd G 10 ua ub Us ++ (PLd G (aNp A) pa pb Ps ++ (QLd G (aNq A) qa qb (fun j => pa (aQp A j)) Zs ++ (CWd G o a RP RQ RU S ++ (KWd G (a 4) (f 0) K0 ++ (KWd G (a 5) (f 1) K1 ++ (KWd G (a 6) (f 2) K2)))))))) ((List.perm_append_comm).trans (List.Perm.of_eq (by simp only [List.append_assoc]))) ?_
  refine V.perm (ws' := (PLd G (aNp A) pa pb Ps ++ (QLd G (aNq A) qa qb (fun j => pa (aQp A j)) Zs ++ (CWd G o a RP RQ RU S ++ (KWd G (a 4) (f 0) K0 ++ (KWd G (a 5) (f 1) K1 ++ (KWd G (a 6) (f 2) K2 ++ (ULd G 10 ua ub Us)))))))) ((List.perm_append_comm).trans (List.Perm.of_eq (by simp only [List.append_assoc]))) ?_
  refine V.perm (ws' := (QLd G (aNq A) qa qb (fun j => pa (aQp A j)) Zs ++ (CWd G o a RP RQ RU S ++ (KWd G (a 4) (f 0) K0 ++ (KWd G (a 5) (f 1) K1 ++ (KWd G (a 6) (f 2) K2 ++ (ULd G 10 ua ub Us ++ (PLd G (aNp A) pa pb Ps)))))))) ((List.perm_append_comm).trans (List.Perm.of_eq (by simp only [List.append_assoc]))) ?_
  refine V.perm (ws' := (CWd G o a RP RQ RU S ++ (KWd G (a 4) (f 0) K0 ++ (KWd G (a 5) (f 1) K1 ++ (KWd G (a 6) (f 2) K2 ++ (ULd G 10 ua ub Us ++ (PLd G (aNp A) pa pb Ps ++ (QLd G (aNq A) qa qb (fun j => pa (aQp A j)) Zs)))))))) ((List.perm_append_comm).trans (List.Perm.of_eq (by simp only [List.append_assoc]))) ?_
  rcases h_2 with ⟨b_p, rfl⟩ | ⟨j, hj, rfl, rfl⟩
  · refine v_rfn rfl ?_
    refine v_astoreN (pc := 5) C dX4_about_5 (by decide) ?_
    refine v_aloadN (pc := 7) C dX4_about_7 rfl ?_
    refine v_ifnullN (pc := 9) (tgt := 21) C dX4_about_9 (by decide) ?_
    refine v_ldc (pc := 21) C dX4_about_21 kw1_220 ?_
    subst hQ
    exact v_iret (pc := 23) C dX4_about_23 (rfl) ((A, (S, K0, K1, K2, Us, Ps, Zs, RP, RQ, pa, pb, qa, qb))) rfl (⟨by unfold s_about; rw [if_pos b_p]; rfl, rfl, hC⟩)
  · refine v_rfs (hRP j hj) ?_
    refine V.perm (ws' := (CWd G o a RP RQ RU S ++ (KWd G (a 4) (f 0) K0 ++ (KWd G (a 5) (f 1) K1 ++ (KWd G (a 6) (f 2) K2 ++ (ULd G 10 ua ub Us ++ (PLx G (aNp A) pa pb Ps j ++ (PWd G (pa j) (pb j) (Ps j) ++ (QLd G (aNq A) qa qb (fun j => pa (aQp A j)) Zs))))))))) ((List.Perm.append_left _ (List.Perm.append_left _ (List.Perm.append_left _ (List.Perm.append_left _ (List.Perm.append_left _ (List.Perm.append_right _ (PL_focus hj))))))).trans (List.Perm.of_eq (by simp only [List.append_assoc]))) ?_
    refine V.perm (ws' := (CWd G o a RP RQ RU S ++ (KWd G (a 4) (f 0) K0 ++ (KWd G (a 5) (f 1) K1 ++ (KWd G (a 6) (f 2) K2 ++ (PLx G (aNp A) pa pb Ps j ++ (PWd G (pa j) (pb j) (Ps j) ++ (QLd G (aNq A) qa qb (fun j => pa (aQp A j)) Zs ++ (ULd G 10 ua ub Us))))))))) ((List.Perm.append_left _ (List.Perm.append_left _ (List.Perm.append_left _ (List.Perm.append_left _ (List.perm_append_comm))))).trans (List.Perm.of_eq (by simp only [List.append_assoc]))) ?_
    refine V.perm (ws' := (CWd G o a RP RQ RU S ++ (KWd G (a 4) (f 0) K0 ++ (KWd G (a 5) (f 1) K1 ++ (KWd G (a 6) (f 2) K2 ++ (PWd G (pa j) (pb j) (Ps j) ++ (QLd G (aNq A) qa qb (fun j => pa (aQp A j)) Zs ++ (ULd G 10 ua ub Us ++ (PLx G (aNp A) pa pb Ps j))))))))) ((List.Perm.append_left _ (List.Perm.append_left _ (List.Perm.append_left _ (List.Perm.append_left _ (List.perm_append_comm))))).trans (List.Perm.of_eq (by simp only [List.append_assoc]))) ?_
    refine V.perm (ws' := (CWd G o a RP RQ RU S ++ (KWd G (a 4) (f 0) K0 ++ (KWd G (a 5) (f 1) K1 ++ (KWd G (a 6) (f 2) K2 ++ (PWd G (pa j) (pb j) (Ps j) ++ (ULd G 10 ua ub Us ++ (PLx G (aNp A) pa pb Ps j ++ (QLd G (aNq A) qa qb (fun j => pa (aQp A j)) Zs))))))))) ((List.Perm.append_left _ (List.Perm.append_left _ (List.Perm.append_left _ (List.Perm.append_left _ (List.Perm.append_left _ (List.perm_append_comm)))))).trans (List.Perm.of_eq (by simp only [List.append_assoc]))) ?_
    refine v_astore (pc := 5) C dX4_about_5 (by decide) ?_
    refine v_aload (pc := 7) C dX4_about_7 rfl ?_
    refine v_ifnull (pc := 9) C dX4_about_9 ?_
    refine v_aload (pc := 12) C dX4_about_12 rfl ?_
    refine v_iload_n (pc := 14) C dX4_about_14 rfl ?_
    refine V.perm (ws' := (CWd G o a RP RQ RU S ++ (KWd G (a 4) (f 0) K0 ++ (KWd G (a 5) (f 1) K1 ++ (KWd G (a 6) (f 2) K2 ++ (ULd G 10 ua ub Us ++ (PLx G (aNp A) pa pb Ps j ++ (QLd G (aNq A) qa qb (fun j => pa (aQp A j)) Zs ++ (PWd G (pa j) (pb j) (Ps j)))))))))) ((List.Perm.append_left _ (List.Perm.append_left _ (List.Perm.append_left _ (List.Perm.append_left _ (List.perm_append_comm))))).trans (List.Perm.of_eq (by simp only [List.append_assoc]))) ?_
    refine V.same (ws' := (CWd G o a RP RQ RU S ++ (KWd G (a 4) (f 0) K0 ++ (KWd G (a 5) (f 1) K1 ++ (KWd G (a 6) (f 2) K2 ++ (ULd G 10 ua ub Us ++ (PLx G (aNp A) pa pb Ps j ++ (QLd G (aNq A) qa qb (fun j => pa (aQp A j)) Zs))))))) ++ (PWd G (pa j) (pb j) (Ps j))) (by simp only [List.append_assoc]) ?_
    refine v_callVN (pc := 15) (st := []) (q0 := 0) (wr := (CWd G o a RP RQ RU S ++ (KWd G (a 4) (f 0) K0 ++ (KWd G (a 5) (f 1) K1 ++ (KWd G (a 6) (f 2) K2 ++ (ULd G 10 ua ub Us ++ (PLx G (aNp A) pa pb Ps j ++ (QLd G (aNq A) qa qb (fun j => pa (aQp A j)) Zs)))))))) C (kX1_hasLine G (pa j) (pb j) (Ps j) l) ykX1_hasLine cvX1_hasLine nw_22 dX4_about_15 rfl rfl rfl rfl rfl (by decide) (Nat.le_of_ble_eq_true rfl) (by decide) rfl (Ri_kk (fun r_15 u_15 h_15 => ?_))
    obtain ⟨e_15, h_15⟩ := h_15
    rw [e_15]
    have hn20 := hI.2.1 j
    refine V.same (ws' := (CWd G o a RP RQ RU S ++ (KWd G (a 4) (f 0) K0 ++ (KWd G (a 5) (f 1) K1 ++ (KWd G (a 6) (f 2) K2 ++ (ULd G 10 ua ub Us ++ (PLx G (aNp A) pa pb Ps j ++ (QLd G (aNq A) qa qb (fun j => pa (aQp A j)) Zs ++ (PWd G (pa j) (pb j) (Ps j)))))))))) (by simp only [List.append_assoc]) ?_
    refine V.perm (ws' := (CWd G o a RP RQ RU S ++ (KWd G (a 4) (f 0) K0 ++ (KWd G (a 5) (f 1) K1 ++ (KWd G (a 6) (f 2) K2 ++ (PLx G (aNp A) pa pb Ps j ++ (QLd G (aNq A) qa qb (fun j => pa (aQp A j)) Zs ++ (PWd G (pa j) (pb j) (Ps j) ++ (ULd G 10 ua ub Us))))))))) ((List.Perm.append_left _ (List.Perm.append_left _ (List.Perm.append_left _ (List.Perm.append_left _ (List.perm_append_comm))))).trans (List.Perm.of_eq (by simp only [List.append_assoc]))) ?_
    refine V.perm (ws' := (CWd G o a RP RQ RU S ++ (KWd G (a 4) (f 0) K0 ++ (KWd G (a 5) (f 1) K1 ++ (KWd G (a 6) (f 2) K2 ++ (QLd G (aNq A) qa qb (fun j => pa (aQp A j)) Zs ++ (PWd G (pa j) (pb j) (Ps j) ++ (ULd G 10 ua ub Us ++ (PLx G (aNp A) pa pb Ps j))))))))) ((List.Perm.append_left _ (List.Perm.append_left _ (List.Perm.append_left _ (List.Perm.append_left _ (List.perm_append_comm))))).trans (List.Perm.of_eq (by simp only [List.append_assoc]))) ?_
    refine V.perm (ws' := (CWd G o a RP RQ RU S ++ (KWd G (a 4) (f 0) K0 ++ (KWd G (a 5) (f 1) K1 ++ (KWd G (a 6) (f 2) K2 ++ (PWd G (pa j) (pb j) (Ps j) ++ (ULd G 10 ua ub Us ++ (PLx G (aNp A) pa pb Ps j ++ (QLd G (aNq A) qa qb (fun j => pa (aQp A j)) Zs))))))))) ((List.Perm.append_left _ (List.Perm.append_left _ (List.Perm.append_left _ (List.Perm.append_left _ (List.perm_append_comm))))).trans (List.Perm.of_eq (by simp only [List.append_assoc]))) ?_
    rcases (is01 (by omega) (hP j hj).1.1.1 h_15) with ⟨b_l, rfl⟩ | ⟨k, hk, rfl, rfl⟩
    · refine v_if_neF (pc := 18) (tgt := 24) C (by decide) dX4_about_18 (by decide) ?_
      refine v_ldc (pc := 21) C dX4_about_21 kw1_220 ?_
      refine V.perm (ws' := (CWd G o a RP RQ RU S ++ (KWd G (a 4) (f 0) K0 ++ (KWd G (a 5) (f 1) K1 ++ (KWd G (a 6) (f 2) K2 ++ (PWd G (pa j) (pb j) (Ps j) ++ (ULd G 10 ua ub Us ++ (QLd G (aNq A) qa qb (fun j => pa (aQp A j)) Zs ++ (PLx G (aNp A) pa pb Ps j))))))))) ((List.Perm.append_left _ (List.Perm.append_left _ (List.Perm.append_left _ (List.Perm.append_left _ (List.Perm.append_left _ (List.Perm.append_left _ (List.perm_append_comm))))))).trans (List.Perm.of_eq (by simp only [List.append_assoc]))) ?_
      refine V.perm (ws' := (CWd G o a RP RQ RU S ++ (KWd G (a 4) (f 0) K0 ++ (KWd G (a 5) (f 1) K1 ++ (KWd G (a 6) (f 2) K2 ++ (ULd G 10 ua ub Us ++ (QLd G (aNq A) qa qb (fun j => pa (aQp A j)) Zs ++ (PLx G (aNp A) pa pb Ps j ++ (PWd G (pa j) (pb j) (Ps j)))))))))) ((List.Perm.append_left _ (List.Perm.append_left _ (List.Perm.append_left _ (List.Perm.append_left _ (List.perm_append_comm))))).trans (List.Perm.of_eq (by simp only [List.append_assoc]))) ?_
      refine V.perm (ws' := (CWd G o a RP RQ RU S ++ (KWd G (a 4) (f 0) K0 ++ (KWd G (a 5) (f 1) K1 ++ (KWd G (a 6) (f 2) K2 ++ (ULd G 10 ua ub Us ++ (QLd G (aNq A) qa qb (fun j => pa (aQp A j)) Zs ++ (PLd G (aNp A) pa pb Ps)))))))) (List.Perm.append_left _ (List.Perm.append_left _ (List.Perm.append_left _ (List.Perm.append_left _ (List.Perm.append_left _ (List.Perm.append_left _ (PL_same hj))))))) ?_
      refine V.perm (ws' := (CWd G o a RP RQ RU S ++ (KWd G (a 4) (f 0) K0 ++ (KWd G (a 5) (f 1) K1 ++ (KWd G (a 6) (f 2) K2 ++ (ULd G 10 ua ub Us ++ (PLd G (aNp A) pa pb Ps ++ (QLd G (aNq A) qa qb (fun j => pa (aQp A j)) Zs)))))))) ((List.Perm.append_left _ (List.Perm.append_left _ (List.Perm.append_left _ (List.Perm.append_left _ (List.Perm.append_left _ (List.perm_append_comm)))))).trans (List.Perm.of_eq (by simp only [List.append_assoc]))) ?_
      subst hQ
      exact v_iret (pc := 23) C dX4_about_23 (rfl) ((A, (S, K0, K1, K2, Us, Ps, Zs, RP, RQ, pa, pb, qa, qb))) rfl (⟨(ab_bad hj hI.1 rfl b_l).symm, rfl, hC⟩)
    · refine v_if_neT (pc := 18) (tgt := 24) C (by decide) dX4_about_18 (by decide) ?_
      refine v_iload_n (pc := 24) C dX4_about_24 rfl ?_
      by_cases sw_25_0 : (w) = 0
      · refine v_cv (y := 0) sw_25_0 ?_
        refine v_tableIn (pc := 25) (tgt := 56) C dX4_about_25 (by decide) (by decide) rfl (by decide) ?_
        refine v_aload (pc := 56) C dX4_about_56 rfl ?_
        refine v_getN (pc := 58) (v := .ref ((pb j) 0)) C inX1 27 rfl rfl 0 (by decide) nw_9 rfl dX4_about_58 ?_
        refine v_iload_n (pc := 61) C dX4_about_61 rfl ?_
        refine v_ialdN (pc := 62) (i := (k)) (f := (mA (Ps j) 0)) C 28 rfl (by omega) (by decide) dX4_about_62 ?_
        refine V.perm (ws' := (CWd G o a RP RQ RU S ++ (KWd G (a 4) (f 0) K0 ++ (KWd G (a 5) (f 1) K1 ++ (KWd G (a 6) (f 2) K2 ++ (PWd G (pa j) (pb j) (Ps j) ++ (ULd G 10 ua ub Us ++ (QLd G (aNq A) qa qb (fun j => pa (aQp A j)) Zs ++ (PLx G (aNp A) pa pb Ps j))))))))) ((List.Perm.append_left _ (List.Perm.append_left _ (List.Perm.append_left _ (List.Perm.append_left _ (List.Perm.append_left _ (List.Perm.append_left _ (List.perm_append_comm))))))).trans (List.Perm.of_eq (by simp only [List.append_assoc]))) ?_
        refine V.perm (ws' := (CWd G o a RP RQ RU S ++ (KWd G (a 4) (f 0) K0 ++ (KWd G (a 5) (f 1) K1 ++ (KWd G (a 6) (f 2) K2 ++ (ULd G 10 ua ub Us ++ (QLd G (aNq A) qa qb (fun j => pa (aQp A j)) Zs ++ (PLx G (aNp A) pa pb Ps j ++ (PWd G (pa j) (pb j) (Ps j)))))))))) ((List.Perm.append_left _ (List.Perm.append_left _ (List.Perm.append_left _ (List.Perm.append_left _ (List.perm_append_comm))))).trans (List.Perm.of_eq (by simp only [List.append_assoc]))) ?_
        refine V.perm (ws' := (CWd G o a RP RQ RU S ++ (KWd G (a 4) (f 0) K0 ++ (KWd G (a 5) (f 1) K1 ++ (KWd G (a 6) (f 2) K2 ++ (ULd G 10 ua ub Us ++ (QLd G (aNq A) qa qb (fun j => pa (aQp A j)) Zs ++ (PLd G (aNp A) pa pb Ps)))))))) (List.Perm.append_left _ (List.Perm.append_left _ (List.Perm.append_left _ (List.Perm.append_left _ (List.Perm.append_left _ (List.Perm.append_left _ (PL_same hj))))))) ?_
        refine V.perm (ws' := (CWd G o a RP RQ RU S ++ (KWd G (a 4) (f 0) K0 ++ (KWd G (a 5) (f 1) K1 ++ (KWd G (a 6) (f 2) K2 ++ (ULd G 10 ua ub Us ++ (PLd G (aNp A) pa pb Ps ++ (QLd G (aNq A) qa qb (fun j => pa (aQp A j)) Zs)))))))) ((List.Perm.append_left _ (List.Perm.append_left _ (List.Perm.append_left _ (List.Perm.append_left _ (List.Perm.append_left _ (List.perm_append_comm)))))).trans (List.Perm.of_eq (by simp only [List.append_assoc]))) ?_
        subst hQ
        exact v_iret (pc := 63) C dX4_about_63 (rfl) ((A, (S, K0, K1, K2, Us, Ps, Zs, RP, RQ, pa, pb, qa, qb))) rfl (⟨by rw [sw_25_0]; unfold s_about; rw [tn_nI (n := j) (by omega), if_neg (nbad hj (by omega)), tn_nI (n := k) (by omega), if_neg (nI_pos (n := k) (by omega)), if_neg (nI_ge hk (by omega)), if_neg (by decide), if_pos rfl]; exact ((hP j hj).1.1.2.1 k hk).1, rfl, hC⟩)
      by_cases sw_25_1 : (w) = 1
      · refine v_cv (y := 1) sw_25_1 ?_
        refine v_tableIn (pc := 25) (tgt := 64) C dX4_about_25 (by decide) (by decide) rfl (by decide) ?_
        refine v_aload (pc := 64) C dX4_about_64 rfl ?_
        refine v_getN (pc := 66) (v := .ref ((pb j) 1)) C inX1 27 rfl rfl 1 (by decide) nw_11 rfl dX4_about_66 ?_
        refine v_iload_n (pc := 69) C dX4_about_69 rfl ?_
        refine v_ialdN (pc := 70) (i := (k)) (f := (mA (Ps j) 1)) C 29 rfl (by omega) (by decide) dX4_about_70 ?_
        refine V.perm (ws' := (CWd G o a RP RQ RU S ++ (KWd G (a 4) (f 0) K0 ++ (KWd G (a 5) (f 1) K1 ++ (KWd G (a 6) (f 2) K2 ++ (PWd G (pa j) (pb j) (Ps j) ++ (ULd G 10 ua ub Us ++ (QLd G (aNq A) qa qb (fun j => pa (aQp A j)) Zs ++ (PLx G (aNp A) pa pb Ps j))))))))) ((List.Perm.append_left _ (List.Perm.append_left _ (List.Perm.append_left _ (List.Perm.append_left _ (List.Perm.append_left _ (List.Perm.append_left _ (List.perm_append_comm))))))).trans (List.Perm.of_eq (by simp only [List.append_assoc]))) ?_
        refine V.perm (ws' := (CWd G o a RP RQ RU S ++ (KWd G (a 4) (f 0) K0 ++ (KWd G (a 5) (f 1) K1 ++ (KWd G (a 6) (f 2) K2 ++ (ULd G 10 ua ub Us ++ (QLd G (aNq A) qa qb (fun j => pa (aQp A j)) Zs ++ (PLx G (aNp A) pa pb Ps j ++ (PWd G (pa j) (pb j) (Ps j)))))))))) ((List.Perm.append_left _ (List.Perm.append_left _ (List.Perm.append_left _ (List.Perm.append_left _ (List.perm_append_comm))))).trans (List.Perm.of_eq (by simp only [List.append_assoc]))) ?_
        refine V.perm (ws' := (CWd G o a RP RQ RU S ++ (KWd G (a 4) (f 0) K0 ++ (KWd G (a 5) (f 1) K1 ++ (KWd G (a 6) (f 2) K2 ++ (ULd G 10 ua ub Us ++ (QLd G (aNq A) qa qb (fun j => pa (aQp A j)) Zs ++ (PLd G (aNp A) pa pb Ps)))))))) (List.Perm.append_left _ (List.Perm.append_left _ (List.Perm.append_left _ (List.Perm.append_left _ (List.Perm.append_left _ (List.Perm.append_left _ (PL_same hj))))))) ?_
        refine V.perm (ws' := (CWd G o a RP RQ RU S ++ (KWd G (a 4) (f 0) K0 ++ (KWd G (a 5) (f 1) K1 ++ (KWd G (a 6) (f 2) K2 ++ (ULd G 10 ua ub Us ++ (PLd G (aNp A) pa pb Ps ++ (QLd G (aNq A) qa qb (fun j => pa (aQp A j)) Zs)))))))) ((List.Perm.append_left _ (List.Perm.append_left _ (List.Perm.append_left _ (List.Perm.append_left _ (List.Perm.append_left _ (List.perm_append_comm)))))).trans (List.Perm.of_eq (by simp only [List.append_assoc]))) ?_
        subst hQ
        exact v_iret (pc := 71) C dX4_about_71 (rfl) ((A, (S, K0, K1, K2, Us, Ps, Zs, RP, RQ, pa, pb, qa, qb))) rfl (⟨by rw [sw_25_1]; unfold s_about; rw [tn_nI (n := j) (by omega), if_neg (nbad hj (by omega)), tn_nI (n := k) (by omega), if_neg (nI_pos (n := k) (by omega)), if_neg (nI_ge hk (by omega)), if_neg (by decide), if_neg (by decide), if_pos rfl]; exact ((hP j hj).1.1.2.1 k hk).2.1, rfl, hC⟩)
      by_cases sw_25_2 : (w) = 2
      · refine v_cv (y := 2) sw_25_2 ?_
        refine v_tableIn (pc := 25) (tgt := 72) C dX4_about_25 (by decide) (by decide) rfl (by decide) ?_
        refine v_aload (pc := 72) C dX4_about_72 rfl ?_
        refine v_getN (pc := 74) (v := .ref ((pb j) 2)) C inX1 27 rfl rfl 2 (by decide) nw_13 rfl dX4_about_74 ?_
        refine v_iload_n (pc := 77) C dX4_about_77 rfl ?_
        refine v_ialdN (pc := 78) (i := (k)) (f := (mA (Ps j) 2)) C 30 rfl (by omega) (by decide) dX4_about_78 ?_
        refine V.perm (ws' := (CWd G o a RP RQ RU S ++ (KWd G (a 4) (f 0) K0 ++ (KWd G (a 5) (f 1) K1 ++ (KWd G (a 6) (f 2) K2 ++ (PWd G (pa j) (pb j) (Ps j) ++ (ULd G 10 ua ub Us ++ (QLd G (aNq A) qa qb (fun j => pa (aQp A j)) Zs ++ (PLx G (aNp A) pa pb Ps j))))))))) ((List.Perm.append_left _ (List.Perm.append_left _ (List.Perm.append_left _ (List.Perm.append_left _ (List.Perm.append_left _ (List.Perm.append_left _ (List.perm_append_comm))))))).trans (List.Perm.of_eq (by simp only [List.append_assoc]))) ?_
        refine V.perm (ws' := (CWd G o a RP RQ RU S ++ (KWd G (a 4) (f 0) K0 ++ (KWd G (a 5) (f 1) K1 ++ (KWd G (a 6) (f 2) K2 ++ (ULd G 10 ua ub Us ++ (QLd G (aNq A) qa qb (fun j => pa (aQp A j)) Zs ++ (PLx G (aNp A) pa pb Ps j ++ (PWd G (pa j) (pb j) (Ps j)))))))))) ((List.Perm.append_left _ (List.Perm.append_left _ (List.Perm.append_left _ (List.Perm.append_left _ (List.perm_append_comm))))).trans (List.Perm.of_eq (by simp only [List.append_assoc]))) ?_
        refine V.perm (ws' := (CWd G o a RP RQ RU S ++ (KWd G (a 4) (f 0) K0 ++ (KWd G (a 5) (f 1) K1 ++ (KWd G (a 6) (f 2) K2 ++ (ULd G 10 ua ub Us ++ (QLd G (aNq A) qa qb (fun j => pa (aQp A j)) Zs ++ (PLd G (aNp A) pa pb Ps)))))))) (List.Perm.append_left _ (List.Perm.append_left _ (List.Perm.append_left _ (List.Perm.append_left _ (List.Perm.append_left _ (List.Perm.append_left _ (PL_same hj))))))) ?_
        refine V.perm (ws' := (CWd G o a RP RQ RU S ++ (KWd G (a 4) (f 0) K0 ++ (KWd G (a 5) (f 1) K1 ++ (KWd G (a 6) (f 2) K2 ++ (ULd G 10 ua ub Us ++ (PLd G (aNp A) pa pb Ps ++ (QLd G (aNq A) qa qb (fun j => pa (aQp A j)) Zs)))))))) ((List.Perm.append_left _ (List.Perm.append_left _ (List.Perm.append_left _ (List.Perm.append_left _ (List.Perm.append_left _ (List.perm_append_comm)))))).trans (List.Perm.of_eq (by simp only [List.append_assoc]))) ?_
        subst hQ
        exact v_iret (pc := 79) C dX4_about_79 (rfl) ((A, (S, K0, K1, K2, Us, Ps, Zs, RP, RQ, pa, pb, qa, qb))) rfl (⟨by rw [sw_25_2]; unfold s_about; rw [tn_nI (n := j) (by omega), if_neg (nbad hj (by omega)), tn_nI (n := k) (by omega), if_neg (nI_pos (n := k) (by omega)), if_neg (nI_ge hk (by omega)), if_neg (by decide), if_neg (by decide), if_neg (by decide), if_pos rfl]; exact ((hP j hj).1.1.2.1 k hk).2.2, rfl, hC⟩)
      by_cases sw_25_3 : (w) = 3
      · refine v_cv (y := 3) sw_25_3 ?_
        refine v_tableIn (pc := 25) (tgt := 80) C dX4_about_25 (by decide) (by decide) rfl (by decide) ?_
        refine v_aload (pc := 80) C dX4_about_80 rfl ?_
        refine v_getN (pc := 82) (v := .ref ((pb j) 3)) C inX1 27 rfl rfl 3 (by decide) nw_15 rfl dX4_about_82 ?_
        refine v_iload_n (pc := 85) C dX4_about_85 rfl ?_
        refine v_ialdN (pc := 86) (i := (k)) (f := (mA (Ps j) 3)) C 31 rfl (by omega) (by decide) dX4_about_86 ?_
        refine V.perm (ws' := (CWd G o a RP RQ RU S ++ (KWd G (a 4) (f 0) K0 ++ (KWd G (a 5) (f 1) K1 ++ (KWd G (a 6) (f 2) K2 ++ (PWd G (pa j) (pb j) (Ps j) ++ (ULd G 10 ua ub Us ++ (QLd G (aNq A) qa qb (fun j => pa (aQp A j)) Zs ++ (PLx G (aNp A) pa pb Ps j))))))))) ((List.Perm.append_left _ (List.Perm.append_left _ (List.Perm.append_left _ (List.Perm.append_left _ (List.Perm.append_left _ (List.Perm.append_left _ (List.perm_append_comm))))))).trans (List.Perm.of_eq (by simp only [List.append_assoc]))) ?_
        refine V.perm (ws' := (CWd G o a RP RQ RU S ++ (KWd G (a 4) (f 0) K0 ++ (KWd G (a 5) (f 1) K1 ++ (KWd G (a 6) (f 2) K2 ++ (ULd G 10 ua ub Us ++ (QLd G (aNq A) qa qb (fun j => pa (aQp A j)) Zs ++ (PLx G (aNp A) pa pb Ps j ++ (PWd G (pa j) (pb j) (Ps j)))))))))) ((List.Perm.append_left _ (List.Perm.append_left _ (List.Perm.append_left _ (List.Perm.append_left _ (List.perm_append_comm))))).trans (List.Perm.of_eq (by simp only [List.append_assoc]))) ?_
        refine V.perm (ws' := (CWd G o a RP RQ RU S ++ (KWd G (a 4) (f 0) K0 ++ (KWd G (a 5) (f 1) K1 ++ (KWd G (a 6) (f 2) K2 ++ (ULd G 10 ua ub Us ++ (QLd G (aNq A) qa qb (fun j => pa (aQp A j)) Zs ++ (PLd G (aNp A) pa pb Ps)))))))) (List.Perm.append_left _ (List.Perm.append_left _ (List.Perm.append_left _ (List.Perm.append_left _ (List.Perm.append_left _ (List.Perm.append_left _ (PL_same hj))))))) ?_
        refine V.perm (ws' := (CWd G o a RP RQ RU S ++ (KWd G (a 4) (f 0) K0 ++ (KWd G (a 5) (f 1) K1 ++ (KWd G (a 6) (f 2) K2 ++ (ULd G 10 ua ub Us ++ (PLd G (aNp A) pa pb Ps ++ (QLd G (aNq A) qa qb (fun j => pa (aQp A j)) Zs)))))))) ((List.Perm.append_left _ (List.Perm.append_left _ (List.Perm.append_left _ (List.Perm.append_left _ (List.Perm.append_left _ (List.perm_append_comm)))))).trans (List.Perm.of_eq (by simp only [List.append_assoc]))) ?_
        subst hQ
        exact v_iret (pc := 87) C dX4_about_87 (rfl) ((A, (S, K0, K1, K2, Us, Ps, Zs, RP, RQ, pa, pb, qa, qb))) rfl (⟨by rw [sw_25_3]; unfold s_about; rw [tn_nI (n := j) (by omega), if_neg (nbad hj (by omega)), tn_nI (n := k) (by omega), if_neg (nI_pos (n := k) (by omega)), if_neg (nI_ge hk (by omega)), if_neg (by decide), if_neg (by decide), if_neg (by decide), if_neg (by decide)]; exact (hP j hj).1.2.1 k hk, rfl, hC⟩)
      have so_25 : (w).toInt < 0 ∨ 3 < (w).toInt := by
        refine sw_out (fun v h1 h2 h3 => ?_)
        rcases (show v = 0 ∨ v = 1 ∨ v = 2 ∨ v = 3 by omega) with rfl | rfl | rfl | rfl
        · exact sw_25_0 (Int32.toInt_inj.mp h3)
        · exact sw_25_1 (Int32.toInt_inj.mp h3)
        · exact sw_25_2 (Int32.toInt_inj.mp h3)
        · exact sw_25_3 (Int32.toInt_inj.mp h3)
      refine v_tableOut (pc := 25) (tgt := 88) C dX4_about_25 so_25 (by decide) ?_
      refine v_ldc (pc := 88) C dX4_about_88 kw1_220 ?_
      refine V.perm (ws' := (CWd G o a RP RQ RU S ++ (KWd G (a 4) (f 0) K0 ++ (KWd G (a 5) (f 1) K1 ++ (KWd G (a 6) (f 2) K2 ++ (PWd G (pa j) (pb j) (Ps j) ++ (ULd G 10 ua ub Us ++ (QLd G (aNq A) qa qb (fun j => pa (aQp A j)) Zs ++ (PLx G (aNp A) pa pb Ps j))))))))) ((List.Perm.append_left _ (List.Perm.append_left _ (List.Perm.append_left _ (List.Perm.append_left _ (List.Perm.append_left _ (List.Perm.append_left _ (List.perm_append_comm))))))).trans (List.Perm.of_eq (by simp only [List.append_assoc]))) ?_
      refine V.perm (ws' := (CWd G o a RP RQ RU S ++ (KWd G (a 4) (f 0) K0 ++ (KWd G (a 5) (f 1) K1 ++ (KWd G (a 6) (f 2) K2 ++ (ULd G 10 ua ub Us ++ (QLd G (aNq A) qa qb (fun j => pa (aQp A j)) Zs ++ (PLx G (aNp A) pa pb Ps j ++ (PWd G (pa j) (pb j) (Ps j)))))))))) ((List.Perm.append_left _ (List.Perm.append_left _ (List.Perm.append_left _ (List.Perm.append_left _ (List.perm_append_comm))))).trans (List.Perm.of_eq (by simp only [List.append_assoc]))) ?_
      refine V.perm (ws' := (CWd G o a RP RQ RU S ++ (KWd G (a 4) (f 0) K0 ++ (KWd G (a 5) (f 1) K1 ++ (KWd G (a 6) (f 2) K2 ++ (ULd G 10 ua ub Us ++ (QLd G (aNq A) qa qb (fun j => pa (aQp A j)) Zs ++ (PLd G (aNp A) pa pb Ps)))))))) (List.Perm.append_left _ (List.Perm.append_left _ (List.Perm.append_left _ (List.Perm.append_left _ (List.Perm.append_left _ (List.Perm.append_left _ (PL_same hj))))))) ?_
      refine V.perm (ws' := (CWd G o a RP RQ RU S ++ (KWd G (a 4) (f 0) K0 ++ (KWd G (a 5) (f 1) K1 ++ (KWd G (a 6) (f 2) K2 ++ (ULd G 10 ua ub Us ++ (PLd G (aNp A) pa pb Ps ++ (QLd G (aNq A) qa qb (fun j => pa (aQp A j)) Zs)))))))) ((List.Perm.append_left _ (List.Perm.append_left _ (List.Perm.append_left _ (List.Perm.append_left _ (List.Perm.append_left _ (List.perm_append_comm)))))).trans (List.Perm.of_eq (by simp only [List.append_assoc]))) ?_
      subst hQ
      exact v_iret (pc := 90) C dX4_about_90 (rfl) ((A, (S, K0, K1, K2, Us, Ps, Zs, RP, RQ, pa, pb, qa, qb))) rfl (⟨by unfold s_about; rw [tn_nI (n := j) (by omega), if_neg (nbad hj (by omega)), tn_nI (n := k) (by omega), if_neg (nI_pos (n := k) (by omega)), if_neg (nI_ge hk (by omega)), if_pos (w03 sw_25_0 sw_25_1 sw_25_2 sw_25_3)]; rfl, rfl, hC⟩)
def rmX4_told : Room := { frames := 1, cells := 0, slots := 0, locals := 21 }
set_option maxHeartbeats 4000000 in
set_option maxRecDepth 100000 in
theorem kX4_told (G : TG) (o : Nat) (a : Nat → Nat) (f : Nat → Nat → Nat) (ua : Nat → Nat) (ub : Nat → Nat → Nat) (RP RQ RU : Nat → Option Nat) (S K0 K1 K2 : MS) (Us Ps Zs : Nat → MS) (pa qa : Nat → Nat) (pb qb : Nat → Nat → Nat) (A : AS) (hI : AInv A) (hC : CAll A RP RQ RU ua pa qa S K0 Us Ps Zs) (w : Int32) : CT G yX4_told cX4_told 2 (some .int) rmX4_told 0 0 [.ref (o), .int (w)] (CWd G o a RP RQ RU S ++ (KWd G (a 4) (f 0) K0 ++ (KWd G (a 5) (f 1) K1 ++ (KWd G (a 6) (f 2) K2 ++ (ULd G 10 ua ub Us ++ (PLd G (aNp A) pa pb Ps ++ (QLd G (aNq A) qa qb (fun j => pa (aQp A j)) Zs))))))) (fun u : AS × DS => DWd G o a f ua ub RU u.1 u.2) (Ri (fun r δ => r = s_told A w ∧ δ.1 = A ∧ CRel δ.1 RU ua δ.2)) := by
  refine CT.enter (by decide) (Nat.le_of_ble_eq_true rfl) (fun X C hnm => ?_)
  refine V.less [(0, .ref (o)), (1, .int (w))] ⟨rfl, rfl, trivial⟩ ?_
  generalize hQ : (QX G X (fun u : AS × DS => DWd G o a f ua ub RU u.1 u.2) (Ri (fun r δ => r = s_told A w ∧ δ.1 = A ∧ CRel δ.1 RU ua δ.2)) 0 0) = Qq
  have hnp := hI.1
  have hnq := hI.2.2.2.2.1
  obtain ⟨hS, hP, hA, hU, hRP, hRQ, hRU⟩ := id hC
  refine v_aload_n (pc := 0) C dX4_told_0 rfl ?_
  refine v_get (pc := 1) (v := .int (mI S 14)) C inX4 0 rfl rfl 14 (by decide) kw1_96 rfl dX4_told_1 ?_
  refine v_if_eq (pc := 4) (tgt := 11) C dX4_told_4 (by decide) (fun c_4 => ?_) (fun c_4 => ?_)
  · refine v_ldc (pc := 11) C dX4_told_11 kw1_220 ?_
    subst hQ
    exact v_iret (pc := 13) C dX4_told_13 (rfl) ((A, (S, K0, K1, K2, Us, Ps, Zs, RP, RQ, pa, pb, qa, qb))) rfl (⟨by unfold s_told; rw [T_none hS.2.1 c_4]; rfl, rfl, hC⟩)
  · obtain ⟨n, t, d, eT, hn20, h14, h6, hv, hkK, hcl, h12, h13, hd⟩ := T_some hS.2.1 c_4
    refine v_iload_n (pc := 7) C dX4_told_7 rfl ?_
    refine v_if_ge (pc := 8) (tgt := 14) C dX4_told_8 (by decide) (fun c_8 => ?_) (fun c_8 => ?_)
    · refine v_iload_n (pc := 14) C dX4_told_14 rfl ?_
      refine v_iconst (pc := 15) (v := 4) C dX4_told_15 (by decide) ?_
      refine v_icmp_ge (pc := 16) (tgt := 29) C dX4_told_16 (by decide) (fun c_16 => ?_) (fun c_16 => ?_)
      · refine v_iload_n (pc := 29) C dX4_told_29 rfl ?_
        refine v_bipush (pc := 30) (v := 12) C dX4_told_30 (by decide) ?_
        refine v_icmp_ge (pc := 32) (tgt := 46) C dX4_told_32 (by decide) (fun c_32 => ?_) (fun c_32 => ?_)
        · refine v_iload_n (pc := 46) C dX4_told_46 rfl ?_
          refine v_bipush (pc := 47) (v := 12) C dX4_told_47 (by decide) ?_
          refine v_icmp_ne (pc := 49) (tgt := 68) C dX4_told_49 (by decide) (fun c_49 => ?_) (fun c_49 => ?_)
          · refine v_iload_n (pc := 68) C dX4_told_68 rfl ?_
            refine v_bipush (pc := 69) (v := 13) C dX4_told_69 (by decide) ?_
            refine v_icmp_ne (pc := 71) (tgt := 90) C dX4_told_71 (by decide) (fun c_71 => ?_) (fun c_71 => ?_)
            · refine v_ldc (pc := 90) C dX4_told_90 kw1_220 ?_
              subst hQ
              exact v_iret (pc := 92) C dX4_told_92 (rfl) ((A, (S, K0, K1, K2, Us, Ps, Zs, RP, RQ, pa, pb, qa, qb))) rfl (⟨by unfold s_told; rw [eT]; show _ = if w < 0 ∨ 13 < w then NV else t (tn w); rw [if_pos (to_out c_8 c_16 c_32 c_49 c_71)]; rfl, rfl, hC⟩)
            · refine v_aload_n (pc := 74) C dX4_told_74 rfl ?_
              refine v_get (pc := 75) (v := .ref ((a 4))) C inX4 0 rfl rfl 4 (by decide) kw1_86 rfl dX4_told_75 ?_
              refine V.perm (ws' := (CWd G o a RP RQ RU S ++ (KWd G (a 5) (f 1) K1 ++ (KWd G (a 6) (f 2) K2 ++ (ULd G 10 ua ub Us ++ (PLd G (aNp A) pa pb Ps ++ (QLd G (aNq A) qa qb (fun j => pa (aQp A j)) Zs ++ (KWd G (a 4) (f 0) K0)))))))) ((List.Perm.append_left _ (List.perm_append_comm)).trans (List.Perm.of_eq (by simp only [List.append_assoc]))) ?_
              refine V.same (ws' := (CWd G o a RP RQ RU S ++ (KWd G (a 5) (f 1) K1 ++ (KWd G (a 6) (f 2) K2 ++ (ULd G 10 ua ub Us ++ (PLd G (aNp A) pa pb Ps ++ (QLd G (aNq A) qa qb (fun j => pa (aQp A j)) Zs)))))) ++ (KWd G (a 4) (f 0) K0)) (by simp only [List.append_assoc]) ?_
              refine v_callVN (pc := 78) (st := []) (q0 := 0) (wr := (CWd G o a RP RQ RU S ++ (KWd G (a 5) (f 1) K1 ++ (KWd G (a 6) (f 2) K2 ++ (ULd G 10 ua ub Us ++ (PLd G (aNp A) pa pb Ps ++ (QLd G (aNq A) qa qb (fun j => pa (aQp A j)) Zs))))))) C (kX0_namesShare G (a 4) (f 0) K0) ykX0_namesShare cvX0_namesShare nw_25 dX4_told_78 rfl rfl rfl rfl rfl (by decide) (Nat.le_of_ble_eq_true rfl) (by decide) rfl (Ri_kk (fun r_78 u_78 h_78 => ?_))
              obtain ⟨e_78, h_78⟩ := h_78
              rw [e_78]
              refine V.same (ws' := (CWd G o a RP RQ RU S ++ (KWd G (a 5) (f 1) K1 ++ (KWd G (a 6) (f 2) K2 ++ (ULd G 10 ua ub Us ++ (PLd G (aNp A) pa pb Ps ++ (QLd G (aNq A) qa qb (fun j => pa (aQp A j)) Zs ++ (KWd G (a 4) (f 0) K0)))))))) (by simp only [List.append_assoc]) ?_
              refine V.perm (ws' := (CWd G o a RP RQ RU S ++ (KWd G (a 6) (f 2) K2 ++ (ULd G 10 ua ub Us ++ (PLd G (aNp A) pa pb Ps ++ (QLd G (aNq A) qa qb (fun j => pa (aQp A j)) Zs ++ (KWd G (a 4) (f 0) K0 ++ (KWd G (a 5) (f 1) K1)))))))) ((List.Perm.append_left _ (List.perm_append_comm)).trans (List.Perm.of_eq (by simp only [List.append_assoc]))) ?_
              refine V.perm (ws' := (CWd G o a RP RQ RU S ++ (ULd G 10 ua ub Us ++ (PLd G (aNp A) pa pb Ps ++ (QLd G (aNq A) qa qb (fun j => pa (aQp A j)) Zs ++ (KWd G (a 4) (f 0) K0 ++ (KWd G (a 5) (f 1) K1 ++ (KWd G (a 6) (f 2) K2)))))))) ((List.Perm.append_left _ (List.perm_append_comm)).trans (List.Perm.of_eq (by simp only [List.append_assoc]))) ?_
              refine V.perm (ws' := (CWd G o a RP RQ RU S ++ (PLd G (aNp A) pa pb Ps ++ (QLd G (aNq A) qa qb (fun j => pa (aQp A j)) Zs ++ (KWd G (a 4) (f 0) K0 ++ (KWd G (a 5) (f 1) K1 ++ (KWd G (a 6) (f 2) K2 ++ (ULd G 10 ua ub Us)))))))) ((List.Perm.append_left _ (List.perm_append_comm)).trans (List.Perm.of_eq (by simp only [List.append_assoc]))) ?_
              refine V.perm (ws' := (CWd G o a RP RQ RU S ++ (QLd G (aNq A) qa qb (fun j => pa (aQp A j)) Zs ++ (KWd G (a 4) (f 0) K0 ++ (KWd G (a 5) (f 1) K1 ++ (KWd G (a 6) (f 2) K2 ++ (ULd G 10 ua ub Us ++ (PLd G (aNp A) pa pb Ps)))))))) ((List.Perm.append_left _ (List.perm_append_comm)).trans (List.Perm.of_eq (by simp only [List.append_assoc]))) ?_
              refine V.perm (ws' := (CWd G o a RP RQ RU S ++ (KWd G (a 4) (f 0) K0 ++ (KWd G (a 5) (f 1) K1 ++ (KWd G (a 6) (f 2) K2 ++ (ULd G 10 ua ub Us ++ (PLd G (aNp A) pa pb Ps ++ (QLd G (aNq A) qa qb (fun j => pa (aQp A j)) Zs)))))))) ((List.Perm.append_left _ (List.perm_append_comm)).trans (List.Perm.of_eq (by simp only [List.append_assoc]))) ?_
              rcases (if01 h_78) with ⟨q_78, rfl⟩ | ⟨q_78, rfl⟩
              · refine v_if_eqT (pc := 81) (tgt := 88) C (by decide) dX4_told_81 (by decide) ?_
                refine v_iconst (pc := 88) (v := 0) C dX4_told_88 (by decide) ?_
                subst hQ
                exact v_iret (pc := 89) C dX4_told_89 (rfl) ((A, (S, K0, K1, K2, Us, Ps, Zs, RP, RQ, pa, pb, qa, qb))) rfl (⟨by unfold s_told; rw [eT]; show _ = if w < 0 ∨ 13 < w then NV else t (tn w); rw [c_71, if_neg (by decide)]; exact (show _ = t 13 by rw [← h13]; rw [if_neg q_78]), rfl, hC⟩)
              · refine v_if_eqF (pc := 81) (tgt := 88) C (by decide) dX4_told_81 (by decide) ?_
                refine v_iconst (pc := 84) (v := 1) C dX4_told_84 (by decide) ?_
                refine v_goto (pc := 85) (tgt := 89) C dX4_told_85 (by decide) ?_
                subst hQ
                exact v_iret (pc := 89) C dX4_told_89 (rfl) ((A, (S, K0, K1, K2, Us, Ps, Zs, RP, RQ, pa, pb, qa, qb))) rfl (⟨by unfold s_told; rw [eT]; show _ = if w < 0 ∨ 13 < w then NV else t (tn w); rw [c_71, if_neg (by decide)]; exact (show _ = t 13 by rw [← h13]; rw [if_pos q_78]), rfl, hC⟩)
          · refine v_aload_n (pc := 52) C dX4_told_52 rfl ?_
            refine v_get (pc := 53) (v := .ref ((a 4))) C inX4 0 rfl rfl 4 (by decide) kw1_86 rfl dX4_told_53 ?_
            refine v_getN (pc := 56) (v := .int (mI K0 8)) C inX0 9 rfl rfl 8 (by decide) nw_5 rfl dX4_told_56 ?_
            refine v_if_eq (pc := 59) (tgt := 66) C dX4_told_59 (by decide) (fun c_59 => ?_) (fun c_59 => ?_)
            · refine v_iconst (pc := 66) (v := 0) C dX4_told_66 (by decide) ?_
              subst hQ
              exact v_iret (pc := 67) C dX4_told_67 (rfl) ((A, (S, K0, K1, K2, Us, Ps, Zs, RP, RQ, pa, pb, qa, qb))) rfl (⟨by unfold s_told; rw [eT]; show _ = if w < 0 ∨ 13 < w then NV else t (tn w); rw [c_49, if_neg (by decide)]; exact (show _ = t 12 by rw [← h12]; rw [if_pos c_59]), rfl, hC⟩)
            · refine v_iconst (pc := 62) (v := 1) C dX4_told_62 (by decide) ?_
              refine v_goto (pc := 63) (tgt := 67) C dX4_told_63 (by decide) ?_
              subst hQ
              exact v_iret (pc := 67) C dX4_told_67 (rfl) ((A, (S, K0, K1, K2, Us, Ps, Zs, RP, RQ, pa, pb, qa, qb))) rfl (⟨by unfold s_told; rw [eT]; show _ = if w < 0 ∨ 13 < w then NV else t (tn w); rw [c_49, if_neg (by decide)]; exact (show _ = t 12 by rw [← h12]; rw [if_neg c_59]), rfl, hC⟩)
        · obtain ⟨κ, hκ, rfl⟩ := to_12 c_16 c_32
          refine v_aload_n (pc := 35) C dX4_told_35 rfl ?_
          refine v_get (pc := 36) (v := .ref ((a 4))) C inX4 0 rfl rfl 4 (by decide) kw1_86 rfl dX4_told_36 ?_
          refine v_iload_n (pc := 39) C dX4_told_39 rfl ?_
          refine v_iconst (pc := 40) (v := 4) C dX4_told_40 (by decide) ?_
          refine v_isubN (pc := 41) C (κ + 4) 4 rfl rfl (by omega) dX4_told_41 ?_
          refine v_cv (y := (nI (κ))) (congrArg nI (by omega)) ?_
          refine V.perm (ws' := (CWd G o a RP RQ RU S ++ (KWd G (a 5) (f 1) K1 ++ (KWd G (a 6) (f 2) K2 ++ (ULd G 10 ua ub Us ++ (PLd G (aNp A) pa pb Ps ++ (QLd G (aNq A) qa qb (fun j => pa (aQp A j)) Zs ++ (KWd G (a 4) (f 0) K0)))))))) ((List.Perm.append_left _ (List.perm_append_comm)).trans (List.Perm.of_eq (by simp only [List.append_assoc]))) ?_
          refine V.same (ws' := (CWd G o a RP RQ RU S ++ (KWd G (a 5) (f 1) K1 ++ (KWd G (a 6) (f 2) K2 ++ (ULd G 10 ua ub Us ++ (PLd G (aNp A) pa pb Ps ++ (QLd G (aNq A) qa qb (fun j => pa (aQp A j)) Zs)))))) ++ (KWd G (a 4) (f 0) K0)) (by simp only [List.append_assoc]) ?_
          refine v_callVN (pc := 42) (st := []) (q0 := 0) (wr := (CWd G o a RP RQ RU S ++ (KWd G (a 5) (f 1) K1 ++ (KWd G (a 6) (f 2) K2 ++ (ULd G 10 ua ub Us ++ (PLd G (aNp A) pa pb Ps ++ (QLd G (aNq A) qa qb (fun j => pa (aQp A j)) Zs))))))) C (kX0_cellOf G (a 4) (f 0) K0 κ hκ hkK) ykX0_cellOf cvX0_cellOf nw_24 dX4_told_42 rfl rfl rfl rfl rfl (by decide) (Nat.le_of_ble_eq_true rfl) (by decide) rfl (Ri_kk (fun r_42 u_42 h_42 => ?_))
          obtain ⟨e_42, er_42⟩ := h_42
          rw [e_42]
          refine V.same (ws' := (CWd G o a RP RQ RU S ++ (KWd G (a 5) (f 1) K1 ++ (KWd G (a 6) (f 2) K2 ++ (ULd G 10 ua ub Us ++ (PLd G (aNp A) pa pb Ps ++ (QLd G (aNq A) qa qb (fun j => pa (aQp A j)) Zs ++ (KWd G (a 4) (f 0) K0)))))))) (by simp only [List.append_assoc]) ?_
          refine V.perm (ws' := (CWd G o a RP RQ RU S ++ (KWd G (a 6) (f 2) K2 ++ (ULd G 10 ua ub Us ++ (PLd G (aNp A) pa pb Ps ++ (QLd G (aNq A) qa qb (fun j => pa (aQp A j)) Zs ++ (KWd G (a 4) (f 0) K0 ++ (KWd G (a 5) (f 1) K1)))))))) ((List.Perm.append_left _ (List.perm_append_comm)).trans (List.Perm.of_eq (by simp only [List.append_assoc]))) ?_
          refine V.perm (ws' := (CWd G o a RP RQ RU S ++ (ULd G 10 ua ub Us ++ (PLd G (aNp A) pa pb Ps ++ (QLd G (aNq A) qa qb (fun j => pa (aQp A j)) Zs ++ (KWd G (a 4) (f 0) K0 ++ (KWd G (a 5) (f 1) K1 ++ (KWd G (a 6) (f 2) K2)))))))) ((List.Perm.append_left _ (List.perm_append_comm)).trans (List.Perm.of_eq (by simp only [List.append_assoc]))) ?_
          refine V.perm (ws' := (CWd G o a RP RQ RU S ++ (PLd G (aNp A) pa pb Ps ++ (QLd G (aNq A) qa qb (fun j => pa (aQp A j)) Zs ++ (KWd G (a 4) (f 0) K0 ++ (KWd G (a 5) (f 1) K1 ++ (KWd G (a 6) (f 2) K2 ++ (ULd G 10 ua ub Us)))))))) ((List.Perm.append_left _ (List.perm_append_comm)).trans (List.Perm.of_eq (by simp only [List.append_assoc]))) ?_
          refine V.perm (ws' := (CWd G o a RP RQ RU S ++ (QLd G (aNq A) qa qb (fun j => pa (aQp A j)) Zs ++ (KWd G (a 4) (f 0) K0 ++ (KWd G (a 5) (f 1) K1 ++ (KWd G (a 6) (f 2) K2 ++ (ULd G 10 ua ub Us ++ (PLd G (aNp A) pa pb Ps)))))))) ((List.Perm.append_left _ (List.perm_append_comm)).trans (List.Perm.of_eq (by simp only [List.append_assoc]))) ?_
          refine V.perm (ws' := (CWd G o a RP RQ RU S ++ (KWd G (a 4) (f 0) K0 ++ (KWd G (a 5) (f 1) K1 ++ (KWd G (a 6) (f 2) K2 ++ (ULd G 10 ua ub Us ++ (PLd G (aNp A) pa pb Ps ++ (QLd G (aNq A) qa qb (fun j => pa (aQp A j)) Zs)))))))) ((List.Perm.append_left _ (List.perm_append_comm)).trans (List.Perm.of_eq (by simp only [List.append_assoc]))) ?_
          subst hQ
          exact v_iret (pc := 45) C dX4_told_45 (rfl) ((A, (S, K0, K1, K2, Us, Ps, Zs, RP, RQ, pa, pb, qa, qb))) rfl (⟨by unfold s_told; rw [eT]; show _ = if nI (κ + 4) < 0 ∨ 13 < nI (κ + 4) then NV else t (tn (nI (κ + 4))); rw [if_neg (to_in (by omega)), tn_nI (by omega), er_42, hcl κ (by omega), Nat.add_comm], rfl, hC⟩)
      · obtain ⟨κ, hκ, rfl⟩ := to_4 c_8 c_16
        refine v_aload_n (pc := 19) C dX4_told_19 rfl ?_
        refine v_get (pc := 20) (v := .ref ((a 4))) C inX4 0 rfl rfl 4 (by decide) kw1_86 rfl dX4_told_20 ?_
        refine v_getN (pc := 23) (v := .ref ((f 0) 0)) C inX0 9 rfl rfl 0 (by decide) nw_1 rfl dX4_told_23 ?_
        refine v_iload_n (pc := 26) C dX4_told_26 rfl ?_
        refine v_ialdN (pc := 27) (i := (κ)) (f := (mA K0 0)) C 10 rfl (by omega) (by decide) dX4_told_27 ?_
        subst hQ
        exact v_iret (pc := 28) C dX4_told_28 (rfl) ((A, (S, K0, K1, K2, Us, Ps, Zs, RP, RQ, pa, pb, qa, qb))) rfl (⟨by unfold s_told; rw [eT]; show _ = if nI κ < 0 ∨ 13 < nI κ then NV else t (tn (nI κ)); rw [if_neg (to_in (by omega)), tn_nI (by omega)]; exact hv κ hκ, rfl, hC⟩)
    · refine v_ldc (pc := 11) C dX4_told_11 kw1_220 ?_
      subst hQ
      exact v_iret (pc := 13) C dX4_told_13 (rfl) ((A, (S, K0, K1, K2, Us, Ps, Zs, RP, RQ, pa, pb, qa, qb))) rfl (⟨by unfold s_told; rw [eT]; show _ = if w < 0 ∨ 13 < w then NV else t (tn w); rw [if_pos (Or.inl (Int32.not_le.mp c_8))]; rfl, rfl, hC⟩)
def rmX4_done : Room := { frames := 0, cells := 0, slots := 0, locals := 0 }
set_option maxHeartbeats 4000000 in
set_option maxRecDepth 100000 in
theorem kX4_done (G : TG) (o : Nat) (a : Nat → Nat) (f : Nat → Nat → Nat) (ua : Nat → Nat) (ub : Nat → Nat → Nat) (RP RQ RU : Nat → Option Nat) (S K0 K1 K2 : MS) (Us Ps Zs : Nat → MS) (pa qa : Nat → Nat) (pb qb : Nat → Nat → Nat) (A : AS) (hI : AInv A) (hC : CAll A RP RQ RU ua pa qa S K0 Us Ps Zs) (l : Int32) : CT G yX4_done cX4_done 2 (some .int) rmX4_done 0 0 [.ref (o), .int (l)] (CWd G o a RP RQ RU S ++ (KWd G (a 4) (f 0) K0 ++ (KWd G (a 5) (f 1) K1 ++ (KWd G (a 6) (f 2) K2 ++ (ULd G 10 ua ub Us ++ (PLd G (aNp A) pa pb Ps ++ (QLd G (aNq A) qa qb (fun j => pa (aQp A j)) Zs))))))) (fun u : AS × DS => DWd G o a f ua ub RU u.1 u.2) (Ri (fun r δ => r = s_done A l ∧ δ.1 = A ∧ CRel δ.1 RU ua δ.2)) := by
  refine CT.enter (by decide) (Nat.le_of_ble_eq_true rfl) (fun X C hnm => ?_)
  refine V.less [(0, .ref (o)), (1, .int (l))] ⟨rfl, rfl, trivial⟩ ?_
  generalize hQ : (QX G X (fun u : AS × DS => DWd G o a f ua ub RU u.1 u.2) (Ri (fun r δ => r = s_done A l ∧ δ.1 = A ∧ CRel δ.1 RU ua δ.2)) 0 0) = Qq
  have hnp := hI.1
  have hnq := hI.2.2.2.2.1
  obtain ⟨hS, hP, hA, hU, hRP, hRQ, hRU⟩ := id hC
  refine v_iload_n (pc := 0) C dX4_done_0 rfl ?_
  refine v_if_lt (pc := 1) (tgt := 15) C dX4_done_1 (by decide) (fun c_1 => ?_) (fun c_1 => ?_)
  · refine v_iconst (pc := 15) (v := (-1)) C dX4_done_15 (by decide) ?_
    subst hQ
    exact v_iret (pc := 16) C dX4_done_16 (rfl) ((A, (S, K0, K1, K2, Us, Ps, Zs, RP, RQ, pa, pb, qa, qb))) rfl (⟨(done_neg c_1).symm, rfl, hC⟩)
  · refine v_iload_n (pc := 4) C dX4_done_4 rfl ?_
    refine v_aload_n (pc := 5) C dX4_done_5 rfl ?_
    refine v_get (pc := 6) (v := .ref ((a 4))) C inX4 0 rfl rfl 4 (by decide) kw1_86 rfl dX4_done_6 ?_
    refine v_getN (pc := 9) (v := .int (mI K0 6)) C inX0 9 rfl rfl 6 (by decide) nw_3 rfl dX4_done_9 ?_
    refine v_icmp_lt (pc := 12) (tgt := 17) C dX4_done_12 (by decide) (fun c_12 => ?_) (fun c_12 => ?_)
    · obtain ⟨κ, hκ, el, hdn⟩ := done_in hS.2.1 c_1 c_12
      subst el
      refine v_aload_n (pc := 17) C dX4_done_17 rfl ?_
      refine v_get (pc := 18) (v := .ref ((a 4))) C inX4 0 rfl rfl 4 (by decide) kw1_86 rfl dX4_done_18 ?_
      refine v_getN (pc := 21) (v := .ref ((f 0) 3)) C inX0 9 rfl rfl 3 (by decide) nw_2 rfl dX4_done_21 ?_
      refine v_iload_n (pc := 24) C dX4_done_24 rfl ?_
      refine v_ialdN (pc := 25) (i := (κ)) (f := (mA K0 3)) C 13 rfl (by omega) (by decide) dX4_done_25 ?_
      subst hQ
      exact v_iret (pc := 26) C dX4_done_26 (rfl) ((A, (S, K0, K1, K2, Us, Ps, Zs, RP, RQ, pa, pb, qa, qb))) rfl (⟨hdn, rfl, hC⟩)
    · refine v_iconst (pc := 15) (v := (-1)) C dX4_done_15 (by decide) ?_
      subst hQ
      exact v_iret (pc := 16) C dX4_done_16 (rfl) ((A, (S, K0, K1, K2, Us, Ps, Zs, RP, RQ, pa, pb, qa, qb))) rfl (⟨(done_ge hS.2.1 c_1 c_12).symm, rfl, hC⟩)
