/-! the desk: choice, next, parting -/
theorem chK_chF {A : AS} {q : Nat} : ∀ i, chK A q i = chF (fun m => ansA A q (nI m)) i
  | 0 => rfl
  | i + 1 => by
    have ih := chK_chF (A := A) (q := q) i
    show (if ansA A q (nI (smN i)) ∈ (chK A q i).map Prod.fst then chK A q i else chK A q i ++ [(ansA A q (nI (smN i)), nI (smN i))]) = _
    rw [ih]; rfl
theorem choice_out {A : AS} {i w : Int32} (h : ¬ i < 0 → nI (aC A).length ≤ i) : s_choice A i w = NV := by
  unfold s_choice
  by_cases q : i < 0
  · rw [if_pos q]
  · rw [if_neg q, if_pos (h q)]
theorem ch_at {A : AS} {j γ k : Nat} {t s : Nat → Int32} (hc : aC A = List.take γ (chK A j 7)) (hl : (aC A).length = γ) (hk : k < γ) (h : ∀ y w, (chF (fun m => ansA A j (nI m)) 7)[y]? = some w → t y = w.1 ∧ s y = w.2) : t k = ((aC A).getD k (0, 0)).1 ∧ s k = ((aC A).getD k (0, 0)).2 := by
  have h1 := getD_at (l := aC A) (k := k) (d := (0, 0)) (by omega)
  refine h k _ ?_
  rw [← chK_chF, ← h1, hc, List.getElem?_take_of_lt hk]
theorem choice_at {A : AS} {k : Nat} {w : Int32} (hk : k < (aC A).length) (h6 : (aC A).length ≤ 6) : s_choice A (nI k) w = if w < 0 ∨ 1 < w then NV else if w = 0 then ((aC A).getD k (0, 0)).1 else ((aC A).getD k (0, 0)).2 := by
  unfold s_choice
  rw [if_neg (nI_pos (by omega)), if_neg (nI_ge hk (by omega)), tn_nI (by omega)]
theorem w01' {w : Int32} (h0 : ¬ w = 0) (h1 : ¬ w = 1) : w < 0 ∨ 1 < w := by
  rcases pk_ix w (n := 2) (by decide) with q | q | ⟨j, a, b⟩
  · exact Or.inl q
  · have : (1 : Int32) < 2 := by decide
    exact Or.inr (Int32.lt_of_lt_of_le this q)
  · subst b
    rcases (show j = 0 ∨ j = 1 by omega) with z | z <;> subst z
    · exact absurd rfl h0
    · exact absurd rfl h1
theorem cntN_cong {f g : Nat → Int32} {v : Int32} : ∀ n, (∀ y, y < n → f y = g y) → cntN f v n = cntN g v n
  | 0, _ => rfl
  | n + 1, h => by
    have ih := cntN_cong (v := v) n (fun y hy => h y (by omega))
    show cntN f v n + (if f n = v then 1 else 0) = cntN g v n + (if g n = v then 1 else 0)
    rw [ih, h n (by omega)]
theorem mostN_cong {f g : Nat → Int32} {n : Nat} (h : ∀ y, y < n → f y = g y) : ∀ k, k ≤ n → mostN f n k = mostN g n k
  | 0, _ => rfl
  | k + 1, hk => by
    have ih := mostN_cong h k (by omega)
    show (if mostN f n k < cntN f (f k) n then cntN f (f k) n else mostN f n k) = (if mostN g n k < cntN g (g k) n then cntN g (g k) n else mostN g n k)
    rw [ih, h k (by omega), cntN_cong n h]
theorem most_gr {A : AS} {q : Nat} {Λ : Int64} {L : List Nat} {t : Nat → Int32} (hb : bl Λ 64 = L) (ht : ∀ y x, (bl Λ 64)[y]? = some x → t y = ansA A q (nI x)) : mostN t (bl Λ 64).length (bl Λ 64).length = grN A L q := by
  subst hb
  unfold grN
  refine mostN_cong (fun y hy => ?_) _ (Nat.le_refl _)
  exact ht y _ (getD_at (d := 0) hy)
theorem u_some {A : AS} {u q : Nat} {U : MS} (h : URel A u U) (hq : q < 60) (hb : lb (mL U 1) q = true) : (aG A u q).isSome = true := by
  rcases h.1 q hq with ⟨-, b⟩ | ⟨v, a, -, -⟩
  · exact absurd hb b
  · rw [a]; rfl
theorem u_none {A : AS} {u q : Nat} {U : MS} (h : URel A u U) (hq : q < 60) (hb : ¬ lb (mL U 1) q = true) : ¬ (aG A u q).isSome = true := by
  rcases h.1 q hq with ⟨a, -⟩ | ⟨v, -, b, -⟩
  · rw [a]; decide
  · exact absurd b hb
theorem pa_tells {A : AS} {s : Nat} : paP (fun q => pv (fun m => ansA A q (nI m)) 21) s (nP A) ↔ tells A s := by
  constructor
  · intro h x y hxy hy
    obtain ⟨e1, e2, e3⟩ := pIJ y hy x hxy
    obtain ⟨q, a, b, c⟩ := h _ e3
    have c2 := (pv_bit (fun m => ansA A q (nI m)) 21 _ e3).mp c
    rw [e1, e2] at c2
    refine ⟨q, a, b, ?_⟩
    rw [tb_at (by omega), tb_at hy]
    exact fun z => c2 z.symm
  · intro h p hp
    obtain ⟨e1, e2, e3⟩ := pIJ2 p hp
    obtain ⟨q, a, b, c⟩ := h (pJ p) (pI p) e2 e1
    rw [tb_at (by omega), tb_at e1] at c
    exact ⟨q, a, b, (pv_bit (fun m => ansA A q (nI m)) 21 p hp).mpr (fun z => c z.symm)⟩
theorem all_bit {n q : Nat} (h : q < n) : (2 ^ n - 1) / 2 ^ q % 2 = 1 := by
  rw [bitdm, Nat.testBit_two_pow_sub_one]; exact decide_eq_true h
theorem tells_mono {A : AS} {z : Nat} (h : tells A z) : tells A (2 ^ nP A - 1) := by
  intro x y hxy hy
  obtain ⟨q, a, b, c⟩ := h x y hxy hy
  exact ⟨q, a, all_bit a, c⟩
theorem tells_0 {A : AS} : ¬ tells A 0 := by
  intro h
  obtain ⟨q, -, b, -⟩ := h 0 1 (by decide) (by decide)
  rw [Nat.zero_div] at b
  exact absurd b (by decide)
theorem popN_all {n : Nat} : ∀ q, q ≤ n → popN (2 ^ n - 1) q = q
  | 0, _ => rfl
  | q + 1, h => by
    have ih := popN_all (n := n) q (by omega)
    show popN (2 ^ n - 1) q + (2 ^ n - 1) / 2 ^ q % 2 = q + 1
    rw [ih, all_bit (by omega)]
theorem pop_lo {s n : Nat} (hs : s < 2 ^ n) : ∀ d, popN s (n + d) = popN s n
  | 0 => rfl
  | d + 1 => by
    have ih := pop_lo hs d
    show popN s (n + d) + s / 2 ^ (n + d) % 2 = popN s n
    rw [ih, Nat.div_eq_of_lt (Nat.lt_of_lt_of_le hs (Nat.pow_le_pow_right (by decide) (by omega)))]
    rfl
theorem pop_16 {A : AS} {s : Nat} (hs : s < 2 ^ nP A) : popN s 16 = popN s (nP A) := by
  have := (nP_le A).1
  have h := pop_lo hs (16 - nP A)
  rw [show nP A + (16 - nP A) = 16 by omega] at h
  exact h
/-- the least size so far, all questions together counted in -/
def pbC (A : AS) (s b : Nat) : Prop := (∃ z, z < 2 ^ nP A ∧ tells A z ∧ b = popN z (nP A)) ∧ b ≤ nP A ∧ ∀ w, w < s → tells A w → b ≤ popN w (nP A)
theorem pbC_1 {A : AS} (h : tells A (2 ^ nP A - 1)) : pbC A 1 (nP A) := by
  have := Nat.two_pow_pos (nP A)
  refine ⟨⟨2 ^ nP A - 1, by omega, h, (popN_all _ (Nat.le_refl _)).symm⟩, Nat.le_refl _, fun w hw t => ?_⟩
  rw [show w = 0 by omega] at t
  exact absurd t tells_0
theorem pbC_no {A : AS} {s b : Nat} (h : pbC A s b) (hn : tells A s → b ≤ popN s (nP A)) : pbC A (s + 1) b := by
  refine ⟨h.1, h.2.1, fun w hw t => ?_⟩
  rcases Nat.lt_or_ge w s with z | z
  · exact h.2.2 w z t
  · rw [show w = s by omega] at t ⊢; exact hn t
theorem pbC_yes {A : AS} {s b : Nat} (h : pbC A s b) (hs : s < 2 ^ nP A) (ht : tells A s) (hl : popN s (nP A) < b) : pbC A (s + 1) (popN s (nP A)) := by
  have := h.2.1
  refine ⟨⟨s, hs, ht, rfl⟩, by omega, fun w hw t => ?_⟩
  rcases Nat.lt_or_ge w s with z | z
  · have := h.2.2 w z t; omega
  · rw [show w = s by omega]; exact Nat.le_refl _
theorem pbC_end {A : AS} {s b : Nat} (h : pbC A s b) (hs : 2 ^ nP A - 1 ≤ s) : PB A (2 ^ nP A) (nI b) := by
  obtain ⟨⟨z, a1, a2, a3⟩, b2, c⟩ := h
  subst a3
  refine Or.inr ⟨z, a1, a2, rfl, fun w hw t => ?_⟩
  rcases Nat.lt_or_ge w s with y | y
  · exact c w y t
  · rw [show w = 2 ^ nP A - 1 by omega, popN_all _ (Nat.le_refl _)]; exact b2
theorem pmin {A : AS} (h : aNq A ≤ 60) : (if (12 : Int32) < nI (aNq A) then (12 : Int32) else nI (aNq A)) = nI (nP A) := by
  unfold nP
  show (if nI 12 < nI (aNq A) then nI 12 else nI (aNq A)) = _
  by_cases q : aNq A < 12
  · rw [if_pos q, if_neg (nI_nlt (a := 12) (b := aNq A) (by omega) (by decide))]
  · rw [if_neg q]
    by_cases z : aNq A = 12
    · rw [z]; decide
    · rw [if_pos (nI_lt (a := 12) (b := aNq A) (by omega) (by omega))]
def rmX4_choice : Room := { frames := 5, cells := 0, slots := 0, locals := 118 }
set_option maxHeartbeats 4000000 in
set_option maxRecDepth 100000 in
theorem kX4_choice (G : TG) (o : Nat) (a : Nat → Nat) (f : Nat → Nat → Nat) (ua : Nat → Nat) (ub : Nat → Nat → Nat) (RP RQ RU : Nat → Option Nat) (S K0 K1 K2 : MS) (Us Ps Zs : Nat → MS) (pa qa : Nat → Nat) (pb qb : Nat → Nat → Nat) (A : AS) (hI : AInv A) (hC : CAll A RP RQ RU ua pa qa S K0 Us Ps Zs) (i w : Int32) : CT G yX4_choice cX4_choice 4 (some .int) rmX4_choice 0 0 [.ref (o), .int (i), .int (w)] (CWd G o a RP RQ RU S ++ (KWd G (a 4) (f 0) K0 ++ (KWd G (a 5) (f 1) K1 ++ (KWd G (a 6) (f 2) K2 ++ (ULd G 10 ua ub Us ++ (PLd G (aNp A) pa pb Ps ++ (QLd G (aNq A) qa qb (fun j => pa (aQp A j)) Zs))))))) (fun u : AS × DS => DWd G o a f ua ub RU u.1 u.2) (Ri (fun r δ => r = s_choice A i w ∧ δ.1 = A ∧ CRel δ.1 RU ua δ.2)) := by
  refine CT.enter (by decide) (Nat.le_of_ble_eq_true rfl) (fun X C hnm => ?_)
  refine V.less [(0, .ref (o)), (1, .int (i)), (2, .int (w))] ⟨rfl, rfl, rfl, trivial⟩ ?_
  generalize hQ : (QX G X (fun u : AS × DS => DWd G o a f ua ub RU u.1 u.2) (Ri (fun r δ => r = s_choice A i w ∧ δ.1 = A ∧ CRel δ.1 RU ua δ.2)) 0 0) = Qq
  have hnp := hI.1
  have hnq := hI.2.2.2.2.1
  obtain ⟨hS, hP, hA, hU, hRP, hRQ, hRU⟩ := id hC
  obtain ⟨γ, ξ, e16, e15, hξ, hγ, hcl, hcc⟩ := hS.2.2.1
  refine v_aload_n (pc := 0) C dX4_choice_0 rfl ?_
  refine v_aload_n (pc := 1) C dX4_choice_1 rfl ?_
  refine v_get (pc := 2) (v := .int (mI S 15)) C inX4 0 rfl rfl 15 (by decide) kw1_97 rfl dX4_choice_2 ?_
  refine v_cv (y := (nI (ξ))) (e15) ?_
  refine V.perm (ws' := (KWd G (a 4) (f 0) K0 ++ (KWd G (a 5) (f 1) K1 ++ (KWd G (a 6) (f 2) K2 ++ (ULd G 10 ua ub Us ++ (PLd G (aNp A) pa pb Ps ++ (QLd G (aNq A) qa qb (fun j => pa (aQp A j)) Zs ++ (CWd G o a RP RQ RU S)))))))) ((List.perm_append_comm).trans (List.Perm.of_eq (by simp only [List.append_assoc]))) ?_
  refine V.same (ws' := (KWd G (a 4) (f 0) K0 ++ (KWd G (a 5) (f 1) K1 ++ (KWd G (a 6) (f 2) K2 ++ (ULd G 10 ua ub Us ++ (PLd G (aNp A) pa pb Ps ++ (QLd G (aNq A) qa qb (fun j => pa (aQp A j)) Zs)))))) ++ (CWd G o a RP RQ RU S)) (by simp only [List.append_assoc]) ?_
  refine v_callV (pc := 5) (st := []) (q0 := 0) (wr := (KWd G (a 4) (f 0) K0 ++ (KWd G (a 5) (f 1) K1 ++ (KWd G (a 6) (f 2) K2 ++ (ULd G 10 ua ub Us ++ (PLd G (aNp A) pa pb Ps ++ (QLd G (aNq A) qa qb (fun j => pa (aQp A j)) Zs))))))) C (kX4_questionAt G o a RP RQ RU S (nI ξ) (aNq A) hI.2.2.2.2.1 hS.1.2.1) ykX4_questionAt cvX4_questionAt kw2_88 dX4_choice_5 rfl rfl rfl rfl rfl (by decide) (Nat.le_of_ble_eq_true rfl) (by decide) rfl (Rq_kk (fun r_5 u_5 h_5 => ?_))
  obtain ⟨e_5, h_5⟩ := h_5
  rw [e_5]
  refine V.same (ws' := (KWd G (a 4) (f 0) K0 ++ (KWd G (a 5) (f 1) K1 ++ (KWd G (a 6) (f 2) K2 ++ (ULd G 10 ua ub Us ++ (PLd G (aNp A) pa pb Ps ++ (QLd G (aNq A) qa qb (fun j => pa (aQp A j)) Zs ++ (CWd G o a RP RQ RU S)))))))) (by simp only [List.append_assoc]) ?_
  refine V.perm (ws' := (KWd G (a 5) (f 1) K1 ++ (KWd G (a 6) (f 2) K2 ++ (ULd G 10 ua ub Us ++ (PLd G (aNp A) pa pb Ps ++ (QLd G (aNq A) qa qb (fun j => pa (aQp A j)) Zs ++ (CWd G o a RP RQ RU S ++ (KWd G (a 4) (f 0) K0)))))))) ((List.perm_append_comm).trans (List.Perm.of_eq (by simp only [List.append_assoc]))) ?_
  refine V.perm (ws' := (KWd G (a 6) (f 2) K2 ++ (ULd G 10 ua ub Us ++ (PLd G (aNp A) pa pb Ps ++ (QLd G (aNq A) qa qb (fun j => pa (aQp A j)) Zs ++ (CWd G o a RP RQ RU S ++ (KWd G (a 4) (f 0) K0 ++ (KWd G (a 5) (f 1) K1)))))))) ((List.perm_append_comm).trans (List.Perm.of_eq (by simp only [List.append_assoc]))) ?_
  refine V.perm (ws' := (ULd G 10 ua ub Us ++ (PLd G (aNp A) pa pb Ps ++ (QLd G (aNq A) qa qb (fun j => pa (aQp A j)) Zs ++ (CWd G o a RP RQ RU S ++ (KWd G (a 4) (f 0) K0 ++ (KWd G (a 5) (f 1) K1 ++ (KWd G (a 6) (f 2) K2)))))))) ((List.perm_append_comm).trans (List.Perm.of_eq (by simp only [List.append_assoc]))) ?_
  refine V.perm (ws' := (PLd G (aNp A) pa pb Ps ++ (QLd G (aNq A) qa qb (fun j => pa (aQp A j)) Zs ++ (CWd G o a RP RQ RU S ++ (KWd G (a 4) (f 0) K0 ++ (KWd G (a 5) (f 1) K1 ++ (KWd G (a 6) (f 2) K2 ++ (ULd G 10 ua ub Us)))))))) ((List.perm_append_comm).trans (List.Perm.of_eq (by simp only [List.append_assoc]))) ?_
  refine V.perm (ws' := (QLd G (aNq A) qa qb (fun j => pa (aQp A j)) Zs ++ (CWd G o a RP RQ RU S ++ (KWd G (a 4) (f 0) K0 ++ (KWd G (a 5) (f 1) K1 ++ (KWd G (a 6) (f 2) K2 ++ (ULd G 10 ua ub Us ++ (PLd G (aNp A) pa pb Ps)))))))) ((List.perm_append_comm).trans (List.Perm.of_eq (by simp only [List.append_assoc]))) ?_
  refine V.perm (ws' := (CWd G o a RP RQ RU S ++ (KWd G (a 4) (f 0) K0 ++ (KWd G (a 5) (f 1) K1 ++ (KWd G (a 6) (f 2) K2 ++ (ULd G 10 ua ub Us ++ (PLd G (aNp A) pa pb Ps ++ (QLd G (aNq A) qa qb (fun j => pa (aQp A j)) Zs)))))))) ((List.perm_append_comm).trans (List.Perm.of_eq (by simp only [List.append_assoc]))) ?_
  rcases h_5 with ⟨b_q, rfl⟩ | ⟨j, hj, ej, rfl⟩
  · refine v_rfn rfl ?_
    refine v_astore_nN (pc := 8) C dX4_choice_8 (by decide) ?_
    refine v_aload_nN (pc := 9) C dX4_choice_9 rfl ?_
    refine v_ifnullN (pc := 10) (tgt := 25) C dX4_choice_10 (by decide) ?_
    refine v_ldc (pc := 25) C dX4_choice_25 kw1_220 ?_
    subst hQ
    exact v_iret (pc := 27) C dX4_choice_27 (rfl) ((A, (S, K0, K1, K2, Us, Ps, Zs, RP, RQ, pa, pb, qa, qb))) rfl (⟨(choice_out (fun z => by rw [hcl, show γ = 0 by rcases hcc with y | y; exact y; exact absurd b_q (nbad y.1 (by omega))]; exact Int32.not_lt.mp z)).symm, rfl, hC⟩)
  · have ej2 : ξ = j := (nI_eq (by omega) (by omega)).mp ej
    rw [ej2] at hcc
    refine v_rfs (hRQ j hj) ?_
    refine V.perm (ws' := (CWd G o a RP RQ RU S ++ (KWd G (a 4) (f 0) K0 ++ (KWd G (a 5) (f 1) K1 ++ (KWd G (a 6) (f 2) K2 ++ (ULd G 10 ua ub Us ++ (PLd G (aNp A) pa pb Ps ++ (QLx G (aNq A) qa qb (fun j => pa (aQp A j)) Zs j ++ (QWd G (qa j) (qb j) (pa (aQp A j)) (Zs j)))))))))) ((List.Perm.append_left _ (List.Perm.append_left _ (List.Perm.append_left _ (List.Perm.append_left _ (List.Perm.append_left _ (List.Perm.append_left _ (QL_focus hj))))))).trans (List.Perm.of_eq (by simp only [List.append_assoc]))) ?_
    refine V.perm (ws' := (CWd G o a RP RQ RU S ++ (KWd G (a 4) (f 0) K0 ++ (KWd G (a 5) (f 1) K1 ++ (KWd G (a 6) (f 2) K2 ++ (PLd G (aNp A) pa pb Ps ++ (QLx G (aNq A) qa qb (fun j => pa (aQp A j)) Zs j ++ (QWd G (qa j) (qb j) (pa (aQp A j)) (Zs j) ++ (ULd G 10 ua ub Us))))))))) ((List.Perm.append_left _ (List.Perm.append_left _ (List.Perm.append_left _ (List.Perm.append_left _ (List.perm_append_comm))))).trans (List.Perm.of_eq (by simp only [List.append_assoc]))) ?_
    refine V.perm (ws' := (CWd G o a RP RQ RU S ++ (KWd G (a 4) (f 0) K0 ++ (KWd G (a 5) (f 1) K1 ++ (KWd G (a 6) (f 2) K2 ++ (QLx G (aNq A) qa qb (fun j => pa (aQp A j)) Zs j ++ (QWd G (qa j) (qb j) (pa (aQp A j)) (Zs j) ++ (ULd G 10 ua ub Us ++ (PLd G (aNp A) pa pb Ps))))))))) ((List.Perm.append_left _ (List.Perm.append_left _ (List.Perm.append_left _ (List.Perm.append_left _ (List.perm_append_comm))))).trans (List.Perm.of_eq (by simp only [List.append_assoc]))) ?_
    refine V.perm (ws' := (CWd G o a RP RQ RU S ++ (KWd G (a 4) (f 0) K0 ++ (KWd G (a 5) (f 1) K1 ++ (KWd G (a 6) (f 2) K2 ++ (QWd G (qa j) (qb j) (pa (aQp A j)) (Zs j) ++ (ULd G 10 ua ub Us ++ (PLd G (aNp A) pa pb Ps ++ (QLx G (aNq A) qa qb (fun j => pa (aQp A j)) Zs j))))))))) ((List.Perm.append_left _ (List.Perm.append_left _ (List.Perm.append_left _ (List.Perm.append_left _ (List.perm_append_comm))))).trans (List.Perm.of_eq (by simp only [List.append_assoc]))) ?_
    refine V.perm (ws' := (CWd G o a RP RQ RU S ++ (KWd G (a 4) (f 0) K0 ++ (KWd G (a 5) (f 1) K1 ++ (KWd G (a 6) (f 2) K2 ++ (QWd G (qa j) (qb j) (pa (aQp A j)) (Zs j) ++ (ULd G 10 ua ub Us ++ (PLx G (aNp A) pa pb Ps (aQp A j) ++ (PWd G (pa (aQp A j)) (pb (aQp A j)) (Ps (aQp A j)) ++ (QLx G (aNq A) qa qb (fun j => pa (aQp A j)) Zs j)))))))))) ((List.Perm.append_left _ (List.Perm.append_left _ (List.Perm.append_left _ (List.Perm.append_left _ (List.Perm.append_left _ (List.Perm.append_left _ (List.Perm.append_right _ (PL_focus (hI.2.2.2.2.2.1 j hj).1)))))))).trans (List.Perm.of_eq (by simp only [List.append_assoc]))) ?_
    refine V.perm (ws' := (CWd G o a RP RQ RU S ++ (KWd G (a 4) (f 0) K0 ++ (KWd G (a 5) (f 1) K1 ++ (KWd G (a 6) (f 2) K2 ++ (QWd G (qa j) (qb j) (pa (aQp A j)) (Zs j) ++ (PLx G (aNp A) pa pb Ps (aQp A j) ++ (PWd G (pa (aQp A j)) (pb (aQp A j)) (Ps (aQp A j)) ++ (QLx G (aNq A) qa qb (fun j => pa (aQp A j)) Zs j ++ (ULd G 10 ua ub Us)))))))))) ((List.Perm.append_left _ (List.Perm.append_left _ (List.Perm.append_left _ (List.Perm.append_left _ (List.Perm.append_left _ (List.perm_append_comm)))))).trans (List.Perm.of_eq (by simp only [List.append_assoc]))) ?_
    refine V.perm (ws' := (CWd G o a RP RQ RU S ++ (KWd G (a 4) (f 0) K0 ++ (KWd G (a 5) (f 1) K1 ++ (KWd G (a 6) (f 2) K2 ++ (QWd G (qa j) (qb j) (pa (aQp A j)) (Zs j) ++ (PWd G (pa (aQp A j)) (pb (aQp A j)) (Ps (aQp A j)) ++ (QLx G (aNq A) qa qb (fun j => pa (aQp A j)) Zs j ++ (ULd G 10 ua ub Us ++ (PLx G (aNp A) pa pb Ps (aQp A j))))))))))) ((List.Perm.append_left _ (List.Perm.append_left _ (List.Perm.append_left _ (List.Perm.append_left _ (List.Perm.append_left _ (List.perm_append_comm)))))).trans (List.Perm.of_eq (by simp only [List.append_assoc]))) ?_
    refine V.perm (ws' := (CWd G o a RP RQ RU S ++ (KWd G (a 4) (f 0) K0 ++ (KWd G (a 5) (f 1) K1 ++ (KWd G (a 6) (f 2) K2 ++ (QWd G (qa j) (qb j) (pa (aQp A j)) (Zs j) ++ (PWd G (pa (aQp A j)) (pb (aQp A j)) (Ps (aQp A j)) ++ (ULd G 10 ua ub Us ++ (PLx G (aNp A) pa pb Ps (aQp A j) ++ (QLx G (aNq A) qa qb (fun j => pa (aQp A j)) Zs j)))))))))) ((List.Perm.append_left _ (List.Perm.append_left _ (List.Perm.append_left _ (List.Perm.append_left _ (List.Perm.append_left _ (List.Perm.append_left _ (List.perm_append_comm))))))).trans (List.Perm.of_eq (by simp only [List.append_assoc]))) ?_
    refine v_astore_n (pc := 8) C dX4_choice_8 (by decide) ?_
    refine v_aload_n (pc := 9) C dX4_choice_9 rfl ?_
    refine v_ifnull (pc := 10) C dX4_choice_10 ?_
    refine v_iload_n (pc := 13) C dX4_choice_13 rfl ?_
    refine v_if_lt (pc := 14) (tgt := 25) C dX4_choice_14 (by decide) (fun c_14 => ?_) (fun c_14 => ?_)
    · refine v_ldc (pc := 25) C dX4_choice_25 kw1_220 ?_
      refine V.perm (ws' := (CWd G o a RP RQ RU S ++ (KWd G (a 4) (f 0) K0 ++ (KWd G (a 5) (f 1) K1 ++ (KWd G (a 6) (f 2) K2 ++ (PWd G (pa (aQp A j)) (pb (aQp A j)) (Ps (aQp A j)) ++ (ULd G 10 ua ub Us ++ (PLx G (aNp A) pa pb Ps (aQp A j) ++ (QLx G (aNq A) qa qb (fun j => pa (aQp A j)) Zs j ++ (QWd G (qa j) (qb j) (pa (aQp A j)) (Zs j))))))))))) ((List.Perm.append_left _ (List.Perm.append_left _ (List.Perm.append_left _ (List.Perm.append_left _ (List.perm_append_comm))))).trans (List.Perm.of_eq (by simp only [List.append_assoc]))) ?_
      refine V.perm (ws' := (CWd G o a RP RQ RU S ++ (KWd G (a 4) (f 0) K0 ++ (KWd G (a 5) (f 1) K1 ++ (KWd G (a 6) (f 2) K2 ++ (PWd G (pa (aQp A j)) (pb (aQp A j)) (Ps (aQp A j)) ++ (ULd G 10 ua ub Us ++ (PLx G (aNp A) pa pb Ps (aQp A j) ++ (QLd G (aNq A) qa qb (fun j => pa (aQp A j)) Zs))))))))) (List.Perm.append_left _ (List.Perm.append_left _ (List.Perm.append_left _ (List.Perm.append_left _ (List.Perm.append_left _ (List.Perm.append_left _ (List.Perm.append_left _ (QL_same hj)))))))) ?_
      refine V.perm (ws' := (CWd G o a RP RQ RU S ++ (KWd G (a 4) (f 0) K0 ++ (KWd G (a 5) (f 1) K1 ++ (KWd G (a 6) (f 2) K2 ++ (PWd G (pa (aQp A j)) (pb (aQp A j)) (Ps (aQp A j)) ++ (ULd G 10 ua ub Us ++ (QLd G (aNq A) qa qb (fun j => pa (aQp A j)) Zs ++ (PLx G (aNp A) pa pb Ps (aQp A j)))))))))) ((List.Perm.append_left _ (List.Perm.append_left _ (List.Perm.append_left _ (List.Perm.append_left _ (List.Perm.append_left _ (List.Perm.append_left _ (List.perm_append_comm))))))).trans (List.Perm.of_eq (by simp only [List.append_assoc]))) ?_
      refine V.perm (ws' := (CWd G o a RP RQ RU S ++ (KWd G (a 4) (f 0) K0 ++ (KWd G (a 5) (f 1) K1 ++ (KWd G (a 6) (f 2) K2 ++ (ULd G 10 ua ub Us ++ (QLd G (aNq A) qa qb (fun j => pa (aQp A j)) Zs ++ (PLx G (aNp A) pa pb Ps (aQp A j) ++ (PWd G (pa (aQp A j)) (pb (aQp A j)) (Ps (aQp A j))))))))))) ((List.Perm.append_left _ (List.Perm.append_left _ (List.Perm.append_left _ (List.Perm.append_left _ (List.perm_append_comm))))).trans (List.Perm.of_eq (by simp only [List.append_assoc]))) ?_
      refine V.perm (ws' := (CWd G o a RP RQ RU S ++ (KWd G (a 4) (f 0) K0 ++ (KWd G (a 5) (f 1) K1 ++ (KWd G (a 6) (f 2) K2 ++ (ULd G 10 ua ub Us ++ (QLd G (aNq A) qa qb (fun j => pa (aQp A j)) Zs ++ (PLd G (aNp A) pa pb Ps)))))))) (List.Perm.append_left _ (List.Perm.append_left _ (List.Perm.append_left _ (List.Perm.append_left _ (List.Perm.append_left _ (List.Perm.append_left _ (PL_same (hI.2.2.2.2.2.1 j hj).1))))))) ?_
      refine V.perm (ws' := (CWd G o a RP RQ RU S ++ (KWd G (a 4) (f 0) K0 ++ (KWd G (a 5) (f 1) K1 ++ (KWd G (a 6) (f 2) K2 ++ (ULd G 10 ua ub Us ++ (PLd G (aNp A) pa pb Ps ++ (QLd G (aNq A) qa qb (fun j => pa (aQp A j)) Zs)))))))) ((List.Perm.append_left _ (List.Perm.append_left _ (List.Perm.append_left _ (List.Perm.append_left _ (List.Perm.append_left _ (List.perm_append_comm)))))).trans (List.Perm.of_eq (by simp only [List.append_assoc]))) ?_
      subst hQ
      exact v_iret (pc := 27) C dX4_choice_27 (rfl) ((A, (S, K0, K1, K2, Us, Ps, Zs, RP, RQ, pa, pb, qa, qb))) rfl (⟨(choice_out (fun z => absurd c_14 z)).symm, rfl, hC⟩)
    · refine v_iload_n (pc := 17) C dX4_choice_17 rfl ?_
      refine v_aload_n (pc := 18) C dX4_choice_18 rfl ?_
      refine v_get (pc := 19) (v := .int (mI S 16)) C inX4 0 rfl rfl 16 (by decide) kw1_98 rfl dX4_choice_19 ?_
      refine v_cv (y := (nI (γ))) (e16) ?_
      refine v_icmp_lt (pc := 22) (tgt := 28) C dX4_choice_22 (by decide) (fun c_22 => ?_) (fun c_22 => ?_)
      · obtain ⟨k, hk, rfl⟩ := ixN c_14 (Int32.not_le.mpr c_22) (by omega)
        have hch : aC A = List.take γ (chK A j 7) := (hcc.resolve_left (by omega)).2
        refine v_aload_n (pc := 28) C dX4_choice_28 rfl ?_
        refine v_aload_n (pc := 29) C dX4_choice_29 rfl ?_
        refine V.perm (ws' := (KWd G (a 4) (f 0) K0 ++ (KWd G (a 5) (f 1) K1 ++ (KWd G (a 6) (f 2) K2 ++ (QWd G (qa j) (qb j) (pa (aQp A j)) (Zs j) ++ (PWd G (pa (aQp A j)) (pb (aQp A j)) (Ps (aQp A j)) ++ (ULd G 10 ua ub Us ++ (PLx G (aNp A) pa pb Ps (aQp A j) ++ (QLx G (aNq A) qa qb (fun j => pa (aQp A j)) Zs j ++ (CWd G o a RP RQ RU S)))))))))) ((List.perm_append_comm).trans (List.Perm.of_eq (by simp only [List.append_assoc]))) ?_
        refine V.perm (ws' := (KWd G (a 4) (f 0) K0 ++ (KWd G (a 6) (f 2) K2 ++ (QWd G (qa j) (qb j) (pa (aQp A j)) (Zs j) ++ (PWd G (pa (aQp A j)) (pb (aQp A j)) (Ps (aQp A j)) ++ (ULd G 10 ua ub Us ++ (PLx G (aNp A) pa pb Ps (aQp A j) ++ (QLx G (aNq A) qa qb (fun j => pa (aQp A j)) Zs j ++ (CWd G o a RP RQ RU S ++ (KWd G (a 5) (f 1) K1)))))))))) ((List.Perm.append_left _ (List.perm_append_comm)).trans (List.Perm.of_eq (by simp only [List.append_assoc]))) ?_
        refine V.perm (ws' := (KWd G (a 4) (f 0) K0 ++ (KWd G (a 6) (f 2) K2 ++ (QWd G (qa j) (qb j) (pa (aQp A j)) (Zs j) ++ (ULd G 10 ua ub Us ++ (PLx G (aNp A) pa pb Ps (aQp A j) ++ (QLx G (aNq A) qa qb (fun j => pa (aQp A j)) Zs j ++ (CWd G o a RP RQ RU S ++ (KWd G (a 5) (f 1) K1 ++ (PWd G (pa (aQp A j)) (pb (aQp A j)) (Ps (aQp A j)))))))))))) ((List.Perm.append_left _ (List.Perm.append_left _ (List.Perm.append_left _ (List.perm_append_comm)))).trans (List.Perm.of_eq (by simp only [List.append_assoc]))) ?_
        refine V.perm (ws' := (KWd G (a 4) (f 0) K0 ++ (KWd G (a 6) (f 2) K2 ++ (ULd G 10 ua ub Us ++ (PLx G (aNp A) pa pb Ps (aQp A j) ++ (QLx G (aNq A) qa qb (fun j => pa (aQp A j)) Zs j ++ (CWd G o a RP RQ RU S ++ (KWd G (a 5) (f 1) K1 ++ (PWd G (pa (aQp A j)) (pb (aQp A j)) (Ps (aQp A j)) ++ (QWd G (qa j) (qb j) (pa (aQp A j)) (Zs j))))))))))) ((List.Perm.append_left _ (List.Perm.append_left _ (List.perm_append_comm))).trans (List.Perm.of_eq (by simp only [List.append_assoc]))) ?_
        refine V.same (ws' := (KWd G (a 4) (f 0) K0 ++ (KWd G (a 6) (f 2) K2 ++ (ULd G 10 ua ub Us ++ (PLx G (aNp A) pa pb Ps (aQp A j) ++ (QLx G (aNq A) qa qb (fun j => pa (aQp A j)) Zs j))))) ++ (CWd G o a RP RQ RU S ++ (KWd G (a 5) (f 1) K1 ++ (PWd G (pa (aQp A j)) (pb (aQp A j)) (Ps (aQp A j)) ++ (QWd G (qa j) (qb j) (pa (aQp A j)) (Zs j)))))) (by simp only [List.append_assoc]) ?_
        refine v_callV (pc := 30) (st := []) (q0 := 0) (wr := (KWd G (a 4) (f 0) K0 ++ (KWd G (a 6) (f 2) K2 ++ (ULd G 10 ua ub Us ++ (PLx G (aNp A) pa pb Ps (aQp A j) ++ (QLx G (aNq A) qa qb (fun j => pa (aQp A j)) Zs j)))))) C (kX4_listChoices G o (pa (aQp A j)) (qa j) a (f 1) (pb (aQp A j)) (qb j) RP RQ RU S K1 (Ps (aQp A j)) (Zs j) (fun m => ansA A j (nI m)) (qZ A j) (hA j hj)) ykX4_listChoices cvX4_listChoices kw2_116 dX4_choice_30 rfl rfl rfl rfl rfl (by decide) (Nat.le_of_ble_eq_true rfl) (by decide) rfl (Ri_kk (fun r_30 u_30 h_30 => ?_))
        obtain ⟨er_30, ⟨t, s, eS_30, hts⟩, hQ_30⟩ := h_30
        rw [← chK_chF] at er_30
        subst er_30
        rw [eS_30]
        refine V.same (ws' := (KWd G (a 4) (f 0) K0 ++ (KWd G (a 6) (f 2) K2 ++ (ULd G 10 ua ub Us ++ (PLx G (aNp A) pa pb Ps (aQp A j) ++ (QLx G (aNq A) qa qb (fun j => pa (aQp A j)) Zs j ++ (CWd G o a RP RQ RU (sA (sA S 7 t) 8 s) ++ (KWd G (a 5) (f 1) u_30.2.1 ++ (PWd G (pa (aQp A j)) (pb (aQp A j)) (Ps (aQp A j)) ++ (QWd G (qa j) (qb j) (pa (aQp A j)) u_30.2.2)))))))))) (by simp only [List.append_assoc]) ?_
        refine V.perm (ws' := (KWd G (a 6) (f 2) K2 ++ (ULd G 10 ua ub Us ++ (PLx G (aNp A) pa pb Ps (aQp A j) ++ (QLx G (aNq A) qa qb (fun j => pa (aQp A j)) Zs j ++ (CWd G o a RP RQ RU (sA (sA S 7 t) 8 s) ++ (KWd G (a 5) (f 1) u_30.2.1 ++ (PWd G (pa (aQp A j)) (pb (aQp A j)) (Ps (aQp A j)) ++ (QWd G (qa j) (qb j) (pa (aQp A j)) u_30.2.2 ++ (KWd G (a 4) (f 0) K0)))))))))) ((List.perm_append_comm).trans (List.Perm.of_eq (by simp only [List.append_assoc]))) ?_
        refine V.perm (ws' := (KWd G (a 6) (f 2) K2 ++ (ULd G 10 ua ub Us ++ (PLx G (aNp A) pa pb Ps (aQp A j) ++ (QLx G (aNq A) qa qb (fun j => pa (aQp A j)) Zs j ++ (CWd G o a RP RQ RU (sA (sA S 7 t) 8 s) ++ (PWd G (pa (aQp A j)) (pb (aQp A j)) (Ps (aQp A j)) ++ (QWd G (qa j) (qb j) (pa (aQp A j)) u_30.2.2 ++ (KWd G (a 4) (f 0) K0 ++ (KWd G (a 5) (f 1) u_30.2.1)))))))))) ((List.Perm.append_left _ (List.Perm.append_left _ (List.Perm.append_left _ (List.Perm.append_left _ (List.Perm.append_left _ (List.perm_append_comm)))))).trans (List.Perm.of_eq (by simp only [List.append_assoc]))) ?_
        refine V.perm (ws' := (ULd G 10 ua ub Us ++ (PLx G (aNp A) pa pb Ps (aQp A j) ++ (QLx G (aNq A) qa qb (fun j => pa (aQp A j)) Zs j ++ (CWd G o a RP RQ RU (sA (sA S 7 t) 8 s) ++ (PWd G (pa (aQp A j)) (pb (aQp A j)) (Ps (aQp A j)) ++ (QWd G (qa j) (qb j) (pa (aQp A j)) u_30.2.2 ++ (KWd G (a 4) (f 0) K0 ++ (KWd G (a 5) (f 1) u_30.2.1 ++ (KWd G (a 6) (f 2) K2)))))))))) ((List.perm_append_comm).trans (List.Perm.of_eq (by simp only [List.append_assoc]))) ?_
        refine V.perm (ws' := (ULd G 10 ua ub Us ++ (PLx G (aNp A) pa pb Ps (aQp A j) ++ (QLx G (aNq A) qa qb (fun j => pa (aQp A j)) Zs j ++ (CWd G o a RP RQ RU (sA (sA S 7 t) 8 s) ++ (PWd G (pa (aQp A j)) (pb (aQp A j)) (Ps (aQp A j)) ++ (KWd G (a 4) (f 0) K0 ++ (KWd G (a 5) (f 1) u_30.2.1 ++ (KWd G (a 6) (f 2) K2 ++ (QWd G (qa j) (qb j) (pa (aQp A j)) u_30.2.2)))))))))) ((List.Perm.append_left _ (List.Perm.append_left _ (List.Perm.append_left _ (List.Perm.append_left _ (List.Perm.append_left _ (List.perm_append_comm)))))).trans (List.Perm.of_eq (by simp only [List.append_assoc]))) ?_
        refine V.perm (ws' := (ULd G 10 ua ub Us ++ (PLx G (aNp A) pa pb Ps (aQp A j) ++ (QLx G (aNq A) qa qb (fun j => pa (aQp A j)) Zs j ++ (CWd G o a RP RQ RU (sA (sA S 7 t) 8 s) ++ (KWd G (a 4) (f 0) K0 ++ (KWd G (a 5) (f 1) u_30.2.1 ++ (KWd G (a 6) (f 2) K2 ++ (QWd G (qa j) (qb j) (pa (aQp A j)) u_30.2.2 ++ (PWd G (pa (aQp A j)) (pb (aQp A j)) (Ps (aQp A j)))))))))))) ((List.Perm.append_left _ (List.Perm.append_left _ (List.Perm.append_left _ (List.Perm.append_left _ (List.perm_append_comm))))).trans (List.Perm.of_eq (by simp only [List.append_assoc]))) ?_
        refine V.perm (ws' := (PLx G (aNp A) pa pb Ps (aQp A j) ++ (QLx G (aNq A) qa qb (fun j => pa (aQp A j)) Zs j ++ (CWd G o a RP RQ RU (sA (sA S 7 t) 8 s) ++ (KWd G (a 4) (f 0) K0 ++ (KWd G (a 5) (f 1) u_30.2.1 ++ (KWd G (a 6) (f 2) K2 ++ (QWd G (qa j) (qb j) (pa (aQp A j)) u_30.2.2 ++ (PWd G (pa (aQp A j)) (pb (aQp A j)) (Ps (aQp A j)) ++ (ULd G 10 ua ub Us)))))))))) ((List.perm_append_comm).trans (List.Perm.of_eq (by simp only [List.append_assoc]))) ?_
        refine V.perm (ws' := (QLx G (aNq A) qa qb (fun j => pa (aQp A j)) Zs j ++ (CWd G o a RP RQ RU (sA (sA S 7 t) 8 s) ++ (KWd G (a 4) (f 0) K0 ++ (KWd G (a 5) (f 1) u_30.2.1 ++ (KWd G (a 6) (f 2) K2 ++ (QWd G (qa j) (qb j) (pa (aQp A j)) u_30.2.2 ++ (PWd G (pa (aQp A j)) (pb (aQp A j)) (Ps (aQp A j)) ++ (ULd G 10 ua ub Us ++ (PLx G (aNp A) pa pb Ps (aQp A j))))))))))) ((List.perm_append_comm).trans (List.Perm.of_eq (by simp only [List.append_assoc]))) ?_
        refine V.perm (ws' := (CWd G o a RP RQ RU (sA (sA S 7 t) 8 s) ++ (KWd G (a 4) (f 0) K0 ++ (KWd G (a 5) (f 1) u_30.2.1 ++ (KWd G (a 6) (f 2) K2 ++ (QWd G (qa j) (qb j) (pa (aQp A j)) u_30.2.2 ++ (PWd G (pa (aQp A j)) (pb (aQp A j)) (Ps (aQp A j)) ++ (ULd G 10 ua ub Us ++ (PLx G (aNp A) pa pb Ps (aQp A j) ++ (QLx G (aNq A) qa qb (fun j => pa (aQp A j)) Zs j)))))))))) ((List.perm_append_comm).trans (List.Perm.of_eq (by simp only [List.append_assoc]))) ?_
        refine v_pop (pc := 33) C dX4_choice_33 rfl ?_
        refine v_iload_n (pc := 34) C dX4_choice_34 rfl ?_
        by_cases sw_35_0 : (w) = 0
        · refine v_cv (y := 0) sw_35_0 ?_
          refine v_lookup (pc := 35) (tgt := 60) C dX4_choice_35 (by decide) rfl (by decide) ?_
          refine v_aload_n (pc := 60) C dX4_choice_60 rfl ?_
          refine v_get (pc := 61) (v := .ref (a 7)) C inX4 0 rfl rfl 7 (by decide) kw1_89 rfl dX4_choice_61 ?_
          refine v_iload_n (pc := 64) C dX4_choice_64 rfl ?_
          refine v_ialdN (pc := 65) (i := (k)) (f := t) C 5 rfl (by omega) (by decide) dX4_choice_65 ?_
          refine V.perm (ws' := (CWd G o a RP RQ RU (sA (sA S 7 t) 8 s) ++ (KWd G (a 4) (f 0) K0 ++ (KWd G (a 5) (f 1) u_30.2.1 ++ (KWd G (a 6) (f 2) K2 ++ (PWd G (pa (aQp A j)) (pb (aQp A j)) (Ps (aQp A j)) ++ (ULd G 10 ua ub Us ++ (PLx G (aNp A) pa pb Ps (aQp A j) ++ (QLx G (aNq A) qa qb (fun j => pa (aQp A j)) Zs j ++ (QWd G (qa j) (qb j) (pa (aQp A j)) u_30.2.2)))))))))) ((List.Perm.append_left _ (List.Perm.append_left _ (List.Perm.append_left _ (List.Perm.append_left _ (List.perm_append_comm))))).trans (List.Perm.of_eq (by simp only [List.append_assoc]))) ?_
          refine V.perm (ws' := (CWd G o a RP RQ RU (sA (sA S 7 t) 8 s) ++ (KWd G (a 4) (f 0) K0 ++ (KWd G (a 5) (f 1) u_30.2.1 ++ (KWd G (a 6) (f 2) K2 ++ (PWd G (pa (aQp A j)) (pb (aQp A j)) (Ps (aQp A j)) ++ (ULd G 10 ua ub Us ++ (PLx G (aNp A) pa pb Ps (aQp A j) ++ (QLd G (aNq A) qa qb (fun j => pa (aQp A j)) (va_up Zs j u_30.2.2)))))))))) (List.Perm.append_left _ (List.Perm.append_left _ (List.Perm.append_left _ (List.Perm.append_left _ (List.Perm.append_left _ (List.Perm.append_left _ (List.Perm.append_left _ (QL_back hj u_30.2.2)))))))) ?_
          refine V.perm (ws' := (CWd G o a RP RQ RU (sA (sA S 7 t) 8 s) ++ (KWd G (a 4) (f 0) K0 ++ (KWd G (a 5) (f 1) u_30.2.1 ++ (KWd G (a 6) (f 2) K2 ++ (PWd G (pa (aQp A j)) (pb (aQp A j)) (Ps (aQp A j)) ++ (ULd G 10 ua ub Us ++ (QLd G (aNq A) qa qb (fun j => pa (aQp A j)) (va_up Zs j u_30.2.2) ++ (PLx G (aNp A) pa pb Ps (aQp A j)))))))))) ((List.Perm.append_left _ (List.Perm.append_left _ (List.Perm.append_left _ (List.Perm.append_left _ (List.Perm.append_left _ (List.Perm.append_left _ (List.perm_append_comm))))))).trans (List.Perm.of_eq (by simp only [List.append_assoc]))) ?_
          refine V.perm (ws' := (CWd G o a RP RQ RU (sA (sA S 7 t) 8 s) ++ (KWd G (a 4) (f 0) K0 ++ (KWd G (a 5) (f 1) u_30.2.1 ++ (KWd G (a 6) (f 2) K2 ++ (ULd G 10 ua ub Us ++ (QLd G (aNq A) qa qb (fun j => pa (aQp A j)) (va_up Zs j u_30.2.2) ++ (PLx G (aNp A) pa pb Ps (aQp A j) ++ (PWd G (pa (aQp A j)) (pb (aQp A j)) (Ps (aQp A j))))))))))) ((List.Perm.append_left _ (List.Perm.append_left _ (List.Perm.append_left _ (List.Perm.append_left _ (List.perm_append_comm))))).trans (List.Perm.of_eq (by simp only [List.append_assoc]))) ?_
          refine V.perm (ws' := (CWd G o a RP RQ RU (sA (sA S 7 t) 8 s) ++ (KWd G (a 4) (f 0) K0 ++ (KWd G (a 5) (f 1) u_30.2.1 ++ (KWd G (a 6) (f 2) K2 ++ (ULd G 10 ua ub Us ++ (QLd G (aNq A) qa qb (fun j => pa (aQp A j)) (va_up Zs j u_30.2.2) ++ (PLd G (aNp A) pa pb Ps)))))))) (List.Perm.append_left _ (List.Perm.append_left _ (List.Perm.append_left _ (List.Perm.append_left _ (List.Perm.append_left _ (List.Perm.append_left _ (PL_same (hI.2.2.2.2.2.1 j hj).1))))))) ?_
          refine V.perm (ws' := (CWd G o a RP RQ RU (sA (sA S 7 t) 8 s) ++ (KWd G (a 4) (f 0) K0 ++ (KWd G (a 5) (f 1) u_30.2.1 ++ (KWd G (a 6) (f 2) K2 ++ (ULd G 10 ua ub Us ++ (PLd G (aNp A) pa pb Ps ++ (QLd G (aNq A) qa qb (fun j => pa (aQp A j)) (va_up Zs j u_30.2.2))))))))) ((List.Perm.append_left _ (List.Perm.append_left _ (List.Perm.append_left _ (List.Perm.append_left _ (List.Perm.append_left _ (List.perm_append_comm)))))).trans (List.Perm.of_eq (by simp only [List.append_assoc]))) ?_
          subst hQ
          exact v_iret (pc := 66) C dX4_choice_66 (rfl) ((A, ((sA (sA S 7 t) 8 s), K0, u_30.2.1, K2, Us, Ps, (va_up Zs j u_30.2.2), RP, RQ, pa, pb, qa, qb))) rfl (⟨by rw [choice_at (by omega) (by omega)]; rw [if_neg (by rw [sw_35_0]; decide), if_pos sw_35_0]; exact (ch_at hch hcl hk hts).1, rfl, hS, hP, QAll_up hA hQ_30, hU, hRP, hRQ, hRU⟩)
        by_cases sw_35_1 : (w) = 1
        · refine v_cv (y := 1) sw_35_1 ?_
          refine v_lookup (pc := 35) (tgt := 67) C dX4_choice_35 (by decide) rfl (by decide) ?_
          refine v_aload_n (pc := 67) C dX4_choice_67 rfl ?_
          refine v_get (pc := 68) (v := .ref (a 8)) C inX4 0 rfl rfl 8 (by decide) kw1_90 rfl dX4_choice_68 ?_
          refine v_iload_n (pc := 71) C dX4_choice_71 rfl ?_
          refine v_ialdN (pc := 72) (i := (k)) (f := s) C 6 rfl (by omega) (by decide) dX4_choice_72 ?_
          refine V.perm (ws' := (CWd G o a RP RQ RU (sA (sA S 7 t) 8 s) ++ (KWd G (a 4) (f 0) K0 ++ (KWd G (a 5) (f 1) u_30.2.1 ++ (KWd G (a 6) (f 2) K2 ++ (PWd G (pa (aQp A j)) (pb (aQp A j)) (Ps (aQp A j)) ++ (ULd G 10 ua ub Us ++ (PLx G (aNp A) pa pb Ps (aQp A j) ++ (QLx G (aNq A) qa qb (fun j => pa (aQp A j)) Zs j ++ (QWd G (qa j) (qb j) (pa (aQp A j)) u_30.2.2)))))))))) ((List.Perm.append_left _ (List.Perm.append_left _ (List.Perm.append_left _ (List.Perm.append_left _ (List.perm_append_comm))))).trans (List.Perm.of_eq (by simp only [List.append_assoc]))) ?_
          refine V.perm (ws' := (CWd G o a RP RQ RU (sA (sA S 7 t) 8 s) ++ (KWd G (a 4) (f 0) K0 ++ (KWd G (a 5) (f 1) u_30.2.1 ++ (KWd G (a 6) (f 2) K2 ++ (PWd G (pa (aQp A j)) (pb (aQp A j)) (Ps (aQp A j)) ++ (ULd G 10 ua ub Us ++ (PLx G (aNp A) pa pb Ps (aQp A j) ++ (QLd G (aNq A) qa qb (fun j => pa (aQp A j)) (va_up Zs j u_30.2.2)))))))))) (List.Perm.append_left _ (List.Perm.append_left _ (List.Perm.append_left _ (List.Perm.append_left _ (List.Perm.append_left _ (List.Perm.append_left _ (List.Perm.append_left _ (QL_back hj u_30.2.2)))))))) ?_
          refine V.perm (ws' := (CWd G o a RP RQ RU (sA (sA S 7 t) 8 s) ++ (KWd G (a 4) (f 0) K0 ++ (KWd G (a 5) (f 1) u_30.2.1 ++ (KWd G (a 6) (f 2) K2 ++ (PWd G (pa (aQp A j)) (pb (aQp A j)) (Ps (aQp A j)) ++ (ULd G 10 ua ub Us ++ (QLd G (aNq A) qa qb (fun j => pa (aQp A j)) (va_up Zs j u_30.2.2) ++ (PLx G (aNp A) pa pb Ps (aQp A j)))))))))) ((List.Perm.append_left _ (List.Perm.append_left _ (List.Perm.append_left _ (List.Perm.append_left _ (List.Perm.append_left _ (List.Perm.append_left _ (List.perm_append_comm))))))).trans (List.Perm.of_eq (by simp only [List.append_assoc]))) ?_
          refine V.perm (ws' := (CWd G o a RP RQ RU (sA (sA S 7 t) 8 s) ++ (KWd G (a 4) (f 0) K0 ++ (KWd G (a 5) (f 1) u_30.2.1 ++ (KWd G (a 6) (f 2) K2 ++ (ULd G 10 ua ub Us ++ (QLd G (aNq A) qa qb (fun j => pa (aQp A j)) (va_up Zs j u_30.2.2) ++ (PLx G (aNp A) pa pb Ps (aQp A j) ++ (PWd G (pa (aQp A j)) (pb (aQp A j)) (Ps (aQp A j))))))))))) ((List.Perm.append_left _ (List.Perm.append_left _ (List.Perm.append_left _ (List.Perm.append_left _ (List.perm_append_comm))))).trans (List.Perm.of_eq (by simp only [List.append_assoc]))) ?_
          refine V.perm (ws' := (CWd G o a RP RQ RU (sA (sA S 7 t) 8 s) ++ (KWd G (a 4) (f 0) K0 ++ (KWd G (a 5) (f 1) u_30.2.1 ++ (KWd G (a 6) (f 2) K2 ++ (ULd G 10 ua ub Us ++ (QLd G (aNq A) qa qb (fun j => pa (aQp A j)) (va_up Zs j u_30.2.2) ++ (PLd G (aNp A) pa pb Ps)))))))) (List.Perm.append_left _ (List.Perm.append_left _ (List.Perm.append_left _ (List.Perm.append_left _ (List.Perm.append_left _ (List.Perm.append_left _ (PL_same (hI.2.2.2.2.2.1 j hj).1))))))) ?_
          refine V.perm (ws' := (CWd G o a RP RQ RU (sA (sA S 7 t) 8 s) ++ (KWd G (a 4) (f 0) K0 ++ (KWd G (a 5) (f 1) u_30.2.1 ++ (KWd G (a 6) (f 2) K2 ++ (ULd G 10 ua ub Us ++ (PLd G (aNp A) pa pb Ps ++ (QLd G (aNq A) qa qb (fun j => pa (aQp A j)) (va_up Zs j u_30.2.2))))))))) ((List.Perm.append_left _ (List.Perm.append_left _ (List.Perm.append_left _ (List.Perm.append_left _ (List.Perm.append_left _ (List.perm_append_comm)))))).trans (List.Perm.of_eq (by simp only [List.append_assoc]))) ?_
          subst hQ
          exact v_iret (pc := 73) C dX4_choice_73 (rfl) ((A, ((sA (sA S 7 t) 8 s), K0, u_30.2.1, K2, Us, Ps, (va_up Zs j u_30.2.2), RP, RQ, pa, pb, qa, qb))) rfl (⟨by rw [choice_at (by omega) (by omega)]; rw [if_neg (by rw [sw_35_1]; decide), if_neg sw_35_0]; exact (ch_at hch hcl hk hts).2, rfl, hS, hP, QAll_up hA hQ_30, hU, hRP, hRQ, hRU⟩)
        refine v_lookup (pc := 35) (tgt := 74) C dX4_choice_35 (by decide) (lk_out sw_35_0 sw_35_1) (by decide) ?_
        refine v_ldc (pc := 74) C dX4_choice_74 kw1_220 ?_
        refine V.perm (ws' := (CWd G o a RP RQ RU (sA (sA S 7 t) 8 s) ++ (KWd G (a 4) (f 0) K0 ++ (KWd G (a 5) (f 1) u_30.2.1 ++ (KWd G (a 6) (f 2) K2 ++ (PWd G (pa (aQp A j)) (pb (aQp A j)) (Ps (aQp A j)) ++ (ULd G 10 ua ub Us ++ (PLx G (aNp A) pa pb Ps (aQp A j) ++ (QLx G (aNq A) qa qb (fun j => pa (aQp A j)) Zs j ++ (QWd G (qa j) (qb j) (pa (aQp A j)) u_30.2.2)))))))))) ((List.Perm.append_left _ (List.Perm.append_left _ (List.Perm.append_left _ (List.Perm.append_left _ (List.perm_append_comm))))).trans (List.Perm.of_eq (by simp only [List.append_assoc]))) ?_
        refine V.perm (ws' := (CWd G o a RP RQ RU (sA (sA S 7 t) 8 s) ++ (KWd G (a 4) (f 0) K0 ++ (KWd G (a 5) (f 1) u_30.2.1 ++ (KWd G (a 6) (f 2) K2 ++ (PWd G (pa (aQp A j)) (pb (aQp A j)) (Ps (aQp A j)) ++ (ULd G 10 ua ub Us ++ (PLx G (aNp A) pa pb Ps (aQp A j) ++ (QLd G (aNq A) qa qb (fun j => pa (aQp A j)) (va_up Zs j u_30.2.2)))))))))) (List.Perm.append_left _ (List.Perm.append_left _ (List.Perm.append_left _ (List.Perm.append_left _ (List.Perm.append_left _ (List.Perm.append_left _ (List.Perm.append_left _ (QL_back hj u_30.2.2)))))))) ?_
        refine V.perm (ws' := (CWd G o a RP RQ RU (sA (sA S 7 t) 8 s) ++ (KWd G (a 4) (f 0) K0 ++ (KWd G (a 5) (f 1) u_30.2.1 ++ (KWd G (a 6) (f 2) K2 ++ (PWd G (pa (aQp A j)) (pb (aQp A j)) (Ps (aQp A j)) ++ (ULd G 10 ua ub Us ++ (QLd G (aNq A) qa qb (fun j => pa (aQp A j)) (va_up Zs j u_30.2.2) ++ (PLx G (aNp A) pa pb Ps (aQp A j)))))))))) ((List.Perm.append_left _ (List.Perm.append_left _ (List.Perm.append_left _ (List.Perm.append_left _ (List.Perm.append_left _ (List.Perm.append_left _ (List.perm_append_comm))))))).trans (List.Perm.of_eq (by simp only [List.append_assoc]))) ?_
        refine V.perm (ws' := (CWd G o a RP RQ RU (sA (sA S 7 t) 8 s) ++ (KWd G (a 4) (f 0) K0 ++ (KWd G (a 5) (f 1) u_30.2.1 ++ (KWd G (a 6) (f 2) K2 ++ (ULd G 10 ua ub Us ++ (QLd G (aNq A) qa qb (fun j => pa (aQp A j)) (va_up Zs j u_30.2.2) ++ (PLx G (aNp A) pa pb Ps (aQp A j) ++ (PWd G (pa (aQp A j)) (pb (aQp A j)) (Ps (aQp A j))))))))))) ((List.Perm.append_left _ (List.Perm.append_left _ (List.Perm.append_left _ (List.Perm.append_left _ (List.perm_append_comm))))).trans (List.Perm.of_eq (by simp only [List.append_assoc]))) ?_
        refine V.perm (ws' := (CWd G o a RP RQ RU (sA (sA S 7 t) 8 s) ++ (KWd G (a 4) (f 0) K0 ++ (KWd G (a 5) (f 1) u_30.2.1 ++ (KWd G (a 6) (f 2) K2 ++ (ULd G 10 ua ub Us ++ (QLd G (aNq A) qa qb (fun j => pa (aQp A j)) (va_up Zs j u_30.2.2) ++ (PLd G (aNp A) pa pb Ps)))))))) (List.Perm.append_left _ (List.Perm.append_left _ (List.Perm.append_left _ (List.Perm.append_left _ (List.Perm.append_left _ (List.Perm.append_left _ (PL_same (hI.2.2.2.2.2.1 j hj).1))))))) ?_
        refine V.perm (ws' := (CWd G o a RP RQ RU (sA (sA S 7 t) 8 s) ++ (KWd G (a 4) (f 0) K0 ++ (KWd G (a 5) (f 1) u_30.2.1 ++ (KWd G (a 6) (f 2) K2 ++ (ULd G 10 ua ub Us ++ (PLd G (aNp A) pa pb Ps ++ (QLd G (aNq A) qa qb (fun j => pa (aQp A j)) (va_up Zs j u_30.2.2))))))))) ((List.Perm.append_left _ (List.Perm.append_left _ (List.Perm.append_left _ (List.Perm.append_left _ (List.Perm.append_left _ (List.perm_append_comm)))))).trans (List.Perm.of_eq (by simp only [List.append_assoc]))) ?_
        subst hQ
        exact v_iret (pc := 76) C dX4_choice_76 (rfl) ((A, ((sA (sA S 7 t) 8 s), K0, u_30.2.1, K2, Us, Ps, (va_up Zs j u_30.2.2), RP, RQ, pa, pb, qa, qb))) rfl (⟨by rw [choice_at (by omega) (by omega)]; rw [if_pos (w01' sw_35_0 sw_35_1)]; rfl, rfl, hS, hP, QAll_up hA hQ_30, hU, hRP, hRQ, hRU⟩)
      · refine v_ldc (pc := 25) C dX4_choice_25 kw1_220 ?_
        refine V.perm (ws' := (CWd G o a RP RQ RU S ++ (KWd G (a 4) (f 0) K0 ++ (KWd G (a 5) (f 1) K1 ++ (KWd G (a 6) (f 2) K2 ++ (PWd G (pa (aQp A j)) (pb (aQp A j)) (Ps (aQp A j)) ++ (ULd G 10 ua ub Us ++ (PLx G (aNp A) pa pb Ps (aQp A j) ++ (QLx G (aNq A) qa qb (fun j => pa (aQp A j)) Zs j ++ (QWd G (qa j) (qb j) (pa (aQp A j)) (Zs j))))))))))) ((List.Perm.append_left _ (List.Perm.append_left _ (List.Perm.append_left _ (List.Perm.append_left _ (List.perm_append_comm))))).trans (List.Perm.of_eq (by simp only [List.append_assoc]))) ?_
        refine V.perm (ws' := (CWd G o a RP RQ RU S ++ (KWd G (a 4) (f 0) K0 ++ (KWd G (a 5) (f 1) K1 ++ (KWd G (a 6) (f 2) K2 ++ (PWd G (pa (aQp A j)) (pb (aQp A j)) (Ps (aQp A j)) ++ (ULd G 10 ua ub Us ++ (PLx G (aNp A) pa pb Ps (aQp A j) ++ (QLd G (aNq A) qa qb (fun j => pa (aQp A j)) Zs))))))))) (List.Perm.append_left _ (List.Perm.append_left _ (List.Perm.append_left _ (List.Perm.append_left _ (List.Perm.append_left _ (List.Perm.append_left _ (List.Perm.append_left _ (QL_same hj)))))))) ?_
        refine V.perm (ws' := (CWd G o a RP RQ RU S ++ (KWd G (a 4) (f 0) K0 ++ (KWd G (a 5) (f 1) K1 ++ (KWd G (a 6) (f 2) K2 ++ (PWd G (pa (aQp A j)) (pb (aQp A j)) (Ps (aQp A j)) ++ (ULd G 10 ua ub Us ++ (QLd G (aNq A) qa qb (fun j => pa (aQp A j)) Zs ++ (PLx G (aNp A) pa pb Ps (aQp A j)))))))))) ((List.Perm.append_left _ (List.Perm.append_left _ (List.Perm.append_left _ (List.Perm.append_left _ (List.Perm.append_left _ (List.Perm.append_left _ (List.perm_append_comm))))))).trans (List.Perm.of_eq (by simp only [List.append_assoc]))) ?_
        refine V.perm (ws' := (CWd G o a RP RQ RU S ++ (KWd G (a 4) (f 0) K0 ++ (KWd G (a 5) (f 1) K1 ++ (KWd G (a 6) (f 2) K2 ++ (ULd G 10 ua ub Us ++ (QLd G (aNq A) qa qb (fun j => pa (aQp A j)) Zs ++ (PLx G (aNp A) pa pb Ps (aQp A j) ++ (PWd G (pa (aQp A j)) (pb (aQp A j)) (Ps (aQp A j))))))))))) ((List.Perm.append_left _ (List.Perm.append_left _ (List.Perm.append_left _ (List.Perm.append_left _ (List.perm_append_comm))))).trans (List.Perm.of_eq (by simp only [List.append_assoc]))) ?_
        refine V.perm (ws' := (CWd G o a RP RQ RU S ++ (KWd G (a 4) (f 0) K0 ++ (KWd G (a 5) (f 1) K1 ++ (KWd G (a 6) (f 2) K2 ++ (ULd G 10 ua ub Us ++ (QLd G (aNq A) qa qb (fun j => pa (aQp A j)) Zs ++ (PLd G (aNp A) pa pb Ps)))))))) (List.Perm.append_left _ (List.Perm.append_left _ (List.Perm.append_left _ (List.Perm.append_left _ (List.Perm.append_left _ (List.Perm.append_left _ (PL_same (hI.2.2.2.2.2.1 j hj).1))))))) ?_
        refine V.perm (ws' := (CWd G o a RP RQ RU S ++ (KWd G (a 4) (f 0) K0 ++ (KWd G (a 5) (f 1) K1 ++ (KWd G (a 6) (f 2) K2 ++ (ULd G 10 ua ub Us ++ (PLd G (aNp A) pa pb Ps ++ (QLd G (aNq A) qa qb (fun j => pa (aQp A j)) Zs)))))))) ((List.Perm.append_left _ (List.Perm.append_left _ (List.Perm.append_left _ (List.Perm.append_left _ (List.Perm.append_left _ (List.perm_append_comm)))))).trans (List.Perm.of_eq (by simp only [List.append_assoc]))) ?_
        subst hQ
        exact v_iret (pc := 27) C dX4_choice_27 (rfl) ((A, (S, K0, K1, K2, Us, Ps, Zs, RP, RQ, pa, pb, qa, qb))) rfl (⟨(choice_out (fun _ => by rw [hcl]; exact Int32.not_lt.mp c_22)).symm, rfl, hC⟩)
def rmX4_next : Room := { frames := 6, cells := 0, slots := 0, locals := 144 }
set_option maxHeartbeats 4000000 in
set_option maxRecDepth 100000 in
theorem kX4_next (G : TG) (o : Nat) (a : Nat → Nat) (f : Nat → Nat → Nat) (ua : Nat → Nat) (ub : Nat → Nat → Nat) (RP RQ RU : Nat → Option Nat) (S K0 K1 K2 : MS) (Us Ps Zs : Nat → MS) (pa qa : Nat → Nat) (pb qb : Nat → Nat → Nat) (A : AS) (hI : AInv A) (hC : CAll A RP RQ RU ua pa qa S K0 Us Ps Zs) (u : Int32) : CT G yX4_next cX4_next 8 (some .int) rmX4_next 0 0 [.ref (o), .int (u)] (CWd G o a RP RQ RU S ++ (KWd G (a 4) (f 0) K0 ++ (KWd G (a 5) (f 1) K1 ++ (KWd G (a 6) (f 2) K2 ++ (ULd G 10 ua ub Us ++ (PLd G (aNp A) pa pb Ps ++ (QLd G (aNq A) qa qb (fun j => pa (aQp A j)) Zs))))))) (fun u : AS × DS => DWd G o a f ua ub RU u.1 u.2) (Ri (fun r δ => r = s_next A u ∧ δ.1 = A ∧ CRel δ.1 RU ua δ.2)) := by
  refine CT.enter (by decide) (Nat.le_of_ble_eq_true rfl) (fun X C hnm => ?_)
  refine V.less [(0, .ref (o)), (1, .int (u))] ⟨rfl, rfl, trivial⟩ ?_
  generalize hQ : (QX G X (fun u : AS × DS => DWd G o a f ua ub RU u.1 u.2) (Ri (fun r δ => r = s_next A u ∧ δ.1 = A ∧ CRel δ.1 RU ua δ.2)) 0 0) = Qq
  have hnp := hI.1
  have hnq := hI.2.2.2.2.1
  obtain ⟨hS, hP, hA, hU, hRP, hRQ, hRU⟩ := id hC
  refine v_iload_n (pc := 0) C dX4_next_0 rfl ?_
  refine v_callS0 (pc := 1) (st := []) C (kX4_isPupil G _ u) ykX4_isPupil kw2_181 kw2_180 dX4_next_1 rfl rfl rfl (by decide) (Nat.le_of_ble_eq_true rfl) (by decide) rfl (Ri_kk (fun r_1 u_1 h_1 => ?_))
  rcases (is01 (x := 10) (n := 10) (by omega) rfl h_1) with ⟨b_u, rfl⟩ | ⟨e, he, rfl, rfl⟩
  · refine v_if_neF (pc := 4) (tgt := 9) C (by decide) dX4_next_4 (by decide) ?_
    refine v_iconst (pc := 7) (v := (-1)) C dX4_next_7 (by decide) ?_
    subst hQ
    exact v_iret (pc := 8) C dX4_next_8 (rfl) ((A, (S, K0, K1, K2, Us, Ps, Zs, RP, RQ, pa, pb, qa, qb))) rfl (⟨by unfold s_next; rw [if_pos b_u], rfl, hC⟩)
  · refine V.perm (ws' := (CWd G o a RP RQ RU S ++ (KWd G (a 4) (f 0) K0 ++ (KWd G (a 5) (f 1) K1 ++ (KWd G (a 6) (f 2) K2 ++ (ULx G 10 ua ub Us e ++ (UWd G (ua e) (ub e) (Us e) ++ (PLd G (aNp A) pa pb Ps ++ (QLd G (aNq A) qa qb (fun j => pa (aQp A j)) Zs))))))))) ((List.Perm.append_left _ (List.Perm.append_left _ (List.Perm.append_left _ (List.Perm.append_left _ (List.Perm.append_right _ (UL_focus he)))))).trans (List.Perm.of_eq (by simp only [List.append_assoc]))) ?_
    refine V.perm (ws' := (CWd G o a RP RQ RU S ++ (KWd G (a 4) (f 0) K0 ++ (KWd G (a 5) (f 1) K1 ++ (KWd G (a 6) (f 2) K2 ++ (UWd G (ua e) (ub e) (Us e) ++ (PLd G (aNp A) pa pb Ps ++ (QLd G (aNq A) qa qb (fun j => pa (aQp A j)) Zs ++ (ULx G 10 ua ub Us e))))))))) ((List.Perm.append_left _ (List.Perm.append_left _ (List.Perm.append_left _ (List.Perm.append_left _ (List.perm_append_comm))))).trans (List.Perm.of_eq (by simp only [List.append_assoc]))) ?_
    refine V.perm (ws' := (CWd G o a RP RQ RU S ++ (KWd G (a 4) (f 0) K0 ++ (KWd G (a 5) (f 1) K1 ++ (KWd G (a 6) (f 2) K2 ++ (UWd G (ua e) (ub e) (Us e) ++ (QLd G (aNq A) qa qb (fun j => pa (aQp A j)) Zs ++ (ULx G 10 ua ub Us e ++ (PLd G (aNp A) pa pb Ps))))))))) ((List.Perm.append_left _ (List.Perm.append_left _ (List.Perm.append_left _ (List.Perm.append_left _ (List.Perm.append_left _ (List.perm_append_comm)))))).trans (List.Perm.of_eq (by simp only [List.append_assoc]))) ?_
    refine V.perm (ws' := (CWd G o a RP RQ RU S ++ (KWd G (a 4) (f 0) K0 ++ (KWd G (a 5) (f 1) K1 ++ (KWd G (a 6) (f 2) K2 ++ (UWd G (ua e) (ub e) (Us e) ++ (ULx G 10 ua ub Us e ++ (PLd G (aNp A) pa pb Ps ++ (QLd G (aNq A) qa qb (fun j => pa (aQp A j)) Zs))))))))) ((List.Perm.append_left _ (List.Perm.append_left _ (List.Perm.append_left _ (List.Perm.append_left _ (List.Perm.append_left _ (List.perm_append_comm)))))).trans (List.Perm.of_eq (by simp only [List.append_assoc]))) ?_
    refine v_if_neT (pc := 4) (tgt := 9) C (by decide) dX4_next_4 (by decide) ?_
    refine v_aload_n (pc := 9) C dX4_next_9 rfl ?_
    refine v_aload_n (pc := 10) C dX4_next_10 rfl ?_
    refine v_get (pc := 11) (v := .ref (a 2)) C inX4 0 rfl rfl 2 (by decide) kw1_84 rfl dX4_next_11 ?_
    refine v_iload_n (pc := 14) C dX4_next_14 rfl ?_
    refine v_aald (pc := 15) (i := (e)) C 3 5 rfl rfl (by omega) (by decide) dX4_next_15 ?_
    refine v_rfs (hRU e he) ?_
    refine V.perm (ws' := (KWd G (a 4) (f 0) K0 ++ (KWd G (a 5) (f 1) K1 ++ (KWd G (a 6) (f 2) K2 ++ (UWd G (ua e) (ub e) (Us e) ++ (ULx G 10 ua ub Us e ++ (PLd G (aNp A) pa pb Ps ++ (QLd G (aNq A) qa qb (fun j => pa (aQp A j)) Zs ++ (CWd G o a RP RQ RU S))))))))) ((List.perm_append_comm).trans (List.Perm.of_eq (by simp only [List.append_assoc]))) ?_
    refine V.perm (ws' := (KWd G (a 4) (f 0) K0 ++ (KWd G (a 6) (f 2) K2 ++ (UWd G (ua e) (ub e) (Us e) ++ (ULx G 10 ua ub Us e ++ (PLd G (aNp A) pa pb Ps ++ (QLd G (aNq A) qa qb (fun j => pa (aQp A j)) Zs ++ (CWd G o a RP RQ RU S ++ (KWd G (a 5) (f 1) K1))))))))) ((List.Perm.append_left _ (List.perm_append_comm)).trans (List.Perm.of_eq (by simp only [List.append_assoc]))) ?_
    refine V.perm (ws' := (KWd G (a 4) (f 0) K0 ++ (KWd G (a 6) (f 2) K2 ++ (ULx G 10 ua ub Us e ++ (PLd G (aNp A) pa pb Ps ++ (QLd G (aNq A) qa qb (fun j => pa (aQp A j)) Zs ++ (CWd G o a RP RQ RU S ++ (KWd G (a 5) (f 1) K1 ++ (UWd G (ua e) (ub e) (Us e)))))))))) ((List.Perm.append_left _ (List.Perm.append_left _ (List.perm_append_comm))).trans (List.Perm.of_eq (by simp only [List.append_assoc]))) ?_
    refine V.perm (ws' := (KWd G (a 4) (f 0) K0 ++ (KWd G (a 6) (f 2) K2 ++ (ULx G 10 ua ub Us e ++ (QLd G (aNq A) qa qb (fun j => pa (aQp A j)) Zs ++ (CWd G o a RP RQ RU S ++ (KWd G (a 5) (f 1) K1 ++ (UWd G (ua e) (ub e) (Us e) ++ (PLd G (aNp A) pa pb Ps))))))))) ((List.Perm.append_left _ (List.Perm.append_left _ (List.Perm.append_left _ (List.perm_append_comm)))).trans (List.Perm.of_eq (by simp only [List.append_assoc]))) ?_
    refine V.perm (ws' := (KWd G (a 4) (f 0) K0 ++ (KWd G (a 6) (f 2) K2 ++ (ULx G 10 ua ub Us e ++ (CWd G o a RP RQ RU S ++ (KWd G (a 5) (f 1) K1 ++ (UWd G (ua e) (ub e) (Us e) ++ (PLd G (aNp A) pa pb Ps ++ (QLd G (aNq A) qa qb (fun j => pa (aQp A j)) Zs))))))))) ((List.Perm.append_left _ (List.Perm.append_left _ (List.Perm.append_left _ (List.perm_append_comm)))).trans (List.Perm.of_eq (by simp only [List.append_assoc]))) ?_
    refine V.same (ws' := (KWd G (a 4) (f 0) K0 ++ (KWd G (a 6) (f 2) K2 ++ (ULx G 10 ua ub Us e))) ++ (CWd G o a RP RQ RU S ++ (KWd G (a 5) (f 1) K1 ++ (UWd G (ua e) (ub e) (Us e) ++ (PLd G (aNp A) pa pb Ps ++ (QLd G (aNq A) qa qb (fun j => pa (aQp A j)) Zs)))))) (by simp only [List.append_assoc]) ?_
    refine v_callV (pc := 16) (st := []) (q0 := 0) (wr := (KWd G (a 4) (f 0) K0 ++ (KWd G (a 6) (f 2) K2 ++ (ULx G 10 ua ub Us e)))) C (kX4_findSets G o (ua e) a (f 1) (ub e) RP RQ RU S K1 (Us e) pa qa pb qb Ps Zs A hI hA hS.1 hRQ e (hU e he)) ykX4_findSets cvX4_findSets kw2_215 dX4_next_16 rfl rfl rfl rfl rfl (by decide) (Nat.le_of_ble_eq_true rfl) (by decide) rfl (Rl_kk (fun r_16 u_16 h_16 => ?_))
    obtain ⟨hbl, hA_16⟩ := h_16
    refine V.same (ws' := (KWd G (a 4) (f 0) K0 ++ (KWd G (a 6) (f 2) K2 ++ (ULx G 10 ua ub Us e ++ (CWd G o a RP RQ RU S ++ (KWd G (a 5) (f 1) u_16.1 ++ (UWd G (ua e) (ub e) (Us e) ++ (PLd G (aNp A) pa pb Ps ++ (QLd G (aNq A) qa qb (fun j => pa (aQp A j)) u_16.2))))))))) (by simp only [List.append_assoc]) ?_
    refine V.perm (ws' := (KWd G (a 6) (f 2) K2 ++ (ULx G 10 ua ub Us e ++ (CWd G o a RP RQ RU S ++ (KWd G (a 5) (f 1) u_16.1 ++ (UWd G (ua e) (ub e) (Us e) ++ (PLd G (aNp A) pa pb Ps ++ (QLd G (aNq A) qa qb (fun j => pa (aQp A j)) u_16.2 ++ (KWd G (a 4) (f 0) K0))))))))) ((List.perm_append_comm).trans (List.Perm.of_eq (by simp only [List.append_assoc]))) ?_
    refine V.perm (ws' := (KWd G (a 6) (f 2) K2 ++ (ULx G 10 ua ub Us e ++ (CWd G o a RP RQ RU S ++ (UWd G (ua e) (ub e) (Us e) ++ (PLd G (aNp A) pa pb Ps ++ (QLd G (aNq A) qa qb (fun j => pa (aQp A j)) u_16.2 ++ (KWd G (a 4) (f 0) K0 ++ (KWd G (a 5) (f 1) u_16.1))))))))) ((List.Perm.append_left _ (List.Perm.append_left _ (List.Perm.append_left _ (List.perm_append_comm)))).trans (List.Perm.of_eq (by simp only [List.append_assoc]))) ?_
    refine V.perm (ws' := (ULx G 10 ua ub Us e ++ (CWd G o a RP RQ RU S ++ (UWd G (ua e) (ub e) (Us e) ++ (PLd G (aNp A) pa pb Ps ++ (QLd G (aNq A) qa qb (fun j => pa (aQp A j)) u_16.2 ++ (KWd G (a 4) (f 0) K0 ++ (KWd G (a 5) (f 1) u_16.1 ++ (KWd G (a 6) (f 2) K2))))))))) ((List.perm_append_comm).trans (List.Perm.of_eq (by simp only [List.append_assoc]))) ?_
    refine V.perm (ws' := (ULx G 10 ua ub Us e ++ (CWd G o a RP RQ RU S ++ (PLd G (aNp A) pa pb Ps ++ (QLd G (aNq A) qa qb (fun j => pa (aQp A j)) u_16.2 ++ (KWd G (a 4) (f 0) K0 ++ (KWd G (a 5) (f 1) u_16.1 ++ (KWd G (a 6) (f 2) K2 ++ (UWd G (ua e) (ub e) (Us e)))))))))) ((List.Perm.append_left _ (List.Perm.append_left _ (List.perm_append_comm))).trans (List.Perm.of_eq (by simp only [List.append_assoc]))) ?_
    refine V.perm (ws' := (CWd G o a RP RQ RU S ++ (PLd G (aNp A) pa pb Ps ++ (QLd G (aNq A) qa qb (fun j => pa (aQp A j)) u_16.2 ++ (KWd G (a 4) (f 0) K0 ++ (KWd G (a 5) (f 1) u_16.1 ++ (KWd G (a 6) (f 2) K2 ++ (UWd G (ua e) (ub e) (Us e) ++ (ULx G 10 ua ub Us e))))))))) ((List.perm_append_comm).trans (List.Perm.of_eq (by simp only [List.append_assoc]))) ?_
    refine V.perm (ws' := (CWd G o a RP RQ RU S ++ (QLd G (aNq A) qa qb (fun j => pa (aQp A j)) u_16.2 ++ (KWd G (a 4) (f 0) K0 ++ (KWd G (a 5) (f 1) u_16.1 ++ (KWd G (a 6) (f 2) K2 ++ (UWd G (ua e) (ub e) (Us e) ++ (ULx G 10 ua ub Us e ++ (PLd G (aNp A) pa pb Ps))))))))) ((List.Perm.append_left _ (List.perm_append_comm)).trans (List.Perm.of_eq (by simp only [List.append_assoc]))) ?_
    refine V.perm (ws' := (CWd G o a RP RQ RU S ++ (KWd G (a 4) (f 0) K0 ++ (KWd G (a 5) (f 1) u_16.1 ++ (KWd G (a 6) (f 2) K2 ++ (UWd G (ua e) (ub e) (Us e) ++ (ULx G 10 ua ub Us e ++ (PLd G (aNp A) pa pb Ps ++ (QLd G (aNq A) qa qb (fun j => pa (aQp A j)) u_16.2))))))))) ((List.Perm.append_left _ (List.perm_append_comm)).trans (List.Perm.of_eq (by simp only [List.append_assoc]))) ?_
    refine v_lstore_n (pc := 19) C dX4_next_19 (by decide) ?_
    refine v_bipush (pc := 20) (v := (-5)) C dX4_next_20 (by decide) ?_
    refine v_istore (pc := 22) C dX4_next_22 (by decide) ?_
    refine v_bipush (pc := 24) (v := 65) C dX4_next_24 (by decide) ?_
    refine v_istore (pc := 26) C dX4_next_26 (by decide) ?_
    refine v_iconst (pc := 28) (v := 0) C dX4_next_28 (by decide) ?_
    refine v_istore (pc := 29) C dX4_next_29 (by decide) ?_
    have L31 : ∀ (fu : Nat) (q : Nat) (b : Int32) (l : Nat) (t9 : Nat → Int32) (K1v : MS) (Zv : Nat → MS), (aNq A < q + fu) → (q ≤ aNq A) → (b = (nxK A e (setL A e) q).1) → (((nxK A e (setL A e) q).1 < 0 → l = 65) ∧ (¬ (nxK A e (setL A e) q).1 < 0 → l = (nxK A e (setL A e) q).2)) → (l ≤ 65) → (QAll A Ps Zv) → V G X cX4_next 8 rmX4_next Qq 0 0 31 (lvo [(0, .ref (o)), (1, .int (nI (e))), (2, .long (r_16)), (4, .int (b)), (5, .int (nI (l))), (6, .int (nI (q)))]) [] (CWd G o a RP RQ RU (sA S 9 t9) ++ (KWd G (a 4) (f 0) K0 ++ (KWd G (a 5) (f 1) K1v ++ (KWd G (a 6) (f 2) K2 ++ (UWd G (ua e) (ub e) (Us e) ++ (ULx G 10 ua ub Us e ++ (PLd G (aNp A) pa pb Ps ++ (QLd G (aNq A) qa qb (fun j => pa (aQp A j)) Zv)))))))) := by
      intro fu
      induction fu with
      | zero => intro q b l t9 K1v Zv hφ hq hb hl hl2 hA1; exfalso; omega
      | succ fu ih31 =>
        intro q b l t9 K1v Zv hφ hq hb hl hl2 hA1
        refine v_iload (pc := 31) C dX4_next_31 rfl ?_
        refine v_aload_n (pc := 33) C dX4_next_33 rfl ?_
        refine v_get (pc := 34) (v := .int (mI S 12)) C inX4 0 rfl rfl 12 (by decide) kw1_94 rfl dX4_next_34 ?_
        refine v_cv (y := (nI (aNq A))) (hS.1.2.1) ?_
        refine v_icmp_geN (pc := 37) (tgt := 93) C (q) (aNq A) rfl rfl (by omega) (by omega) dX4_next_37 (by decide) (fun c_37 => ?_) (fun c_37 => ?_)
        · refine v_iload (pc := 93) C dX4_next_93 rfl ?_
          refine V.perm (ws' := (CWd G o a RP RQ RU (sA S 9 t9) ++ (KWd G (a 4) (f 0) K0 ++ (KWd G (a 5) (f 1) K1v ++ (KWd G (a 6) (f 2) K2 ++ (UWd G (ua e) (ub e) (Us e) ++ (PLd G (aNp A) pa pb Ps ++ (QLd G (aNq A) qa qb (fun j => pa (aQp A j)) Zv ++ (ULx G 10 ua ub Us e))))))))) ((List.Perm.append_left _ (List.Perm.append_left _ (List.Perm.append_left _ (List.Perm.append_left _ (List.Perm.append_left _ (List.perm_append_comm)))))).trans (List.Perm.of_eq (by simp only [List.append_assoc]))) ?_
          refine V.perm (ws' := (CWd G o a RP RQ RU (sA S 9 t9) ++ (KWd G (a 4) (f 0) K0 ++ (KWd G (a 5) (f 1) K1v ++ (KWd G (a 6) (f 2) K2 ++ (PLd G (aNp A) pa pb Ps ++ (QLd G (aNq A) qa qb (fun j => pa (aQp A j)) Zv ++ (ULx G 10 ua ub Us e ++ (UWd G (ua e) (ub e) (Us e)))))))))) ((List.Perm.append_left _ (List.Perm.append_left _ (List.Perm.append_left _ (List.Perm.append_left _ (List.perm_append_comm))))).trans (List.Perm.of_eq (by simp only [List.append_assoc]))) ?_
          refine V.perm (ws' := (CWd G o a RP RQ RU (sA S 9 t9) ++ (KWd G (a 4) (f 0) K0 ++ (KWd G (a 5) (f 1) K1v ++ (KWd G (a 6) (f 2) K2 ++ (PLd G (aNp A) pa pb Ps ++ (QLd G (aNq A) qa qb (fun j => pa (aQp A j)) Zv ++ (ULd G 10 ua ub Us)))))))) (List.Perm.append_left _ (List.Perm.append_left _ (List.Perm.append_left _ (List.Perm.append_left _ (List.Perm.append_left _ (List.Perm.append_left _ (UL_same he))))))) ?_
          refine V.perm (ws' := (CWd G o a RP RQ RU (sA S 9 t9) ++ (KWd G (a 4) (f 0) K0 ++ (KWd G (a 5) (f 1) K1v ++ (KWd G (a 6) (f 2) K2 ++ (QLd G (aNq A) qa qb (fun j => pa (aQp A j)) Zv ++ (ULd G 10 ua ub Us ++ (PLd G (aNp A) pa pb Ps)))))))) ((List.Perm.append_left _ (List.Perm.append_left _ (List.Perm.append_left _ (List.Perm.append_left _ (List.perm_append_comm))))).trans (List.Perm.of_eq (by simp only [List.append_assoc]))) ?_
          refine V.perm (ws' := (CWd G o a RP RQ RU (sA S 9 t9) ++ (KWd G (a 4) (f 0) K0 ++ (KWd G (a 5) (f 1) K1v ++ (KWd G (a 6) (f 2) K2 ++ (ULd G 10 ua ub Us ++ (PLd G (aNp A) pa pb Ps ++ (QLd G (aNq A) qa qb (fun j => pa (aQp A j)) Zv)))))))) ((List.Perm.append_left _ (List.Perm.append_left _ (List.Perm.append_left _ (List.Perm.append_left _ (List.perm_append_comm))))).trans (List.Perm.of_eq (by simp only [List.append_assoc]))) ?_
          subst hQ
          exact v_iret (pc := 95) C dX4_next_95 (rfl) ((A, ((sA S 9 t9), K0, K1v, K2, Us, Ps, Zv, RP, RQ, pa, pb, qa, qb))) rfl (⟨by unfold s_next; rw [if_neg (nbad (n := 10) he (by omega)), tn_nI (n := e) (by omega), hb, show q = aNq A by omega], rfl, hS, hP, hA1, hU, hRP, hRQ, hRU⟩)
        · refine v_aload_n (pc := 40) C dX4_next_40 rfl ?_
          refine v_get (pc := 41) (v := .ref (a 2)) C inX4 0 rfl rfl 2 (by decide) kw1_84 rfl dX4_next_41 ?_
          refine v_iload_n (pc := 44) C dX4_next_44 rfl ?_
          refine v_aald (pc := 45) (i := (e)) C 3 5 rfl rfl (by omega) (by decide) dX4_next_45 ?_
          refine v_rfs (hRU e he) ?_
          refine v_iload (pc := 46) C dX4_next_46 rfl ?_
          refine V.perm (ws' := (CWd G o a RP RQ RU (sA S 9 t9) ++ (KWd G (a 4) (f 0) K0 ++ (KWd G (a 5) (f 1) K1v ++ (KWd G (a 6) (f 2) K2 ++ (ULx G 10 ua ub Us e ++ (PLd G (aNp A) pa pb Ps ++ (QLd G (aNq A) qa qb (fun j => pa (aQp A j)) Zv ++ (UWd G (ua e) (ub e) (Us e)))))))))) ((List.Perm.append_left _ (List.Perm.append_left _ (List.Perm.append_left _ (List.Perm.append_left _ (List.perm_append_comm))))).trans (List.Perm.of_eq (by simp only [List.append_assoc]))) ?_
          refine V.same (ws' := (CWd G o a RP RQ RU (sA S 9 t9) ++ (KWd G (a 4) (f 0) K0 ++ (KWd G (a 5) (f 1) K1v ++ (KWd G (a 6) (f 2) K2 ++ (ULx G 10 ua ub Us e ++ (PLd G (aNp A) pa pb Ps ++ (QLd G (aNq A) qa qb (fun j => pa (aQp A j)) Zv))))))) ++ (UWd G (ua e) (ub e) (Us e))) (by simp only [List.append_assoc]) ?_
          refine v_callVN (pc := 48) (st := []) (q0 := 0) (wr := (CWd G o a RP RQ RU (sA S 9 t9) ++ (KWd G (a 4) (f 0) K0 ++ (KWd G (a 5) (f 1) K1v ++ (KWd G (a 6) (f 2) K2 ++ (ULx G 10 ua ub Us e ++ (PLd G (aNp A) pa pb Ps ++ (QLd G (aNq A) qa qb (fun j => pa (aQp A j)) Zv)))))))) C (kX2_hasAnswered G (ua e) (ub e) (Us e) q (by omega)) ykX2_hasAnswered cvX2_hasAnswered nw_39 dX4_next_48 rfl rfl rfl rfl rfl (by decide) (Nat.le_of_ble_eq_true rfl) (by decide) rfl (Ri_kk (fun r_48 u_48 h_48 => ?_))
          obtain ⟨e_48, h_48⟩ := h_48
          rw [e_48]
          refine V.same (ws' := (CWd G o a RP RQ RU (sA S 9 t9) ++ (KWd G (a 4) (f 0) K0 ++ (KWd G (a 5) (f 1) K1v ++ (KWd G (a 6) (f 2) K2 ++ (ULx G 10 ua ub Us e ++ (PLd G (aNp A) pa pb Ps ++ (QLd G (aNq A) qa qb (fun j => pa (aQp A j)) Zv ++ (UWd G (ua e) (ub e) (Us e)))))))))) (by simp only [List.append_assoc]) ?_
          refine V.perm (ws' := (CWd G o a RP RQ RU (sA S 9 t9) ++ (KWd G (a 4) (f 0) K0 ++ (KWd G (a 5) (f 1) K1v ++ (KWd G (a 6) (f 2) K2 ++ (PLd G (aNp A) pa pb Ps ++ (QLd G (aNq A) qa qb (fun j => pa (aQp A j)) Zv ++ (UWd G (ua e) (ub e) (Us e) ++ (ULx G 10 ua ub Us e))))))))) ((List.Perm.append_left _ (List.Perm.append_left _ (List.Perm.append_left _ (List.Perm.append_left _ (List.perm_append_comm))))).trans (List.Perm.of_eq (by simp only [List.append_assoc]))) ?_
          refine V.perm (ws' := (CWd G o a RP RQ RU (sA S 9 t9) ++ (KWd G (a 4) (f 0) K0 ++ (KWd G (a 5) (f 1) K1v ++ (KWd G (a 6) (f 2) K2 ++ (QLd G (aNq A) qa qb (fun j => pa (aQp A j)) Zv ++ (UWd G (ua e) (ub e) (Us e) ++ (ULx G 10 ua ub Us e ++ (PLd G (aNp A) pa pb Ps))))))))) ((List.Perm.append_left _ (List.Perm.append_left _ (List.Perm.append_left _ (List.Perm.append_left _ (List.perm_append_comm))))).trans (List.Perm.of_eq (by simp only [List.append_assoc]))) ?_
          refine V.perm (ws' := (CWd G o a RP RQ RU (sA S 9 t9) ++ (KWd G (a 4) (f 0) K0 ++ (KWd G (a 5) (f 1) K1v ++ (KWd G (a 6) (f 2) K2 ++ (UWd G (ua e) (ub e) (Us e) ++ (ULx G 10 ua ub Us e ++ (PLd G (aNp A) pa pb Ps ++ (QLd G (aNq A) qa qb (fun j => pa (aQp A j)) Zv))))))))) ((List.Perm.append_left _ (List.Perm.append_left _ (List.Perm.append_left _ (List.Perm.append_left _ (List.perm_append_comm))))).trans (List.Perm.of_eq (by simp only [List.append_assoc]))) ?_
          rcases (if01 h_48) with ⟨q_48, rfl⟩ | ⟨q_48, rfl⟩
          · refine v_if_neF (pc := 51) (tgt := 87) C (by decide) dX4_next_51 (by decide) ?_
            refine v_aload_n (pc := 54) C dX4_next_54 rfl ?_
            refine v_aload_n (pc := 55) C dX4_next_55 rfl ?_
            refine v_aload_n (pc := 56) C dX4_next_56 rfl ?_
            refine v_get (pc := 57) (v := .ref (a 1)) C inX4 0 rfl rfl 1 (by decide) kw1_83 rfl dX4_next_57 ?_
            refine v_iload (pc := 60) C dX4_next_60 rfl ?_
            refine v_aald (pc := 62) (i := (q)) C 2 4 rfl rfl (by omega) (by decide) dX4_next_62 ?_
            refine v_rfs (hRQ q (by omega)) ?_
            refine v_lload_n (pc := 63) C dX4_next_63 rfl ?_
            refine V.perm (ws' := (CWd G o a RP RQ RU (sA S 9 t9) ++ (KWd G (a 4) (f 0) K0 ++ (KWd G (a 5) (f 1) K1v ++ (KWd G (a 6) (f 2) K2 ++ (UWd G (ua e) (ub e) (Us e) ++ (ULx G 10 ua ub Us e ++ (PLd G (aNp A) pa pb Ps ++ (QLx G (aNq A) qa qb (fun j => pa (aQp A j)) Zv q ++ (QWd G (qa q) (qb q) (pa (aQp A q)) (Zv q))))))))))) ((List.Perm.append_left _ (List.Perm.append_left _ (List.Perm.append_left _ (List.Perm.append_left _ (List.Perm.append_left _ (List.Perm.append_left _ (List.Perm.append_left _ (QL_focus (show q < aNq A by omega))))))))).trans (List.Perm.of_eq (by simp only [List.append_assoc]))) ?_
            refine V.perm (ws' := (CWd G o a RP RQ RU (sA S 9 t9) ++ (KWd G (a 4) (f 0) K0 ++ (KWd G (a 5) (f 1) K1v ++ (KWd G (a 6) (f 2) K2 ++ (UWd G (ua e) (ub e) (Us e) ++ (PLd G (aNp A) pa pb Ps ++ (QLx G (aNq A) qa qb (fun j => pa (aQp A j)) Zv q ++ (QWd G (qa q) (qb q) (pa (aQp A q)) (Zv q) ++ (ULx G 10 ua ub Us e)))))))))) ((List.Perm.append_left _ (List.Perm.append_left _ (List.Perm.append_left _ (List.Perm.append_left _ (List.Perm.append_left _ (List.perm_append_comm)))))).trans (List.Perm.of_eq (by simp only [List.append_assoc]))) ?_
            refine V.perm (ws' := (CWd G o a RP RQ RU (sA S 9 t9) ++ (KWd G (a 4) (f 0) K0 ++ (KWd G (a 5) (f 1) K1v ++ (KWd G (a 6) (f 2) K2 ++ (UWd G (ua e) (ub e) (Us e) ++ (QLx G (aNq A) qa qb (fun j => pa (aQp A j)) Zv q ++ (QWd G (qa q) (qb q) (pa (aQp A q)) (Zv q) ++ (ULx G 10 ua ub Us e ++ (PLd G (aNp A) pa pb Ps)))))))))) ((List.Perm.append_left _ (List.Perm.append_left _ (List.Perm.append_left _ (List.Perm.append_left _ (List.Perm.append_left _ (List.perm_append_comm)))))).trans (List.Perm.of_eq (by simp only [List.append_assoc]))) ?_
            refine V.perm (ws' := (CWd G o a RP RQ RU (sA S 9 t9) ++ (KWd G (a 4) (f 0) K0 ++ (KWd G (a 5) (f 1) K1v ++ (KWd G (a 6) (f 2) K2 ++ (UWd G (ua e) (ub e) (Us e) ++ (QWd G (qa q) (qb q) (pa (aQp A q)) (Zv q) ++ (ULx G 10 ua ub Us e ++ (PLd G (aNp A) pa pb Ps ++ (QLx G (aNq A) qa qb (fun j => pa (aQp A j)) Zv q)))))))))) ((List.Perm.append_left _ (List.Perm.append_left _ (List.Perm.append_left _ (List.Perm.append_left _ (List.Perm.append_left _ (List.perm_append_comm)))))).trans (List.Perm.of_eq (by simp only [List.append_assoc]))) ?_
            refine V.perm (ws' := (CWd G o a RP RQ RU (sA S 9 t9) ++ (KWd G (a 4) (f 0) K0 ++ (KWd G (a 5) (f 1) K1v ++ (KWd G (a 6) (f 2) K2 ++ (UWd G (ua e) (ub e) (Us e) ++ (QWd G (qa q) (qb q) (pa (aQp A q)) (Zv q) ++ (ULx G 10 ua ub Us e ++ (PLx G (aNp A) pa pb Ps (aQp A q) ++ (PWd G (pa (aQp A q)) (pb (aQp A q)) (Ps (aQp A q)) ++ (QLx G (aNq A) qa qb (fun j => pa (aQp A j)) Zv q))))))))))) ((List.Perm.append_left _ (List.Perm.append_left _ (List.Perm.append_left _ (List.Perm.append_left _ (List.Perm.append_left _ (List.Perm.append_left _ (List.Perm.append_left _ (List.Perm.append_right _ (PL_focus (hI.2.2.2.2.2.1 q (by omega)).1))))))))).trans (List.Perm.of_eq (by simp only [List.append_assoc]))) ?_
            refine V.perm (ws' := (CWd G o a RP RQ RU (sA S 9 t9) ++ (KWd G (a 4) (f 0) K0 ++ (KWd G (a 5) (f 1) K1v ++ (KWd G (a 6) (f 2) K2 ++ (UWd G (ua e) (ub e) (Us e) ++ (QWd G (qa q) (qb q) (pa (aQp A q)) (Zv q) ++ (PLx G (aNp A) pa pb Ps (aQp A q) ++ (PWd G (pa (aQp A q)) (pb (aQp A q)) (Ps (aQp A q)) ++ (QLx G (aNq A) qa qb (fun j => pa (aQp A j)) Zv q ++ (ULx G 10 ua ub Us e))))))))))) ((List.Perm.append_left _ (List.Perm.append_left _ (List.Perm.append_left _ (List.Perm.append_left _ (List.Perm.append_left _ (List.Perm.append_left _ (List.perm_append_comm))))))).trans (List.Perm.of_eq (by simp only [List.append_assoc]))) ?_
            refine V.perm (ws' := (CWd G o a RP RQ RU (sA S 9 t9) ++ (KWd G (a 4) (f 0) K0 ++ (KWd G (a 5) (f 1) K1v ++ (KWd G (a 6) (f 2) K2 ++ (UWd G (ua e) (ub e) (Us e) ++ (QWd G (qa q) (qb q) (pa (aQp A q)) (Zv q) ++ (PWd G (pa (aQp A q)) (pb (aQp A q)) (Ps (aQp A q)) ++ (QLx G (aNq A) qa qb (fun j => pa (aQp A j)) Zv q ++ (ULx G 10 ua ub Us e ++ (PLx G (aNp A) pa pb Ps (aQp A q)))))))))))) ((List.Perm.append_left _ (List.Perm.append_left _ (List.Perm.append_left _ (List.Perm.append_left _ (List.Perm.append_left _ (List.Perm.append_left _ (List.perm_append_comm))))))).trans (List.Perm.of_eq (by simp only [List.append_assoc]))) ?_
            refine V.perm (ws' := (CWd G o a RP RQ RU (sA S 9 t9) ++ (KWd G (a 4) (f 0) K0 ++ (KWd G (a 5) (f 1) K1v ++ (KWd G (a 6) (f 2) K2 ++ (UWd G (ua e) (ub e) (Us e) ++ (QWd G (qa q) (qb q) (pa (aQp A q)) (Zv q) ++ (PWd G (pa (aQp A q)) (pb (aQp A q)) (Ps (aQp A q)) ++ (ULx G 10 ua ub Us e ++ (PLx G (aNp A) pa pb Ps (aQp A q) ++ (QLx G (aNq A) qa qb (fun j => pa (aQp A j)) Zv q))))))))))) ((List.Perm.append_left _ (List.Perm.append_left _ (List.Perm.append_left _ (List.Perm.append_left _ (List.Perm.append_left _ (List.Perm.append_left _ (List.Perm.append_left _ (List.perm_append_comm)))))))).trans (List.Perm.of_eq (by simp only [List.append_assoc]))) ?_
            refine V.perm (ws' := (KWd G (a 4) (f 0) K0 ++ (KWd G (a 5) (f 1) K1v ++ (KWd G (a 6) (f 2) K2 ++ (UWd G (ua e) (ub e) (Us e) ++ (QWd G (qa q) (qb q) (pa (aQp A q)) (Zv q) ++ (PWd G (pa (aQp A q)) (pb (aQp A q)) (Ps (aQp A q)) ++ (ULx G 10 ua ub Us e ++ (PLx G (aNp A) pa pb Ps (aQp A q) ++ (QLx G (aNq A) qa qb (fun j => pa (aQp A j)) Zv q ++ (CWd G o a RP RQ RU (sA S 9 t9)))))))))))) ((List.perm_append_comm).trans (List.Perm.of_eq (by simp only [List.append_assoc]))) ?_
            refine V.perm (ws' := (KWd G (a 4) (f 0) K0 ++ (KWd G (a 6) (f 2) K2 ++ (UWd G (ua e) (ub e) (Us e) ++ (QWd G (qa q) (qb q) (pa (aQp A q)) (Zv q) ++ (PWd G (pa (aQp A q)) (pb (aQp A q)) (Ps (aQp A q)) ++ (ULx G 10 ua ub Us e ++ (PLx G (aNp A) pa pb Ps (aQp A q) ++ (QLx G (aNq A) qa qb (fun j => pa (aQp A j)) Zv q ++ (CWd G o a RP RQ RU (sA S 9 t9) ++ (KWd G (a 5) (f 1) K1v))))))))))) ((List.Perm.append_left _ (List.perm_append_comm)).trans (List.Perm.of_eq (by simp only [List.append_assoc]))) ?_
            refine V.perm (ws' := (KWd G (a 4) (f 0) K0 ++ (KWd G (a 6) (f 2) K2 ++ (UWd G (ua e) (ub e) (Us e) ++ (QWd G (qa q) (qb q) (pa (aQp A q)) (Zv q) ++ (ULx G 10 ua ub Us e ++ (PLx G (aNp A) pa pb Ps (aQp A q) ++ (QLx G (aNq A) qa qb (fun j => pa (aQp A j)) Zv q ++ (CWd G o a RP RQ RU (sA S 9 t9) ++ (KWd G (a 5) (f 1) K1v ++ (PWd G (pa (aQp A q)) (pb (aQp A q)) (Ps (aQp A q))))))))))))) ((List.Perm.append_left _ (List.Perm.append_left _ (List.Perm.append_left _ (List.Perm.append_left _ (List.perm_append_comm))))).trans (List.Perm.of_eq (by simp only [List.append_assoc]))) ?_
            refine V.perm (ws' := (KWd G (a 4) (f 0) K0 ++ (KWd G (a 6) (f 2) K2 ++ (UWd G (ua e) (ub e) (Us e) ++ (ULx G 10 ua ub Us e ++ (PLx G (aNp A) pa pb Ps (aQp A q) ++ (QLx G (aNq A) qa qb (fun j => pa (aQp A j)) Zv q ++ (CWd G o a RP RQ RU (sA S 9 t9) ++ (KWd G (a 5) (f 1) K1v ++ (PWd G (pa (aQp A q)) (pb (aQp A q)) (Ps (aQp A q)) ++ (QWd G (qa q) (qb q) (pa (aQp A q)) (Zv q)))))))))))) ((List.Perm.append_left _ (List.Perm.append_left _ (List.Perm.append_left _ (List.perm_append_comm)))).trans (List.Perm.of_eq (by simp only [List.append_assoc]))) ?_
            refine V.same (ws' := (KWd G (a 4) (f 0) K0 ++ (KWd G (a 6) (f 2) K2 ++ (UWd G (ua e) (ub e) (Us e) ++ (ULx G 10 ua ub Us e ++ (PLx G (aNp A) pa pb Ps (aQp A q) ++ (QLx G (aNq A) qa qb (fun j => pa (aQp A j)) Zv q)))))) ++ (CWd G o a RP RQ RU (sA S 9 t9) ++ (KWd G (a 5) (f 1) K1v ++ (PWd G (pa (aQp A q)) (pb (aQp A q)) (Ps (aQp A q)) ++ (QWd G (qa q) (qb q) (pa (aQp A q)) (Zv q)))))) (by simp only [List.append_assoc]) ?_
            refine v_callV (pc := 64) (st := [.ref (o)]) (q0 := 0) (wr := (KWd G (a 4) (f 0) K0 ++ (KWd G (a 6) (f 2) K2 ++ (UWd G (ua e) (ub e) (Us e) ++ (ULx G 10 ua ub Us e ++ (PLx G (aNp A) pa pb Ps (aQp A q) ++ (QLx G (aNq A) qa qb (fun j => pa (aQp A j)) Zv q))))))) C (kX4_listSetAnswers G o (pa (aQp A q)) (qa q) a (f 1) (pb (aQp A q)) (qb q) RP RQ RU (sA S 9 t9) K1v (Ps (aQp A q)) (Zv q) (fun m => ansA A q (nI m)) (qZ A q) (hA1 q (by omega)) r_16) ykX4_listSetAnswers cvX4_listSetAnswers kw2_228 dX4_next_64 rfl rfl rfl rfl rfl (by decide) (Nat.le_of_ble_eq_true rfl) (by decide) rfl (Ri_kk (fun r_64 u_64 h_64 => ?_))
            obtain ⟨er_64, ⟨t2, eS_64, ht2⟩, hQ_64⟩ := h_64
            subst er_64
            rw [eS_64, sA_sA]
            have hbl64 := bl_le r_16 64
            refine V.same (ws' := (KWd G (a 4) (f 0) K0 ++ (KWd G (a 6) (f 2) K2 ++ (UWd G (ua e) (ub e) (Us e) ++ (ULx G 10 ua ub Us e ++ (PLx G (aNp A) pa pb Ps (aQp A q) ++ (QLx G (aNq A) qa qb (fun j => pa (aQp A j)) Zv q ++ (CWd G o a RP RQ RU (sA S 9 t2) ++ (KWd G (a 5) (f 1) u_64.2.1 ++ (PWd G (pa (aQp A q)) (pb (aQp A q)) (Ps (aQp A q)) ++ (QWd G (qa q) (qb q) (pa (aQp A q)) u_64.2.2))))))))))) (by simp only [List.append_assoc]) ?_
            refine V.perm (ws' := (KWd G (a 6) (f 2) K2 ++ (UWd G (ua e) (ub e) (Us e) ++ (ULx G 10 ua ub Us e ++ (PLx G (aNp A) pa pb Ps (aQp A q) ++ (QLx G (aNq A) qa qb (fun j => pa (aQp A j)) Zv q ++ (CWd G o a RP RQ RU (sA S 9 t2) ++ (KWd G (a 5) (f 1) u_64.2.1 ++ (PWd G (pa (aQp A q)) (pb (aQp A q)) (Ps (aQp A q)) ++ (QWd G (qa q) (qb q) (pa (aQp A q)) u_64.2.2 ++ (KWd G (a 4) (f 0) K0))))))))))) ((List.perm_append_comm).trans (List.Perm.of_eq (by simp only [List.append_assoc]))) ?_
            refine V.perm (ws' := (KWd G (a 6) (f 2) K2 ++ (UWd G (ua e) (ub e) (Us e) ++ (ULx G 10 ua ub Us e ++ (PLx G (aNp A) pa pb Ps (aQp A q) ++ (QLx G (aNq A) qa qb (fun j => pa (aQp A j)) Zv q ++ (CWd G o a RP RQ RU (sA S 9 t2) ++ (PWd G (pa (aQp A q)) (pb (aQp A q)) (Ps (aQp A q)) ++ (QWd G (qa q) (qb q) (pa (aQp A q)) u_64.2.2 ++ (KWd G (a 4) (f 0) K0 ++ (KWd G (a 5) (f 1) u_64.2.1))))))))))) ((List.Perm.append_left _ (List.Perm.append_left _ (List.Perm.append_left _ (List.Perm.append_left _ (List.Perm.append_left _ (List.Perm.append_left _ (List.perm_append_comm))))))).trans (List.Perm.of_eq (by simp only [List.append_assoc]))) ?_
            refine V.perm (ws' := (UWd G (ua e) (ub e) (Us e) ++ (ULx G 10 ua ub Us e ++ (PLx G (aNp A) pa pb Ps (aQp A q) ++ (QLx G (aNq A) qa qb (fun j => pa (aQp A j)) Zv q ++ (CWd G o a RP RQ RU (sA S 9 t2) ++ (PWd G (pa (aQp A q)) (pb (aQp A q)) (Ps (aQp A q)) ++ (QWd G (qa q) (qb q) (pa (aQp A q)) u_64.2.2 ++ (KWd G (a 4) (f 0) K0 ++ (KWd G (a 5) (f 1) u_64.2.1 ++ (KWd G (a 6) (f 2) K2))))))))))) ((List.perm_append_comm).trans (List.Perm.of_eq (by simp only [List.append_assoc]))) ?_
            refine V.perm (ws' := (ULx G 10 ua ub Us e ++ (PLx G (aNp A) pa pb Ps (aQp A q) ++ (QLx G (aNq A) qa qb (fun j => pa (aQp A j)) Zv q ++ (CWd G o a RP RQ RU (sA S 9 t2) ++ (PWd G (pa (aQp A q)) (pb (aQp A q)) (Ps (aQp A q)) ++ (QWd G (qa q) (qb q) (pa (aQp A q)) u_64.2.2 ++ (KWd G (a 4) (f 0) K0 ++ (KWd G (a 5) (f 1) u_64.2.1 ++ (KWd G (a 6) (f 2) K2 ++ (UWd G (ua e) (ub e) (Us e)))))))))))) ((List.perm_append_comm).trans (List.Perm.of_eq (by simp only [List.append_assoc]))) ?_
            refine V.perm (ws' := (ULx G 10 ua ub Us e ++ (PLx G (aNp A) pa pb Ps (aQp A q) ++ (QLx G (aNq A) qa qb (fun j => pa (aQp A j)) Zv q ++ (CWd G o a RP RQ RU (sA S 9 t2) ++ (PWd G (pa (aQp A q)) (pb (aQp A q)) (Ps (aQp A q)) ++ (KWd G (a 4) (f 0) K0 ++ (KWd G (a 5) (f 1) u_64.2.1 ++ (KWd G (a 6) (f 2) K2 ++ (UWd G (ua e) (ub e) (Us e) ++ (QWd G (qa q) (qb q) (pa (aQp A q)) u_64.2.2))))))))))) ((List.Perm.append_left _ (List.Perm.append_left _ (List.Perm.append_left _ (List.Perm.append_left _ (List.Perm.append_left _ (List.perm_append_comm)))))).trans (List.Perm.of_eq (by simp only [List.append_assoc]))) ?_
            refine V.perm (ws' := (ULx G 10 ua ub Us e ++ (PLx G (aNp A) pa pb Ps (aQp A q) ++ (QLx G (aNq A) qa qb (fun j => pa (aQp A j)) Zv q ++ (CWd G o a RP RQ RU (sA S 9 t2) ++ (KWd G (a 4) (f 0) K0 ++ (KWd G (a 5) (f 1) u_64.2.1 ++ (KWd G (a 6) (f 2) K2 ++ (UWd G (ua e) (ub e) (Us e) ++ (QWd G (qa q) (qb q) (pa (aQp A q)) u_64.2.2 ++ (PWd G (pa (aQp A q)) (pb (aQp A q)) (Ps (aQp A q))))))))))))) ((List.Perm.append_left _ (List.Perm.append_left _ (List.Perm.append_left _ (List.Perm.append_left _ (List.perm_append_comm))))).trans (List.Perm.of_eq (by simp only [List.append_assoc]))) ?_
            refine V.perm (ws' := (PLx G (aNp A) pa pb Ps (aQp A q) ++ (QLx G (aNq A) qa qb (fun j => pa (aQp A j)) Zv q ++ (CWd G o a RP RQ RU (sA S 9 t2) ++ (KWd G (a 4) (f 0) K0 ++ (KWd G (a 5) (f 1) u_64.2.1 ++ (KWd G (a 6) (f 2) K2 ++ (UWd G (ua e) (ub e) (Us e) ++ (QWd G (qa q) (qb q) (pa (aQp A q)) u_64.2.2 ++ (PWd G (pa (aQp A q)) (pb (aQp A q)) (Ps (aQp A q)) ++ (ULx G 10 ua ub Us e))))))))))) ((List.perm_append_comm).trans (List.Perm.of_eq (by simp only [List.append_assoc]))) ?_
            refine V.perm (ws' := (QLx G (aNq A) qa qb (fun j => pa (aQp A j)) Zv q ++ (CWd G o a RP RQ RU (sA S 9 t2) ++ (KWd G (a 4) (f 0) K0 ++ (KWd G (a 5) (f 1) u_64.2.1 ++ (KWd G (a 6) (f 2) K2 ++ (UWd G (ua e) (ub e) (Us e) ++ (QWd G (qa q) (qb q) (pa (aQp A q)) u_64.2.2 ++ (PWd G (pa (aQp A q)) (pb (aQp A q)) (Ps (aQp A q)) ++ (ULx G 10 ua ub Us e ++ (PLx G (aNp A) pa pb Ps (aQp A q)))))))))))) ((List.perm_append_comm).trans (List.Perm.of_eq (by simp only [List.append_assoc]))) ?_
            refine V.perm (ws' := (CWd G o a RP RQ RU (sA S 9 t2) ++ (KWd G (a 4) (f 0) K0 ++ (KWd G (a 5) (f 1) u_64.2.1 ++ (KWd G (a 6) (f 2) K2 ++ (UWd G (ua e) (ub e) (Us e) ++ (QWd G (qa q) (qb q) (pa (aQp A q)) u_64.2.2 ++ (PWd G (pa (aQp A q)) (pb (aQp A q)) (Ps (aQp A q)) ++ (ULx G 10 ua ub Us e ++ (PLx G (aNp A) pa pb Ps (aQp A q) ++ (QLx G (aNq A) qa qb (fun j => pa (aQp A j)) Zv q))))))))))) ((List.perm_append_comm).trans (List.Perm.of_eq (by simp only [List.append_assoc]))) ?_
            refine V.perm (ws' := (CWd G o a RP RQ RU (sA S 9 t2) ++ (KWd G (a 4) (f 0) K0 ++ (KWd G (a 5) (f 1) u_64.2.1 ++ (KWd G (a 6) (f 2) K2 ++ (UWd G (ua e) (ub e) (Us e) ++ (PWd G (pa (aQp A q)) (pb (aQp A q)) (Ps (aQp A q)) ++ (ULx G 10 ua ub Us e ++ (PLx G (aNp A) pa pb Ps (aQp A q) ++ (QLx G (aNq A) qa qb (fun j => pa (aQp A j)) Zv q ++ (QWd G (qa q) (qb q) (pa (aQp A q)) u_64.2.2))))))))))) ((List.Perm.append_left _ (List.Perm.append_left _ (List.Perm.append_left _ (List.Perm.append_left _ (List.Perm.append_left _ (List.perm_append_comm)))))).trans (List.Perm.of_eq (by simp only [List.append_assoc]))) ?_
            refine V.perm (ws' := (CWd G o a RP RQ RU (sA S 9 t2) ++ (KWd G (a 4) (f 0) K0 ++ (KWd G (a 5) (f 1) u_64.2.1 ++ (KWd G (a 6) (f 2) K2 ++ (UWd G (ua e) (ub e) (Us e) ++ (PWd G (pa (aQp A q)) (pb (aQp A q)) (Ps (aQp A q)) ++ (ULx G 10 ua ub Us e ++ (PLx G (aNp A) pa pb Ps (aQp A q) ++ (QLd G (aNq A) qa qb (fun j => pa (aQp A j)) (va_up Zv q u_64.2.2))))))))))) (List.Perm.append_left _ (List.Perm.append_left _ (List.Perm.append_left _ (List.Perm.append_left _ (List.Perm.append_left _ (List.Perm.append_left _ (List.Perm.append_left _ (List.Perm.append_left _ (QL_back (show q < aNq A by omega) u_64.2.2))))))))) ?_
            refine V.perm (ws' := (CWd G o a RP RQ RU (sA S 9 t2) ++ (KWd G (a 4) (f 0) K0 ++ (KWd G (a 5) (f 1) u_64.2.1 ++ (KWd G (a 6) (f 2) K2 ++ (UWd G (ua e) (ub e) (Us e) ++ (PWd G (pa (aQp A q)) (pb (aQp A q)) (Ps (aQp A q)) ++ (ULx G 10 ua ub Us e ++ (QLd G (aNq A) qa qb (fun j => pa (aQp A j)) (va_up Zv q u_64.2.2) ++ (PLx G (aNp A) pa pb Ps (aQp A q))))))))))) ((List.Perm.append_left _ (List.Perm.append_left _ (List.Perm.append_left _ (List.Perm.append_left _ (List.Perm.append_left _ (List.Perm.append_left _ (List.Perm.append_left _ (List.perm_append_comm)))))))).trans (List.Perm.of_eq (by simp only [List.append_assoc]))) ?_
            refine V.perm (ws' := (CWd G o a RP RQ RU (sA S 9 t2) ++ (KWd G (a 4) (f 0) K0 ++ (KWd G (a 5) (f 1) u_64.2.1 ++ (KWd G (a 6) (f 2) K2 ++ (UWd G (ua e) (ub e) (Us e) ++ (ULx G 10 ua ub Us e ++ (QLd G (aNq A) qa qb (fun j => pa (aQp A j)) (va_up Zv q u_64.2.2) ++ (PLx G (aNp A) pa pb Ps (aQp A q) ++ (PWd G (pa (aQp A q)) (pb (aQp A q)) (Ps (aQp A q)))))))))))) ((List.Perm.append_left _ (List.Perm.append_left _ (List.Perm.append_left _ (List.Perm.append_left _ (List.Perm.append_left _ (List.perm_append_comm)))))).trans (List.Perm.of_eq (by simp only [List.append_assoc]))) ?_
            refine V.perm (ws' := (CWd G o a RP RQ RU (sA S 9 t2) ++ (KWd G (a 4) (f 0) K0 ++ (KWd G (a 5) (f 1) u_64.2.1 ++ (KWd G (a 6) (f 2) K2 ++ (UWd G (ua e) (ub e) (Us e) ++ (ULx G 10 ua ub Us e ++ (QLd G (aNq A) qa qb (fun j => pa (aQp A j)) (va_up Zv q u_64.2.2) ++ (PLd G (aNp A) pa pb Ps))))))))) (List.Perm.append_left _ (List.Perm.append_left _ (List.Perm.append_left _ (List.Perm.append_left _ (List.Perm.append_left _ (List.Perm.append_left _ (List.Perm.append_left _ (PL_same (hI.2.2.2.2.2.1 q (by omega)).1)))))))) ?_
            refine V.perm (ws' := (CWd G o a RP RQ RU (sA S 9 t2) ++ (KWd G (a 4) (f 0) K0 ++ (KWd G (a 5) (f 1) u_64.2.1 ++ (KWd G (a 6) (f 2) K2 ++ (UWd G (ua e) (ub e) (Us e) ++ (ULx G 10 ua ub Us e ++ (PLd G (aNp A) pa pb Ps ++ (QLd G (aNq A) qa qb (fun j => pa (aQp A j)) (va_up Zv q u_64.2.2)))))))))) ((List.Perm.append_left _ (List.Perm.append_left _ (List.Perm.append_left _ (List.Perm.append_left _ (List.Perm.append_left _ (List.Perm.append_left _ (List.perm_append_comm))))))).trans (List.Perm.of_eq (by simp only [List.append_assoc]))) ?_
            refine V.perm (ws' := (KWd G (a 4) (f 0) K0 ++ (KWd G (a 5) (f 1) u_64.2.1 ++ (KWd G (a 6) (f 2) K2 ++ (UWd G (ua e) (ub e) (Us e) ++ (ULx G 10 ua ub Us e ++ (PLd G (aNp A) pa pb Ps ++ (QLd G (aNq A) qa qb (fun j => pa (aQp A j)) (va_up Zv q u_64.2.2) ++ (CWd G o a RP RQ RU (sA S 9 t2)))))))))) ((List.perm_append_comm).trans (List.Perm.of_eq (by simp only [List.append_assoc]))) ?_
            refine V.same (ws' := (KWd G (a 4) (f 0) K0 ++ (KWd G (a 5) (f 1) u_64.2.1 ++ (KWd G (a 6) (f 2) K2 ++ (UWd G (ua e) (ub e) (Us e) ++ (ULx G 10 ua ub Us e ++ (PLd G (aNp A) pa pb Ps ++ (QLd G (aNq A) qa qb (fun j => pa (aQp A j)) (va_up Zv q u_64.2.2)))))))) ++ (CWd G o a RP RQ RU (sA S 9 t2))) (by simp only [List.append_assoc]) ?_
            refine v_callV (pc := 67) (st := []) (q0 := 0) (wr := (KWd G (a 4) (f 0) K0 ++ (KWd G (a 5) (f 1) u_64.2.1 ++ (KWd G (a 6) (f 2) K2 ++ (UWd G (ua e) (ub e) (Us e) ++ (ULx G 10 ua ub Us e ++ (PLd G (aNp A) pa pb Ps ++ (QLd G (aNq A) qa qb (fun j => pa (aQp A j)) (va_up Zv q u_64.2.2))))))))) C (kX4_mostAlike G o a RP RQ RU (sA S 9 t2) (bl r_16 64).length hbl64) ykX4_mostAlike cvX4_mostAlike kw2_232 dX4_next_67 rfl rfl rfl rfl rfl (by decide) (Nat.le_of_ble_eq_true rfl) (by decide) rfl (Ri_kk (fun r_67 u_67 h_67 => ?_))
            obtain ⟨e_67, er_67⟩ := h_67
            rw [e_67]
            have er2 : r_67 = nI (grN A (setL A e) q) := er_67.trans (congrArg nI (most_gr hbl ht2))
            subst er2
            have hg : grN A (setL A e) q ≤ (setL A e).length := mostN_le _ _ _
            have hsl := setL_len (A := A) (u := e)
            refine V.same (ws' := (KWd G (a 4) (f 0) K0 ++ (KWd G (a 5) (f 1) u_64.2.1 ++ (KWd G (a 6) (f 2) K2 ++ (UWd G (ua e) (ub e) (Us e) ++ (ULx G 10 ua ub Us e ++ (PLd G (aNp A) pa pb Ps ++ (QLd G (aNq A) qa qb (fun j => pa (aQp A j)) (va_up Zv q u_64.2.2) ++ (CWd G o a RP RQ RU (sA S 9 t2)))))))))) (by simp only [List.append_assoc]) ?_
            refine V.perm (ws' := (KWd G (a 5) (f 1) u_64.2.1 ++ (KWd G (a 6) (f 2) K2 ++ (UWd G (ua e) (ub e) (Us e) ++ (ULx G 10 ua ub Us e ++ (PLd G (aNp A) pa pb Ps ++ (QLd G (aNq A) qa qb (fun j => pa (aQp A j)) (va_up Zv q u_64.2.2) ++ (CWd G o a RP RQ RU (sA S 9 t2) ++ (KWd G (a 4) (f 0) K0))))))))) ((List.perm_append_comm).trans (List.Perm.of_eq (by simp only [List.append_assoc]))) ?_
            refine V.perm (ws' := (KWd G (a 6) (f 2) K2 ++ (UWd G (ua e) (ub e) (Us e) ++ (ULx G 10 ua ub Us e ++ (PLd G (aNp A) pa pb Ps ++ (QLd G (aNq A) qa qb (fun j => pa (aQp A j)) (va_up Zv q u_64.2.2) ++ (CWd G o a RP RQ RU (sA S 9 t2) ++ (KWd G (a 4) (f 0) K0 ++ (KWd G (a 5) (f 1) u_64.2.1))))))))) ((List.perm_append_comm).trans (List.Perm.of_eq (by simp only [List.append_assoc]))) ?_
            refine V.perm (ws' := (UWd G (ua e) (ub e) (Us e) ++ (ULx G 10 ua ub Us e ++ (PLd G (aNp A) pa pb Ps ++ (QLd G (aNq A) qa qb (fun j => pa (aQp A j)) (va_up Zv q u_64.2.2) ++ (CWd G o a RP RQ RU (sA S 9 t2) ++ (KWd G (a 4) (f 0) K0 ++ (KWd G (a 5) (f 1) u_64.2.1 ++ (KWd G (a 6) (f 2) K2))))))))) ((List.perm_append_comm).trans (List.Perm.of_eq (by simp only [List.append_assoc]))) ?_
            refine V.perm (ws' := (ULx G 10 ua ub Us e ++ (PLd G (aNp A) pa pb Ps ++ (QLd G (aNq A) qa qb (fun j => pa (aQp A j)) (va_up Zv q u_64.2.2) ++ (CWd G o a RP RQ RU (sA S 9 t2) ++ (KWd G (a 4) (f 0) K0 ++ (KWd G (a 5) (f 1) u_64.2.1 ++ (KWd G (a 6) (f 2) K2 ++ (UWd G (ua e) (ub e) (Us e)))))))))) ((List.perm_append_comm).trans (List.Perm.of_eq (by simp only [List.append_assoc]))) ?_
            refine V.perm (ws' := (PLd G (aNp A) pa pb Ps ++ (QLd G (aNq A) qa qb (fun j => pa (aQp A j)) (va_up Zv q u_64.2.2) ++ (CWd G o a RP RQ RU (sA S 9 t2) ++ (KWd G (a 4) (f 0) K0 ++ (KWd G (a 5) (f 1) u_64.2.1 ++ (KWd G (a 6) (f 2) K2 ++ (UWd G (ua e) (ub e) (Us e) ++ (ULx G 10 ua ub Us e))))))))) ((List.perm_append_comm).trans (List.Perm.of_eq (by simp only [List.append_assoc]))) ?_
            refine V.perm (ws' := (QLd G (aNq A) qa qb (fun j => pa (aQp A j)) (va_up Zv q u_64.2.2) ++ (CWd G o a RP RQ RU (sA S 9 t2) ++ (KWd G (a 4) (f 0) K0 ++ (KWd G (a 5) (f 1) u_64.2.1 ++ (KWd G (a 6) (f 2) K2 ++ (UWd G (ua e) (ub e) (Us e) ++ (ULx G 10 ua ub Us e ++ (PLd G (aNp A) pa pb Ps))))))))) ((List.perm_append_comm).trans (List.Perm.of_eq (by simp only [List.append_assoc]))) ?_
            refine V.perm (ws' := (CWd G o a RP RQ RU (sA S 9 t2) ++ (KWd G (a 4) (f 0) K0 ++ (KWd G (a 5) (f 1) u_64.2.1 ++ (KWd G (a 6) (f 2) K2 ++ (UWd G (ua e) (ub e) (Us e) ++ (ULx G 10 ua ub Us e ++ (PLd G (aNp A) pa pb Ps ++ (QLd G (aNq A) qa qb (fun j => pa (aQp A j)) (va_up Zv q u_64.2.2)))))))))) ((List.perm_append_comm).trans (List.Perm.of_eq (by simp only [List.append_assoc]))) ?_
            refine v_istore (pc := 70) C dX4_next_70 (by decide) ?_
            refine v_iload (pc := 72) C dX4_next_72 rfl ?_
            refine v_iload (pc := 74) C dX4_next_74 rfl ?_
            refine v_icmp_geN (pc := 76) (tgt := 87) C (grN A (setL A e) q) (l) rfl rfl (by omega) (by omega) dX4_next_76 (by decide) (fun c_76 => ?_) (fun c_76 => ?_)
            · refine v_iinc1 (pc := 87) C (q) rfl dX4_next_87 rfl ?_
              refine v_goto (pc := 90) (tgt := 31) C dX4_next_90 (by decide) ?_
              exact V.lessE (ih31  (((q) + 1)) ((b)) ((l)) (t2) (u_64.2.1) ((va_up Zv q u_64.2.2)) (by omega) (by omega) (by rw [nxK_old (u_none (hU e he) (by omega) q_48) (fun z => z.elim (fun y => by have := hl.1 y; omega) (fun y => by by_cases y2 : (nxK A e (setL A e) q).1 < 0; have := hl.1 y2; omega; have := hl.2 y2; omega))]; exact hb) (by rw [nxK_old (u_none (hU e he) (by omega) q_48) (fun z => z.elim (fun y => by have := hl.1 y; omega) (fun y => by by_cases y2 : (nxK A e (setL A e) q).1 < 0; have := hl.1 y2; omega; have := hl.2 y2; omega))]; exact hl) (hl2) (QAll_up hA1 hQ_64)) ⟨rfl, rfl, rfl, rfl, rfl, rfl, trivial⟩
            · refine v_iload (pc := 79) C dX4_next_79 rfl ?_
              refine v_istore (pc := 81) C dX4_next_81 (by decide) ?_
              refine v_iload (pc := 83) C dX4_next_83 rfl ?_
              refine v_istore (pc := 85) C dX4_next_85 (by decide) ?_
              refine v_iinc1 (pc := 87) C (q) rfl dX4_next_87 rfl ?_
              refine v_goto (pc := 90) (tgt := 31) C dX4_next_90 (by decide) ?_
              exact V.lessE (ih31  (((q) + 1)) ((nI (q))) ((grN A (setL A e) q)) (t2) (u_64.2.1) ((va_up Zv q u_64.2.2)) (by omega) (by omega) (by rw [nxK_new (u_none (hU e he) (by omega) q_48) (by by_cases y2 : (nxK A e (setL A e) q).1 < 0; exact Or.inl y2; have := hl.2 y2; exact Or.inr (by omega))]) (by rw [nxK_new (u_none (hU e he) (by omega) q_48) (by by_cases y2 : (nxK A e (setL A e) q).1 < 0; exact Or.inl y2; have := hl.2 y2; exact Or.inr (by omega))]; exact ⟨fun z => absurd z (nI_pos (n := q) (by omega)), fun _ => rfl⟩) (by omega) (QAll_up hA1 hQ_64)) ⟨rfl, rfl, rfl, rfl, rfl, rfl, trivial⟩
          · refine v_if_neT (pc := 51) (tgt := 87) C (by decide) dX4_next_51 (by decide) ?_
            refine v_iinc1 (pc := 87) C (q) rfl dX4_next_87 rfl ?_
            refine v_goto (pc := 90) (tgt := 31) C dX4_next_90 (by decide) ?_
            exact V.lessE (ih31  (((q) + 1)) ((b)) ((l)) (t9) (K1v) (Zv) (by omega) (by omega) (by rw [nxK_skip (u_some (hU e he) (by omega) q_48)]; exact hb) (by rw [nxK_skip (u_some (hU e he) (by omega) q_48)]; exact hl) (hl2) (hA1)) ⟨rfl, rfl, rfl, rfl, rfl, rfl, trivial⟩
    exact V.lessE (L31 (aNq A + 1) (0) ((-5 : Int32)) (65) ((mA S 9)) (u_16.1) (u_16.2) (by omega) (by omega) (rfl) (⟨fun _ => rfl, fun z => absurd (show (-5 : Int32) < 0 by decide) z⟩) (by omega) (hA_16)) ⟨rfl, rfl, rfl, rfl, rfl, rfl, trivial⟩
def rmX4_parting : Room := { frames := 5, cells := 0, slots := 0, locals := 119 }
set_option maxHeartbeats 4000000 in
set_option maxRecDepth 100000 in
theorem kX4_parting (G : TG) (o : Nat) (a : Nat → Nat) (f : Nat → Nat → Nat) (ua : Nat → Nat) (ub : Nat → Nat → Nat) (RP RQ RU : Nat → Option Nat) (S K0 K1 K2 : MS) (Us Ps Zs : Nat → MS) (pa qa : Nat → Nat) (pb qb : Nat → Nat → Nat) (A : AS) (hI : AInv A) (hC : CAll A RP RQ RU ua pa qa S K0 Us Ps Zs)  : CT G yX4_parting cX4_parting 5 (some .int) rmX4_parting 0 0 [.ref (o)] (CWd G o a RP RQ RU S ++ (KWd G (a 4) (f 0) K0 ++ (KWd G (a 5) (f 1) K1 ++ (KWd G (a 6) (f 2) K2 ++ (ULd G 10 ua ub Us ++ (PLd G (aNp A) pa pb Ps ++ (QLd G (aNq A) qa qb (fun j => pa (aQp A j)) Zs))))))) (fun u : AS × DS => DWd G o a f ua ub RU u.1 u.2) (Ri (fun r δ => r = s_parting A ∧ δ.1 = A ∧ CRel δ.1 RU ua δ.2)) := by
  refine CT.enter (by decide) (Nat.le_of_ble_eq_true rfl) (fun X C hnm => ?_)
  refine V.less [(0, .ref (o))] ⟨rfl, trivial⟩ ?_
  generalize hQ : (QX G X (fun u : AS × DS => DWd G o a f ua ub RU u.1 u.2) (Ri (fun r δ => r = s_parting A ∧ δ.1 = A ∧ CRel δ.1 RU ua δ.2)) 0 0) = Qq
  have hnp := hI.1
  have hnq := hI.2.2.2.2.1
  obtain ⟨hS, hP, hA, hU, hRP, hRQ, hRU⟩ := id hC
  have hnP := nP_le A
  have hp2 := sh_12 (nP A) hnP.1
  have h2n : 2 ^ nP A ≤ 2 ^ 12 := Nat.pow_le_pow_right (by decide) hnP.1
  have h2p := Nat.two_pow_pos (nP A)
  refine v_aload_n (pc := 0) C dX4_parting_0 rfl ?_
  refine v_get (pc := 1) (v := .int (mI S 12)) C inX4 0 rfl rfl 12 (by decide) kw1_94 rfl dX4_parting_1 ?_
  refine v_cv (y := (nI (aNq A))) (hS.1.2.1) ?_
  refine v_bipush (pc := 4) (v := 12) C dX4_parting_4 (by decide) ?_
  refine v_mmin (pc := 6) C kw3_3 kw3_4 kw1_10 kw3_5 (by decide) (by decide) (by decide) (by decide) dX4_parting_6 ?_
  refine v_cv (y := (nI (nP A))) (pmin hnq) ?_
  refine v_istore_n (pc := 9) C dX4_parting_9 (by decide) ?_
  refine v_iconst (pc := 10) (v := 0) C dX4_parting_10 (by decide) ?_
  refine v_istore_n (pc := 11) C dX4_parting_11 (by decide) ?_
  have L12 : ∀ (fu : Nat) (q : Nat) (t : Nat → Int32) (K1v : MS) (Zv : Nat → MS), (nP A < q + fu) → (q ≤ nP A) → (∀ z, z < q → t z = nI ((fun q => pv (fun m => ansA A q (nI m)) 21) z)) → (QAll A Ps Zv) → V G X cX4_parting 5 rmX4_parting Qq 0 0 12 (lvo [(0, .ref (o)), (1, .int (nI (nP A))), (2, .int (nI (q)))]) [] (CWd G o a RP RQ RU (sA S 10 t) ++ (KWd G (a 4) (f 0) K0 ++ (KWd G (a 5) (f 1) K1v ++ (KWd G (a 6) (f 2) K2 ++ (ULd G 10 ua ub Us ++ (PLd G (aNp A) pa pb Ps ++ (QLd G (aNq A) qa qb (fun j => pa (aQp A j)) Zv))))))) := by
    intro fu
    induction fu with
    | zero => intro q t K1v Zv hφ hq hτ hA1; exfalso; omega
    | succ fu ih12 =>
      intro q t K1v Zv hφ hq hτ hA1
      refine v_iload_n (pc := 12) C dX4_parting_12 rfl ?_
      refine v_iload_n (pc := 13) C dX4_parting_13 rfl ?_
      refine v_icmp_geN (pc := 14) (tgt := 39) C (q) (nP A) rfl rfl (by omega) (by omega) dX4_parting_14 (by decide) (fun c_14 => ?_) (fun c_14 => ?_)
      · have hτ2 : ∀ z, z < nP A → t z = nI ((fun q => pv (fun m => ansA A q (nI m)) 21) z) := fun z hz => hτ z (by omega)
        refine v_iconst (pc := 39) (v := 1) C dX4_parting_39 (by decide) ?_
        refine v_iload_n (pc := 40) C dX4_parting_40 rfl ?_
        refine v_ishl (pc := 41) C dX4_parting_41 ?_
        refine v_cv (y := (nI (2 ^ nP A))) (hp2) ?_
        refine v_iconst (pc := 42) (v := 1) C dX4_parting_42 (by decide) ?_
        refine v_isubN (pc := 43) C (2 ^ nP A) 1 rfl rfl (by omega) dX4_parting_43 ?_
        refine v_istore_n (pc := 44) C dX4_parting_44 (by decide) ?_
        refine v_aload_n (pc := 45) C dX4_parting_45 rfl ?_
        refine v_iload_n (pc := 46) C dX4_parting_46 rfl ?_
        refine V.perm (ws' := (KWd G (a 4) (f 0) K0 ++ (KWd G (a 5) (f 1) K1v ++ (KWd G (a 6) (f 2) K2 ++ (ULd G 10 ua ub Us ++ (PLd G (aNp A) pa pb Ps ++ (QLd G (aNq A) qa qb (fun j => pa (aQp A j)) Zv ++ (CWd G o a RP RQ RU (sA S 10 t))))))))) ((List.perm_append_comm).trans (List.Perm.of_eq (by simp only [List.append_assoc]))) ?_
        refine V.same (ws' := (KWd G (a 4) (f 0) K0 ++ (KWd G (a 5) (f 1) K1v ++ (KWd G (a 6) (f 2) K2 ++ (ULd G 10 ua ub Us ++ (PLd G (aNp A) pa pb Ps ++ (QLd G (aNq A) qa qb (fun j => pa (aQp A j)) Zv)))))) ++ (CWd G o a RP RQ RU (sA S 10 t))) (by simp only [List.append_assoc]) ?_
        refine v_callV (pc := 47) (st := []) (q0 := 0) (wr := (KWd G (a 4) (f 0) K0 ++ (KWd G (a 5) (f 1) K1v ++ (KWd G (a 6) (f 2) K2 ++ (ULd G 10 ua ub Us ++ (PLd G (aNp A) pa pb Ps ++ (QLd G (aNq A) qa qb (fun j => pa (aQp A j)) Zv))))))) C (kX4_partsAll G o a RP RQ RU (sA S 10 t) (2 ^ nP A - 1) (nP A) (fun q => pv (fun m => ansA A q (nI m)) 21) hnP.1 (by omega) (fun z hz => ⟨hτ2 z hz, pv_lt _ 21⟩)) ykX4_partsAll cvX4_partsAll kw3_10 dX4_parting_47 rfl rfl rfl rfl rfl (by decide) (Nat.le_of_ble_eq_true rfl) (by decide) rfl (Ri_kk (fun r_47 u_47 h_47 => ?_))
        obtain ⟨e_47, h_47⟩ := h_47
        rw [e_47]
        have h_47 : (r_47 = 1 ∧ tells A (2 ^ nP A - 1)) ∨ (r_47 = 0 ∧ ¬ tells A (2 ^ nP A - 1)) := alI h_47 pa_tells
        refine V.same (ws' := (KWd G (a 4) (f 0) K0 ++ (KWd G (a 5) (f 1) K1v ++ (KWd G (a 6) (f 2) K2 ++ (ULd G 10 ua ub Us ++ (PLd G (aNp A) pa pb Ps ++ (QLd G (aNq A) qa qb (fun j => pa (aQp A j)) Zv ++ (CWd G o a RP RQ RU (sA S 10 t))))))))) (by simp only [List.append_assoc]) ?_
        refine V.perm (ws' := (KWd G (a 5) (f 1) K1v ++ (KWd G (a 6) (f 2) K2 ++ (ULd G 10 ua ub Us ++ (PLd G (aNp A) pa pb Ps ++ (QLd G (aNq A) qa qb (fun j => pa (aQp A j)) Zv ++ (CWd G o a RP RQ RU (sA S 10 t) ++ (KWd G (a 4) (f 0) K0)))))))) ((List.perm_append_comm).trans (List.Perm.of_eq (by simp only [List.append_assoc]))) ?_
        refine V.perm (ws' := (KWd G (a 6) (f 2) K2 ++ (ULd G 10 ua ub Us ++ (PLd G (aNp A) pa pb Ps ++ (QLd G (aNq A) qa qb (fun j => pa (aQp A j)) Zv ++ (CWd G o a RP RQ RU (sA S 10 t) ++ (KWd G (a 4) (f 0) K0 ++ (KWd G (a 5) (f 1) K1v)))))))) ((List.perm_append_comm).trans (List.Perm.of_eq (by simp only [List.append_assoc]))) ?_
        refine V.perm (ws' := (ULd G 10 ua ub Us ++ (PLd G (aNp A) pa pb Ps ++ (QLd G (aNq A) qa qb (fun j => pa (aQp A j)) Zv ++ (CWd G o a RP RQ RU (sA S 10 t) ++ (KWd G (a 4) (f 0) K0 ++ (KWd G (a 5) (f 1) K1v ++ (KWd G (a 6) (f 2) K2)))))))) ((List.perm_append_comm).trans (List.Perm.of_eq (by simp only [List.append_assoc]))) ?_
        refine V.perm (ws' := (PLd G (aNp A) pa pb Ps ++ (QLd G (aNq A) qa qb (fun j => pa (aQp A j)) Zv ++ (CWd G o a RP RQ RU (sA S 10 t) ++ (KWd G (a 4) (f 0) K0 ++ (KWd G (a 5) (f 1) K1v ++ (KWd G (a 6) (f 2) K2 ++ (ULd G 10 ua ub Us)))))))) ((List.perm_append_comm).trans (List.Perm.of_eq (by simp only [List.append_assoc]))) ?_
        refine V.perm (ws' := (QLd G (aNq A) qa qb (fun j => pa (aQp A j)) Zv ++ (CWd G o a RP RQ RU (sA S 10 t) ++ (KWd G (a 4) (f 0) K0 ++ (KWd G (a 5) (f 1) K1v ++ (KWd G (a 6) (f 2) K2 ++ (ULd G 10 ua ub Us ++ (PLd G (aNp A) pa pb Ps)))))))) ((List.perm_append_comm).trans (List.Perm.of_eq (by simp only [List.append_assoc]))) ?_
        refine V.perm (ws' := (CWd G o a RP RQ RU (sA S 10 t) ++ (KWd G (a 4) (f 0) K0 ++ (KWd G (a 5) (f 1) K1v ++ (KWd G (a 6) (f 2) K2 ++ (ULd G 10 ua ub Us ++ (PLd G (aNp A) pa pb Ps ++ (QLd G (aNq A) qa qb (fun j => pa (aQp A j)) Zv)))))))) ((List.perm_append_comm).trans (List.Perm.of_eq (by simp only [List.append_assoc]))) ?_
        rcases h_47 with ⟨rfl, q_47⟩ | ⟨rfl, q_47⟩
        · refine v_if_neT (pc := 50) (tgt := 56) C (by decide) dX4_parting_50 (by decide) ?_
          refine v_iload_n (pc := 56) C dX4_parting_56 rfl ?_
          refine v_istore_n (pc := 57) C dX4_parting_57 (by decide) ?_
          refine v_iconst (pc := 58) (v := 1) C dX4_parting_58 (by decide) ?_
          refine v_istore (pc := 59) C dX4_parting_59 (by decide) ?_
          have L61 : ∀ (fu : Nat) (s : Nat) (b : Nat), (2 ^ nP A < s + fu) → (s ≤ 2 ^ nP A) → (b ≤ 12) → (pbC A s b) → V G X cX4_parting 5 rmX4_parting Qq 0 0 61 (lvo [(0, .ref (o)), (1, .int (nI (nP A))), (2, .int (nI ((2 ^ nP A) - 1))), (3, .int (nI (b))), (4, .int (nI (s)))]) [] (CWd G o a RP RQ RU (sA S 10 t) ++ (KWd G (a 4) (f 0) K0 ++ (KWd G (a 5) (f 1) K1v ++ (KWd G (a 6) (f 2) K2 ++ (ULd G 10 ua ub Us ++ (PLd G (aNp A) pa pb Ps ++ (QLd G (aNq A) qa qb (fun j => pa (aQp A j)) Zv))))))) := by
            intro fu
            induction fu with
            | zero => intro s b hψ hs hb hB; exfalso; omega
            | succ fu ih61 =>
              intro s b hψ hs hb hB
              refine v_iload (pc := 61) C dX4_parting_61 rfl ?_
              refine v_iload_n (pc := 63) C dX4_parting_63 rfl ?_
              refine v_icmp_geN (pc := 64) (tgt := 97) C (s) ((2 ^ nP A) - 1) rfl rfl (by omega) (by omega) dX4_parting_64 (by decide) (fun c_64 => ?_) (fun c_64 => ?_)
              · refine v_iload_n (pc := 97) C dX4_parting_97 rfl ?_
                subst hQ
                exact v_iret (pc := 98) C dX4_parting_98 (rfl) ((A, ((sA S 10 t), K0, K1v, K2, Us, Ps, Zv, RP, RQ, pa, pb, qa, qb))) rfl (⟨PB.eq (pbC_end hB c_64), rfl, hS, hP, hA1, hU, hRP, hRQ, hRU⟩)
              · refine v_iload (pc := 67) C dX4_parting_67 rfl ?_
                refine v_callS0 (pc := 69) (st := []) C (kJ6_bitCount G _ s (by omega)) ykJ6_bitCount_0f7a4 kw2_197 kw2_196 dX4_parting_69 rfl rfl rfl (by decide) (Nat.le_of_ble_eq_true rfl) (by decide) rfl (Ri_kk (fun r_69 u_69 h_69 => ?_))
                rw [pop_16 (A := A) (by omega)] at h_69
                subst h_69
                have hpl_69 := popN_le s (nP A)
                refine v_iload_n (pc := 72) C dX4_parting_72 rfl ?_
                refine v_icmp_geN (pc := 73) (tgt := 91) C (popN s (nP A)) (b) rfl rfl (by omega) (by omega) dX4_parting_73 (by decide) (fun c_73 => ?_) (fun c_73 => ?_)
                · refine v_iinc1 (pc := 91) C (s) rfl dX4_parting_91 rfl ?_
                  refine v_goto (pc := 94) (tgt := 61) C dX4_parting_94 (by decide) ?_
                  exact V.lessE (ih61  (((s) + 1)) ((b)) (by omega) (by omega) (by omega) (pbC_no hB (fun _ => c_73))) ⟨rfl, rfl, rfl, rfl, rfl, trivial⟩
                · refine v_aload_n (pc := 76) C dX4_parting_76 rfl ?_
                  refine v_iload (pc := 77) C dX4_parting_77 rfl ?_
                  refine V.perm (ws' := (KWd G (a 4) (f 0) K0 ++ (KWd G (a 5) (f 1) K1v ++ (KWd G (a 6) (f 2) K2 ++ (ULd G 10 ua ub Us ++ (PLd G (aNp A) pa pb Ps ++ (QLd G (aNq A) qa qb (fun j => pa (aQp A j)) Zv ++ (CWd G o a RP RQ RU (sA S 10 t))))))))) ((List.perm_append_comm).trans (List.Perm.of_eq (by simp only [List.append_assoc]))) ?_
                  refine V.same (ws' := (KWd G (a 4) (f 0) K0 ++ (KWd G (a 5) (f 1) K1v ++ (KWd G (a 6) (f 2) K2 ++ (ULd G 10 ua ub Us ++ (PLd G (aNp A) pa pb Ps ++ (QLd G (aNq A) qa qb (fun j => pa (aQp A j)) Zv)))))) ++ (CWd G o a RP RQ RU (sA S 10 t))) (by simp only [List.append_assoc]) ?_
                  refine v_callV (pc := 79) (st := []) (q0 := 0) (wr := (KWd G (a 4) (f 0) K0 ++ (KWd G (a 5) (f 1) K1v ++ (KWd G (a 6) (f 2) K2 ++ (ULd G 10 ua ub Us ++ (PLd G (aNp A) pa pb Ps ++ (QLd G (aNq A) qa qb (fun j => pa (aQp A j)) Zv))))))) C (kX4_partsAll G o a RP RQ RU (sA S 10 t) (s) (nP A) (fun q => pv (fun m => ansA A q (nI m)) 21) hnP.1 (by omega) (fun z hz => ⟨hτ2 z hz, pv_lt _ 21⟩)) ykX4_partsAll cvX4_partsAll kw3_10 dX4_parting_79 rfl rfl rfl rfl rfl (by decide) (Nat.le_of_ble_eq_true rfl) (by decide) rfl (Ri_kk (fun r_79 u_79 h_79 => ?_))
                  obtain ⟨e_79, h_79⟩ := h_79
                  rw [e_79]
                  have h_79 : (r_79 = 1 ∧ tells A (s)) ∨ (r_79 = 0 ∧ ¬ tells A (s)) := alI h_79 pa_tells
                  refine V.same (ws' := (KWd G (a 4) (f 0) K0 ++ (KWd G (a 5) (f 1) K1v ++ (KWd G (a 6) (f 2) K2 ++ (ULd G 10 ua ub Us ++ (PLd G (aNp A) pa pb Ps ++ (QLd G (aNq A) qa qb (fun j => pa (aQp A j)) Zv ++ (CWd G o a RP RQ RU (sA S 10 t))))))))) (by simp only [List.append_assoc]) ?_
                  refine V.perm (ws' := (KWd G (a 5) (f 1) K1v ++ (KWd G (a 6) (f 2) K2 ++ (ULd G 10 ua ub Us ++ (PLd G (aNp A) pa pb Ps ++ (QLd G (aNq A) qa qb (fun j => pa (aQp A j)) Zv ++ (CWd G o a RP RQ RU (sA S 10 t) ++ (KWd G (a 4) (f 0) K0)))))))) ((List.perm_append_comm).trans (List.Perm.of_eq (by simp only [List.append_assoc]))) ?_
                  refine V.perm (ws' := (KWd G (a 6) (f 2) K2 ++ (ULd G 10 ua ub Us ++ (PLd G (aNp A) pa pb Ps ++ (QLd G (aNq A) qa qb (fun j => pa (aQp A j)) Zv ++ (CWd G o a RP RQ RU (sA S 10 t) ++ (KWd G (a 4) (f 0) K0 ++ (KWd G (a 5) (f 1) K1v)))))))) ((List.perm_append_comm).trans (List.Perm.of_eq (by simp only [List.append_assoc]))) ?_
                  refine V.perm (ws' := (ULd G 10 ua ub Us ++ (PLd G (aNp A) pa pb Ps ++ (QLd G (aNq A) qa qb (fun j => pa (aQp A j)) Zv ++ (CWd G o a RP RQ RU (sA S 10 t) ++ (KWd G (a 4) (f 0) K0 ++ (KWd G (a 5) (f 1) K1v ++ (KWd G (a 6) (f 2) K2)))))))) ((List.perm_append_comm).trans (List.Perm.of_eq (by simp only [List.append_assoc]))) ?_
                  refine V.perm (ws' := (PLd G (aNp A) pa pb Ps ++ (QLd G (aNq A) qa qb (fun j => pa (aQp A j)) Zv ++ (CWd G o a RP RQ RU (sA S 10 t) ++ (KWd G (a 4) (f 0) K0 ++ (KWd G (a 5) (f 1) K1v ++ (KWd G (a 6) (f 2) K2 ++ (ULd G 10 ua ub Us)))))))) ((List.perm_append_comm).trans (List.Perm.of_eq (by simp only [List.append_assoc]))) ?_
                  refine V.perm (ws' := (QLd G (aNq A) qa qb (fun j => pa (aQp A j)) Zv ++ (CWd G o a RP RQ RU (sA S 10 t) ++ (KWd G (a 4) (f 0) K0 ++ (KWd G (a 5) (f 1) K1v ++ (KWd G (a 6) (f 2) K2 ++ (ULd G 10 ua ub Us ++ (PLd G (aNp A) pa pb Ps)))))))) ((List.perm_append_comm).trans (List.Perm.of_eq (by simp only [List.append_assoc]))) ?_
                  refine V.perm (ws' := (CWd G o a RP RQ RU (sA S 10 t) ++ (KWd G (a 4) (f 0) K0 ++ (KWd G (a 5) (f 1) K1v ++ (KWd G (a 6) (f 2) K2 ++ (ULd G 10 ua ub Us ++ (PLd G (aNp A) pa pb Ps ++ (QLd G (aNq A) qa qb (fun j => pa (aQp A j)) Zv)))))))) ((List.perm_append_comm).trans (List.Perm.of_eq (by simp only [List.append_assoc]))) ?_
                  rcases h_79 with ⟨rfl, q_79⟩ | ⟨rfl, q_79⟩
                  · refine v_if_eqF (pc := 82) (tgt := 91) C (by decide) dX4_parting_82 (by decide) ?_
                    refine v_iload (pc := 85) C dX4_parting_85 rfl ?_
                    refine v_callS0 (pc := 87) (st := []) C (kJ6_bitCount G _ s (by omega)) ykJ6_bitCount_0f7a4 kw2_197 kw2_196 dX4_parting_87 rfl rfl rfl (by decide) (Nat.le_of_ble_eq_true rfl) (by decide) rfl (Ri_kk (fun r_87 u_87 h_87 => ?_))
                    rw [pop_16 (A := A) (by omega)] at h_87
                    subst h_87
                    have hpl_87 := popN_le s (nP A)
                    refine v_istore_n (pc := 90) C dX4_parting_90 (by decide) ?_
                    refine v_iinc1 (pc := 91) C (s) rfl dX4_parting_91 rfl ?_
                    refine v_goto (pc := 94) (tgt := 61) C dX4_parting_94 (by decide) ?_
                    exact V.lessE (ih61  (((s) + 1)) ((popN s (nP A))) (by omega) (by omega) (by omega) (pbC_yes hB (by omega) q_79 c_73)) ⟨rfl, rfl, rfl, rfl, rfl, trivial⟩
                  · refine v_if_eqT (pc := 82) (tgt := 91) C (by decide) dX4_parting_82 (by decide) ?_
                    refine v_iinc1 (pc := 91) C (s) rfl dX4_parting_91 rfl ?_
                    refine v_goto (pc := 94) (tgt := 61) C dX4_parting_94 (by decide) ?_
                    exact V.lessE (ih61  (((s) + 1)) ((b)) (by omega) (by omega) (by omega) (pbC_no hB (fun z => absurd z q_79))) ⟨rfl, rfl, rfl, rfl, rfl, trivial⟩
          exact V.lessE (L61 (2 ^ nP A + 1) (1) ((nP A)) (by omega) (by omega) (by omega) (pbC_1 q_47)) ⟨rfl, rfl, rfl, rfl, rfl, trivial⟩
        · refine v_if_neF (pc := 50) (tgt := 56) C (by decide) dX4_parting_50 (by decide) ?_
          refine v_bipush (pc := 53) (v := (-5)) C dX4_parting_53 (by decide) ?_
          subst hQ
          exact v_iret (pc := 55) C dX4_parting_55 (rfl) ((A, ((sA S 10 t), K0, K1v, K2, Us, Ps, Zv, RP, RQ, pa, pb, qa, qb))) rfl (⟨PB.eq (Or.inl ⟨rfl, fun z hz y => q_47 (tells_mono y)⟩), rfl, hS, hP, hA1, hU, hRP, hRQ, hRU⟩)
      · refine v_aload_n (pc := 17) C dX4_parting_17 rfl ?_
        refine v_get (pc := 18) (v := .ref (a 10)) C inX4 0 rfl rfl 10 (by decide) kw1_92 rfl dX4_parting_18 ?_
        refine v_iload_n (pc := 21) C dX4_parting_21 rfl ?_
        refine v_aload_n (pc := 22) C dX4_parting_22 rfl ?_
        refine v_aload_n (pc := 23) C dX4_parting_23 rfl ?_
        refine v_get (pc := 24) (v := .ref (a 1)) C inX4 0 rfl rfl 1 (by decide) kw1_83 rfl dX4_parting_24 ?_
        refine v_iload_n (pc := 27) C dX4_parting_27 rfl ?_
        refine v_aald (pc := 28) (i := (q)) C 2 4 rfl rfl (by omega) (by decide) dX4_parting_28 ?_
        refine v_rfs (hRQ q (by omega)) ?_
        refine V.perm (ws' := (CWd G o a RP RQ RU (sA S 10 t) ++ (KWd G (a 4) (f 0) K0 ++ (KWd G (a 5) (f 1) K1v ++ (KWd G (a 6) (f 2) K2 ++ (ULd G 10 ua ub Us ++ (PLd G (aNp A) pa pb Ps ++ (QLx G (aNq A) qa qb (fun j => pa (aQp A j)) Zv q ++ (QWd G (qa q) (qb q) (pa (aQp A q)) (Zv q)))))))))) ((List.Perm.append_left _ (List.Perm.append_left _ (List.Perm.append_left _ (List.Perm.append_left _ (List.Perm.append_left _ (List.Perm.append_left _ (QL_focus (show q < aNq A by omega)))))))).trans (List.Perm.of_eq (by simp only [List.append_assoc]))) ?_
        refine V.perm (ws' := (CWd G o a RP RQ RU (sA S 10 t) ++ (KWd G (a 4) (f 0) K0 ++ (KWd G (a 5) (f 1) K1v ++ (KWd G (a 6) (f 2) K2 ++ (PLd G (aNp A) pa pb Ps ++ (QLx G (aNq A) qa qb (fun j => pa (aQp A j)) Zv q ++ (QWd G (qa q) (qb q) (pa (aQp A q)) (Zv q) ++ (ULd G 10 ua ub Us))))))))) ((List.Perm.append_left _ (List.Perm.append_left _ (List.Perm.append_left _ (List.Perm.append_left _ (List.perm_append_comm))))).trans (List.Perm.of_eq (by simp only [List.append_assoc]))) ?_
        refine V.perm (ws' := (CWd G o a RP RQ RU (sA S 10 t) ++ (KWd G (a 4) (f 0) K0 ++ (KWd G (a 5) (f 1) K1v ++ (KWd G (a 6) (f 2) K2 ++ (QLx G (aNq A) qa qb (fun j => pa (aQp A j)) Zv q ++ (QWd G (qa q) (qb q) (pa (aQp A q)) (Zv q) ++ (ULd G 10 ua ub Us ++ (PLd G (aNp A) pa pb Ps))))))))) ((List.Perm.append_left _ (List.Perm.append_left _ (List.Perm.append_left _ (List.Perm.append_left _ (List.perm_append_comm))))).trans (List.Perm.of_eq (by simp only [List.append_assoc]))) ?_
        refine V.perm (ws' := (CWd G o a RP RQ RU (sA S 10 t) ++ (KWd G (a 4) (f 0) K0 ++ (KWd G (a 5) (f 1) K1v ++ (KWd G (a 6) (f 2) K2 ++ (QWd G (qa q) (qb q) (pa (aQp A q)) (Zv q) ++ (ULd G 10 ua ub Us ++ (PLd G (aNp A) pa pb Ps ++ (QLx G (aNq A) qa qb (fun j => pa (aQp A j)) Zv q))))))))) ((List.Perm.append_left _ (List.Perm.append_left _ (List.Perm.append_left _ (List.Perm.append_left _ (List.perm_append_comm))))).trans (List.Perm.of_eq (by simp only [List.append_assoc]))) ?_
        refine V.perm (ws' := (CWd G o a RP RQ RU (sA S 10 t) ++ (KWd G (a 4) (f 0) K0 ++ (KWd G (a 5) (f 1) K1v ++ (KWd G (a 6) (f 2) K2 ++ (QWd G (qa q) (qb q) (pa (aQp A q)) (Zv q) ++ (ULd G 10 ua ub Us ++ (PLx G (aNp A) pa pb Ps (aQp A q) ++ (PWd G (pa (aQp A q)) (pb (aQp A q)) (Ps (aQp A q)) ++ (QLx G (aNq A) qa qb (fun j => pa (aQp A j)) Zv q)))))))))) ((List.Perm.append_left _ (List.Perm.append_left _ (List.Perm.append_left _ (List.Perm.append_left _ (List.Perm.append_left _ (List.Perm.append_left _ (List.Perm.append_right _ (PL_focus (hI.2.2.2.2.2.1 q (by omega)).1)))))))).trans (List.Perm.of_eq (by simp only [List.append_assoc]))) ?_
        refine V.perm (ws' := (CWd G o a RP RQ RU (sA S 10 t) ++ (KWd G (a 4) (f 0) K0 ++ (KWd G (a 5) (f 1) K1v ++ (KWd G (a 6) (f 2) K2 ++ (QWd G (qa q) (qb q) (pa (aQp A q)) (Zv q) ++ (PLx G (aNp A) pa pb Ps (aQp A q) ++ (PWd G (pa (aQp A q)) (pb (aQp A q)) (Ps (aQp A q)) ++ (QLx G (aNq A) qa qb (fun j => pa (aQp A j)) Zv q ++ (ULd G 10 ua ub Us)))))))))) ((List.Perm.append_left _ (List.Perm.append_left _ (List.Perm.append_left _ (List.Perm.append_left _ (List.Perm.append_left _ (List.perm_append_comm)))))).trans (List.Perm.of_eq (by simp only [List.append_assoc]))) ?_
        refine V.perm (ws' := (CWd G o a RP RQ RU (sA S 10 t) ++ (KWd G (a 4) (f 0) K0 ++ (KWd G (a 5) (f 1) K1v ++ (KWd G (a 6) (f 2) K2 ++ (QWd G (qa q) (qb q) (pa (aQp A q)) (Zv q) ++ (PWd G (pa (aQp A q)) (pb (aQp A q)) (Ps (aQp A q)) ++ (QLx G (aNq A) qa qb (fun j => pa (aQp A j)) Zv q ++ (ULd G 10 ua ub Us ++ (PLx G (aNp A) pa pb Ps (aQp A q))))))))))) ((List.Perm.append_left _ (List.Perm.append_left _ (List.Perm.append_left _ (List.Perm.append_left _ (List.Perm.append_left _ (List.perm_append_comm)))))).trans (List.Perm.of_eq (by simp only [List.append_assoc]))) ?_
        refine V.perm (ws' := (CWd G o a RP RQ RU (sA S 10 t) ++ (KWd G (a 4) (f 0) K0 ++ (KWd G (a 5) (f 1) K1v ++ (KWd G (a 6) (f 2) K2 ++ (QWd G (qa q) (qb q) (pa (aQp A q)) (Zv q) ++ (PWd G (pa (aQp A q)) (pb (aQp A q)) (Ps (aQp A q)) ++ (ULd G 10 ua ub Us ++ (PLx G (aNp A) pa pb Ps (aQp A q) ++ (QLx G (aNq A) qa qb (fun j => pa (aQp A j)) Zv q)))))))))) ((List.Perm.append_left _ (List.Perm.append_left _ (List.Perm.append_left _ (List.Perm.append_left _ (List.Perm.append_left _ (List.Perm.append_left _ (List.perm_append_comm))))))).trans (List.Perm.of_eq (by simp only [List.append_assoc]))) ?_
        refine V.perm (ws' := (KWd G (a 4) (f 0) K0 ++ (KWd G (a 5) (f 1) K1v ++ (KWd G (a 6) (f 2) K2 ++ (QWd G (qa q) (qb q) (pa (aQp A q)) (Zv q) ++ (PWd G (pa (aQp A q)) (pb (aQp A q)) (Ps (aQp A q)) ++ (ULd G 10 ua ub Us ++ (PLx G (aNp A) pa pb Ps (aQp A q) ++ (QLx G (aNq A) qa qb (fun j => pa (aQp A j)) Zv q ++ (CWd G o a RP RQ RU (sA S 10 t))))))))))) ((List.perm_append_comm).trans (List.Perm.of_eq (by simp only [List.append_assoc]))) ?_
        refine V.perm (ws' := (KWd G (a 4) (f 0) K0 ++ (KWd G (a 6) (f 2) K2 ++ (QWd G (qa q) (qb q) (pa (aQp A q)) (Zv q) ++ (PWd G (pa (aQp A q)) (pb (aQp A q)) (Ps (aQp A q)) ++ (ULd G 10 ua ub Us ++ (PLx G (aNp A) pa pb Ps (aQp A q) ++ (QLx G (aNq A) qa qb (fun j => pa (aQp A j)) Zv q ++ (CWd G o a RP RQ RU (sA S 10 t) ++ (KWd G (a 5) (f 1) K1v)))))))))) ((List.Perm.append_left _ (List.perm_append_comm)).trans (List.Perm.of_eq (by simp only [List.append_assoc]))) ?_
        refine V.perm (ws' := (KWd G (a 4) (f 0) K0 ++ (KWd G (a 6) (f 2) K2 ++ (QWd G (qa q) (qb q) (pa (aQp A q)) (Zv q) ++ (ULd G 10 ua ub Us ++ (PLx G (aNp A) pa pb Ps (aQp A q) ++ (QLx G (aNq A) qa qb (fun j => pa (aQp A j)) Zv q ++ (CWd G o a RP RQ RU (sA S 10 t) ++ (KWd G (a 5) (f 1) K1v ++ (PWd G (pa (aQp A q)) (pb (aQp A q)) (Ps (aQp A q)))))))))))) ((List.Perm.append_left _ (List.Perm.append_left _ (List.Perm.append_left _ (List.perm_append_comm)))).trans (List.Perm.of_eq (by simp only [List.append_assoc]))) ?_
        refine V.perm (ws' := (KWd G (a 4) (f 0) K0 ++ (KWd G (a 6) (f 2) K2 ++ (ULd G 10 ua ub Us ++ (PLx G (aNp A) pa pb Ps (aQp A q) ++ (QLx G (aNq A) qa qb (fun j => pa (aQp A j)) Zv q ++ (CWd G o a RP RQ RU (sA S 10 t) ++ (KWd G (a 5) (f 1) K1v ++ (PWd G (pa (aQp A q)) (pb (aQp A q)) (Ps (aQp A q)) ++ (QWd G (qa q) (qb q) (pa (aQp A q)) (Zv q))))))))))) ((List.Perm.append_left _ (List.Perm.append_left _ (List.perm_append_comm))).trans (List.Perm.of_eq (by simp only [List.append_assoc]))) ?_
        refine V.same (ws' := (KWd G (a 4) (f 0) K0 ++ (KWd G (a 6) (f 2) K2 ++ (ULd G 10 ua ub Us ++ (PLx G (aNp A) pa pb Ps (aQp A q) ++ (QLx G (aNq A) qa qb (fun j => pa (aQp A j)) Zv q))))) ++ (CWd G o a RP RQ RU (sA S 10 t) ++ (KWd G (a 5) (f 1) K1v ++ (PWd G (pa (aQp A q)) (pb (aQp A q)) (Ps (aQp A q)) ++ (QWd G (qa q) (qb q) (pa (aQp A q)) (Zv q)))))) (by simp only [List.append_assoc]) ?_
        refine v_callV (pc := 29) (st := [.int (nI (q)), .ref (a 10)]) (q0 := 0) (wr := (KWd G (a 4) (f 0) K0 ++ (KWd G (a 6) (f 2) K2 ++ (ULd G 10 ua ub Us ++ (PLx G (aNp A) pa pb Ps (aQp A q) ++ (QLx G (aNq A) qa qb (fun j => pa (aQp A j)) Zv q)))))) C (kX4_pairsParted G o (pa (aQp A q)) (qa q) a (f 1) (pb (aQp A q)) (qb q) RP RQ RU (sA S 10 t) K1v (Ps (aQp A q)) (Zv q) (fun m => ansA A q (nI m)) (qZ A q) (hA1 q (by omega))) ykX4_pairsParted cvX4_pairsParted kw3_6 dX4_parting_29 rfl rfl rfl rfl rfl (by decide) (Nat.le_of_ble_eq_true rfl) (by decide) rfl (Ri_kk (fun r_29 u_29 h_29 => ?_))
        obtain ⟨er_29, eS_29, hQ_29⟩ := h_29
        subst er_29
        rw [eS_29]
        refine V.same (ws' := (KWd G (a 4) (f 0) K0 ++ (KWd G (a 6) (f 2) K2 ++ (ULd G 10 ua ub Us ++ (PLx G (aNp A) pa pb Ps (aQp A q) ++ (QLx G (aNq A) qa qb (fun j => pa (aQp A j)) Zv q ++ (CWd G o a RP RQ RU (sA S 10 t) ++ (KWd G (a 5) (f 1) u_29.2.1 ++ (PWd G (pa (aQp A q)) (pb (aQp A q)) (Ps (aQp A q)) ++ (QWd G (qa q) (qb q) (pa (aQp A q)) u_29.2.2)))))))))) (by simp only [List.append_assoc]) ?_
        refine V.perm (ws' := (KWd G (a 6) (f 2) K2 ++ (ULd G 10 ua ub Us ++ (PLx G (aNp A) pa pb Ps (aQp A q) ++ (QLx G (aNq A) qa qb (fun j => pa (aQp A j)) Zv q ++ (CWd G o a RP RQ RU (sA S 10 t) ++ (KWd G (a 5) (f 1) u_29.2.1 ++ (PWd G (pa (aQp A q)) (pb (aQp A q)) (Ps (aQp A q)) ++ (QWd G (qa q) (qb q) (pa (aQp A q)) u_29.2.2 ++ (KWd G (a 4) (f 0) K0)))))))))) ((List.perm_append_comm).trans (List.Perm.of_eq (by simp only [List.append_assoc]))) ?_
        refine V.perm (ws' := (KWd G (a 6) (f 2) K2 ++ (ULd G 10 ua ub Us ++ (PLx G (aNp A) pa pb Ps (aQp A q) ++ (QLx G (aNq A) qa qb (fun j => pa (aQp A j)) Zv q ++ (CWd G o a RP RQ RU (sA S 10 t) ++ (PWd G (pa (aQp A q)) (pb (aQp A q)) (Ps (aQp A q)) ++ (QWd G (qa q) (qb q) (pa (aQp A q)) u_29.2.2 ++ (KWd G (a 4) (f 0) K0 ++ (KWd G (a 5) (f 1) u_29.2.1)))))))))) ((List.Perm.append_left _ (List.Perm.append_left _ (List.Perm.append_left _ (List.Perm.append_left _ (List.Perm.append_left _ (List.perm_append_comm)))))).trans (List.Perm.of_eq (by simp only [List.append_assoc]))) ?_
        refine V.perm (ws' := (ULd G 10 ua ub Us ++ (PLx G (aNp A) pa pb Ps (aQp A q) ++ (QLx G (aNq A) qa qb (fun j => pa (aQp A j)) Zv q ++ (CWd G o a RP RQ RU (sA S 10 t) ++ (PWd G (pa (aQp A q)) (pb (aQp A q)) (Ps (aQp A q)) ++ (QWd G (qa q) (qb q) (pa (aQp A q)) u_29.2.2 ++ (KWd G (a 4) (f 0) K0 ++ (KWd G (a 5) (f 1) u_29.2.1 ++ (KWd G (a 6) (f 2) K2)))))))))) ((List.perm_append_comm).trans (List.Perm.of_eq (by simp only [List.append_assoc]))) ?_
        refine V.perm (ws' := (ULd G 10 ua ub Us ++ (PLx G (aNp A) pa pb Ps (aQp A q) ++ (QLx G (aNq A) qa qb (fun j => pa (aQp A j)) Zv q ++ (CWd G o a RP RQ RU (sA S 10 t) ++ (PWd G (pa (aQp A q)) (pb (aQp A q)) (Ps (aQp A q)) ++ (KWd G (a 4) (f 0) K0 ++ (KWd G (a 5) (f 1) u_29.2.1 ++ (KWd G (a 6) (f 2) K2 ++ (QWd G (qa q) (qb q) (pa (aQp A q)) u_29.2.2)))))))))) ((List.Perm.append_left _ (List.Perm.append_left _ (List.Perm.append_left _ (List.Perm.append_left _ (List.Perm.append_left _ (List.perm_append_comm)))))).trans (List.Perm.of_eq (by simp only [List.append_assoc]))) ?_
        refine V.perm (ws' := (ULd G 10 ua ub Us ++ (PLx G (aNp A) pa pb Ps (aQp A q) ++ (QLx G (aNq A) qa qb (fun j => pa (aQp A j)) Zv q ++ (CWd G o a RP RQ RU (sA S 10 t) ++ (KWd G (a 4) (f 0) K0 ++ (KWd G (a 5) (f 1) u_29.2.1 ++ (KWd G (a 6) (f 2) K2 ++ (QWd G (qa q) (qb q) (pa (aQp A q)) u_29.2.2 ++ (PWd G (pa (aQp A q)) (pb (aQp A q)) (Ps (aQp A q)))))))))))) ((List.Perm.append_left _ (List.Perm.append_left _ (List.Perm.append_left _ (List.Perm.append_left _ (List.perm_append_comm))))).trans (List.Perm.of_eq (by simp only [List.append_assoc]))) ?_
        refine V.perm (ws' := (PLx G (aNp A) pa pb Ps (aQp A q) ++ (QLx G (aNq A) qa qb (fun j => pa (aQp A j)) Zv q ++ (CWd G o a RP RQ RU (sA S 10 t) ++ (KWd G (a 4) (f 0) K0 ++ (KWd G (a 5) (f 1) u_29.2.1 ++ (KWd G (a 6) (f 2) K2 ++ (QWd G (qa q) (qb q) (pa (aQp A q)) u_29.2.2 ++ (PWd G (pa (aQp A q)) (pb (aQp A q)) (Ps (aQp A q)) ++ (ULd G 10 ua ub Us)))))))))) ((List.perm_append_comm).trans (List.Perm.of_eq (by simp only [List.append_assoc]))) ?_
        refine V.perm (ws' := (QLx G (aNq A) qa qb (fun j => pa (aQp A j)) Zv q ++ (CWd G o a RP RQ RU (sA S 10 t) ++ (KWd G (a 4) (f 0) K0 ++ (KWd G (a 5) (f 1) u_29.2.1 ++ (KWd G (a 6) (f 2) K2 ++ (QWd G (qa q) (qb q) (pa (aQp A q)) u_29.2.2 ++ (PWd G (pa (aQp A q)) (pb (aQp A q)) (Ps (aQp A q)) ++ (ULd G 10 ua ub Us ++ (PLx G (aNp A) pa pb Ps (aQp A q))))))))))) ((List.perm_append_comm).trans (List.Perm.of_eq (by simp only [List.append_assoc]))) ?_
        refine V.perm (ws' := (CWd G o a RP RQ RU (sA S 10 t) ++ (KWd G (a 4) (f 0) K0 ++ (KWd G (a 5) (f 1) u_29.2.1 ++ (KWd G (a 6) (f 2) K2 ++ (QWd G (qa q) (qb q) (pa (aQp A q)) u_29.2.2 ++ (PWd G (pa (aQp A q)) (pb (aQp A q)) (Ps (aQp A q)) ++ (ULd G 10 ua ub Us ++ (PLx G (aNp A) pa pb Ps (aQp A q) ++ (QLx G (aNq A) qa qb (fun j => pa (aQp A j)) Zv q)))))))))) ((List.perm_append_comm).trans (List.Perm.of_eq (by simp only [List.append_assoc]))) ?_
        refine V.perm (ws' := (CWd G o a RP RQ RU (sA S 10 t) ++ (KWd G (a 4) (f 0) K0 ++ (KWd G (a 5) (f 1) u_29.2.1 ++ (KWd G (a 6) (f 2) K2 ++ (PWd G (pa (aQp A q)) (pb (aQp A q)) (Ps (aQp A q)) ++ (ULd G 10 ua ub Us ++ (PLx G (aNp A) pa pb Ps (aQp A q) ++ (QLx G (aNq A) qa qb (fun j => pa (aQp A j)) Zv q ++ (QWd G (qa q) (qb q) (pa (aQp A q)) u_29.2.2)))))))))) ((List.Perm.append_left _ (List.Perm.append_left _ (List.Perm.append_left _ (List.Perm.append_left _ (List.perm_append_comm))))).trans (List.Perm.of_eq (by simp only [List.append_assoc]))) ?_
        refine V.perm (ws' := (CWd G o a RP RQ RU (sA S 10 t) ++ (KWd G (a 4) (f 0) K0 ++ (KWd G (a 5) (f 1) u_29.2.1 ++ (KWd G (a 6) (f 2) K2 ++ (PWd G (pa (aQp A q)) (pb (aQp A q)) (Ps (aQp A q)) ++ (ULd G 10 ua ub Us ++ (PLx G (aNp A) pa pb Ps (aQp A q) ++ (QLd G (aNq A) qa qb (fun j => pa (aQp A j)) (va_up Zv q u_29.2.2)))))))))) (List.Perm.append_left _ (List.Perm.append_left _ (List.Perm.append_left _ (List.Perm.append_left _ (List.Perm.append_left _ (List.Perm.append_left _ (List.Perm.append_left _ (QL_back (show q < aNq A by omega) u_29.2.2)))))))) ?_
        refine V.perm (ws' := (CWd G o a RP RQ RU (sA S 10 t) ++ (KWd G (a 4) (f 0) K0 ++ (KWd G (a 5) (f 1) u_29.2.1 ++ (KWd G (a 6) (f 2) K2 ++ (PWd G (pa (aQp A q)) (pb (aQp A q)) (Ps (aQp A q)) ++ (ULd G 10 ua ub Us ++ (QLd G (aNq A) qa qb (fun j => pa (aQp A j)) (va_up Zv q u_29.2.2) ++ (PLx G (aNp A) pa pb Ps (aQp A q)))))))))) ((List.Perm.append_left _ (List.Perm.append_left _ (List.Perm.append_left _ (List.Perm.append_left _ (List.Perm.append_left _ (List.Perm.append_left _ (List.perm_append_comm))))))).trans (List.Perm.of_eq (by simp only [List.append_assoc]))) ?_
        refine V.perm (ws' := (CWd G o a RP RQ RU (sA S 10 t) ++ (KWd G (a 4) (f 0) K0 ++ (KWd G (a 5) (f 1) u_29.2.1 ++ (KWd G (a 6) (f 2) K2 ++ (ULd G 10 ua ub Us ++ (QLd G (aNq A) qa qb (fun j => pa (aQp A j)) (va_up Zv q u_29.2.2) ++ (PLx G (aNp A) pa pb Ps (aQp A q) ++ (PWd G (pa (aQp A q)) (pb (aQp A q)) (Ps (aQp A q))))))))))) ((List.Perm.append_left _ (List.Perm.append_left _ (List.Perm.append_left _ (List.Perm.append_left _ (List.perm_append_comm))))).trans (List.Perm.of_eq (by simp only [List.append_assoc]))) ?_
        refine V.perm (ws' := (CWd G o a RP RQ RU (sA S 10 t) ++ (KWd G (a 4) (f 0) K0 ++ (KWd G (a 5) (f 1) u_29.2.1 ++ (KWd G (a 6) (f 2) K2 ++ (ULd G 10 ua ub Us ++ (QLd G (aNq A) qa qb (fun j => pa (aQp A j)) (va_up Zv q u_29.2.2) ++ (PLd G (aNp A) pa pb Ps)))))))) (List.Perm.append_left _ (List.Perm.append_left _ (List.Perm.append_left _ (List.Perm.append_left _ (List.Perm.append_left _ (List.Perm.append_left _ (PL_same (hI.2.2.2.2.2.1 q (by omega)).1))))))) ?_
        refine V.perm (ws' := (CWd G o a RP RQ RU (sA S 10 t) ++ (KWd G (a 4) (f 0) K0 ++ (KWd G (a 5) (f 1) u_29.2.1 ++ (KWd G (a 6) (f 2) K2 ++ (ULd G 10 ua ub Us ++ (PLd G (aNp A) pa pb Ps ++ (QLd G (aNq A) qa qb (fun j => pa (aQp A j)) (va_up Zv q u_29.2.2))))))))) ((List.Perm.append_left _ (List.Perm.append_left _ (List.Perm.append_left _ (List.Perm.append_left _ (List.Perm.append_left _ (List.perm_append_comm)))))).trans (List.Perm.of_eq (by simp only [List.append_assoc]))) ?_
        refine v_iastN (pc := 32) (i := (q)) (f := t) C 8 rfl (by omega) (by decide) dX4_parting_32 (ws' := (CWd G o a RP RQ RU (sA S 10 (upd (t) (q) (nI (pv (fun m => ansA A q (nI m)) 21)))) ++ (KWd G (a 4) (f 0) K0 ++ (KWd G (a 5) (f 1) u_29.2.1 ++ (KWd G (a 6) (f 2) K2 ++ (ULd G 10 ua ub Us ++ (PLd G (aNp A) pa pb Ps ++ (QLd G (aNq A) qa qb (fun j => pa (aQp A j)) (va_up Zv q u_29.2.2))))))))) rfl ?_
        refine v_iinc1 (pc := 33) C (q) rfl dX4_parting_33 rfl ?_
        refine v_goto (pc := 36) (tgt := 12) C dX4_parting_36 (by decide) ?_
        exact V.lessE (ih12  (((q) + 1)) ((upd (t) (q) (nI (pv (fun m => ansA A q (nI m)) 21)))) (u_29.2.1) ((va_up Zv q u_29.2.2)) (by omega) (by omega) (upd_in (g := fun z => nI ((fun q => pv (fun m => ansA A q (nI m)) 21) z)) hτ rfl) (QAll_up hA1 hQ_29)) ⟨rfl, rfl, rfl, trivial⟩
  exact V.lessE (L12 (nP A + 1) (0) ((mA S 10)) (K1) (Zs) (by omega) (by omega) (fun z hz => absurd hz (Nat.not_lt_zero z)) (hA)) ⟨rfl, rfl, rfl, trivial⟩
