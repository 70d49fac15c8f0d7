/-! the desk: price, give, run, choices, gap -/
theorem tl_ans {A B : AS} (h1 : B.1 = A.1) (h2 : B.2.1 = A.2.1) (q : Nat) (m : Int32) : ansA B q m = ansA A q m := by
  obtain ⟨P, Q, R⟩ := A
  obtain ⟨P2, Q2, R2⟩ := B
  have e1 : P2 = P := h1
  have e2 : Q2 = Q := h2
  subst e1; subst e2; rfl
theorem ch_cong {A B : AS} {q : Nat} (h : ∀ m, ansA B q m = ansA A q m) : ∀ i, chK B q i = chK A q i
  | 0 => rfl
  | i + 1 => by
    have ih := ch_cong h i
    show (if ansA B q (nI (smN i)) ∈ (chK B q i).map Prod.fst then chK B q i else chK B q i ++ [(ansA B q (nI (smN i)), nI (smN i))]) = (if ansA A q (nI (smN i)) ∈ (chK A q i).map Prod.fst then chK A q i else chK A q i ++ [(ansA A q (nI (smN i)), nI (smN i))])
    rw [ih, h]
theorem lines_cong {A B : AS} : ∀ n, (∀ p, p < n → aN B p = aN A p) → linesA B n = linesA A n
  | 0, _ => rfl
  | n + 1, h => by
    have ih := lines_cong n (fun p hp => h p (by omega))
    show linesA B n + aN B n = linesA A n + aN A n
    rw [ih, h n (by omega)]
theorem tl_lines {A B : AS} (h1 : B.1 = A.1) : linesA B (aNp B) = linesA A (aNp A) := by
  have e : aNp B = aNp A := by unfold aNp; rw [h1]
  rw [e]
  exact lines_cong _ (fun p _ => by unfold aN; rw [h1])
theorem tl_P {A B : AS} {Ps : Nat → MS} (h1 : B.1 = A.1) (h2 : B.2.1 = A.2.1) (h : PAll A Ps) : PAll B Ps := by
  obtain ⟨P, Q, R⟩ := A
  obtain ⟨P2, Q2, R2⟩ := B
  have e1 : P2 = P := h1
  have e2 : Q2 = Q := h2
  subst e1; subst e2; exact h
theorem tl_Q {A B : AS} {Ps Zs : Nat → MS} (h1 : B.1 = A.1) (h2 : B.2.1 = A.2.1) (h : QAll A Ps Zs) : QAll B Ps Zs := by
  obtain ⟨P, Q, R⟩ := A
  obtain ⟨P2, Q2, R2⟩ := B
  have e1 : P2 = P := h1
  have e2 : Q2 = Q := h2
  subst e1; subst e2; exact h
theorem tl_Ch {A B : AS} {S T : MS} (h1 : B.1 = A.1) (h2 : B.2.1 = A.2.1) (h3 : aC B = aC A) (e15 : mI T 15 = mI S 15) (e16 : mI T 16 = mI S 16) (h : ChRel A S) : ChRel B T := by
  obtain ⟨c, q, a1, a2, a3, a4, a5, a6⟩ := h
  refine ⟨c, q, e16.trans a1, e15.trans a2, a3, a4, by rw [h3]; exact a5, ?_⟩
  rcases a6 with z | ⟨z, y⟩
  · exact Or.inl z
  · have e : aNq B = aNq A := by unfold aNq; rw [h2]
    exact Or.inr ⟨by rw [e]; exact z, by rw [h3, ch_cong (tl_ans h1 h2 q)]; exact y⟩
theorem tl_S {A B : AS} {S T : MS} (h1 : B.1 = A.1) (h2 : B.2.1 = A.2.1) (e11 : mI T 11 = mI S 11) (e12 : mI T 12 = mI S 12) (h : SRel A S) (hp : ∀ k, k < 7 → mA T 3 k = nI (aP B k)) : SRel B T := by
  refine ⟨?_, ?_, hp⟩
  · rw [e11, h.1]; unfold aNp; rw [h1]
  · rw [e12, h.2.1]; unfold aNq; rw [h2]
def setP (A : AS) (κ ν : Nat) : AS := (A.1, A.2.1, A.2.2.1, A.2.2.2.1, A.2.2.2.2.1, A.2.2.2.2.2.1, fun j => if j = κ then ν else aP A j)
theorem gvn_bl {L : Int64} {g : Nat → Option Int32} : ∀ n, (∀ q, q < n → (lb L q = true ↔ (g q).isSome = true)) → (bl L n).length = gvn g n
  | 0, _ => rfl
  | n + 1, h => by
    have ih := gvn_bl n (fun q hq => h q (by omega))
    show _ = gvn g n + (if (g n).isSome then 1 else 0)
    by_cases b : lb L n = true
    · rw [bl_yes b, List.length_append, ih, if_pos ((h n (by omega)).mp b)]; rfl
    · rw [bl_no b, ih, if_neg (fun z => b ((h n (by omega)).mpr z))]; rfl
theorem gvn_none {g : Nat → Option Int32} {n : Nat} (h : ∀ q, n ≤ q → g q = none) : ∀ d, gvn g (n + d) = gvn g n
  | 0 => rfl
  | d + 1 => by
    have ih := gvn_none h d
    show gvn g (n + d) + (if (g (n + d)).isSome then 1 else 0) = gvn g n
    rw [ih, h (n + d) (by omega)]; rfl
theorem URel_note {A : AS} {u q : Nat} {v : Int32} {U : MS} (hq : q < 60) (h : URel A u U) : URel (putG A u q v) u (sL (sA U 0 (upd (mA U 0) q v)) (vp_updL (mL U) 1 (mL U 1 ||| (1 : Int64) <<< ((nI q).toInt64 &&& 63)))) := by
  refine ⟨fun j hj => ?_, fun j h1 h2 => ?_⟩
  · show ((if u = u ∧ j = q then some v else aG A u j) = none ∧ ¬ lb (mL U 1 ||| (1 : Int64) <<< ((nI q).toInt64 &&& 63)) j = true) ∨ ∃ z, (if u = u ∧ j = q then some v else aG A u j) = some z ∧ lb (mL U 1 ||| (1 : Int64) <<< ((nI q).toInt64 &&& 63)) j = true ∧ upd (mA U 0) q v j = z
    rw [lb_or (by omega)]
    by_cases e : j = q
    · subst e
      rw [if_pos ⟨rfl, rfl⟩, decide_eq_true rfl, Bool.or_true]
      exact Or.inr ⟨v, rfl, rfl, pk_us⟩
    · rw [if_neg (fun z => e z.2), decide_eq_false (fun z => e z.symm), Bool.or_false, pk_un e]
      exact h.1 j hj
  · show lb (mL U 1 ||| (1 : Int64) <<< ((nI q).toInt64 &&& 63)) j = false
    rw [lb_or (by omega), h.2 j h1 h2, decide_eq_false (by omega)]; rfl
theorem URel_put {A : AS} {u w q : Nat} {v : Int32} {U : MS} (hw : w ≠ u) (h : URel A w U) : URel (putG A u q v) w U := by
  refine ⟨fun j hj => ?_, h.2⟩
  show ((if w = u ∧ j = q then some v else aG A w j) = none ∧ _) ∨ ∃ z, (if w = u ∧ j = q then some v else aG A w j) = some z ∧ _
  rw [if_neg (fun z => hw z.1)]
  exact h.1 j hj
theorem URel_all {A : AS} {u q : Nat} {v : Int32} {Us : Nat → MS} {T : MS} (h : ∀ w, w < 10 → URel A w (Us w)) (hT : URel (putG A u q v) u T) : ∀ w, w < 10 → URel (putG A u q v) w (va_up Us u T w) := by
  intro w hw
  by_cases e : w = u
  · subst e; rw [va_up_self]; exact hT
  · rw [va_up_ne _ _ e]; exact URel_put e (h w hw)
theorem note_len {A : AS} {u q : Nat} {v : Int32} {U : MS} (hI : AInv A) (hq : q < aNq A) (h : URel A u U) : (bl (mL U 1 ||| (1 : Int64) <<< ((nI q).toInt64 &&& 63)) 64).length = gvn (aG (putG A u q v) u) (aNq A) := by
  have hn := hI.2.2.2.2.1
  have hN := URel_note (v := v) (q := q) (by omega) h
  have hz : ∀ j, aNq A ≤ j → aG (putG A u q v) u j = none := by
    intro j hj
    show (if u = u ∧ j = q then some v else aG A u j) = none
    rw [if_neg (fun z => by omega)]
    exact Classical.byContradiction (fun z => by have := hI.2.2.2.2.2.2.2.2.1 u j z; omega)
  rw [gvn_bl (g := aG (putG A u q v) u) 64]
  · have := gvn_none hz (64 - aNq A)
    rw [show aNq A + (64 - aNq A) = 64 by omega] at this
    exact this
  · intro j hj
    rcases Nat.lt_or_ge j 60 with y | y
    · rcases hN.1 j y with ⟨a, b⟩ | ⟨z, a, b, -⟩
      · exact ⟨fun w => absurd w b, fun w => by rw [a] at w; exact absurd w (by decide)⟩
      · exact ⟨fun _ => by rw [a]; rfl, fun _ => b⟩
    · have b := hN.2 j y hj
      have e := hz j (by omega)
      exact ⟨fun w => by have w2 : lb (mL U 1 ||| (1 : Int64) <<< ((nI q).toInt64 &&& 63)) j = false := b; rw [w] at w2; exact absurd w2 (by decide), fun w => by rw [e] at w; exact absurd w (by decide)⟩
theorem row_eq {rw : Nat → Int32} (h : okr rw) : nI (4 * tn (rw 0)) = nI (4 * tn (rw 1)) ↔ rw 0 = rw 1 := by
  rcases h 0 (by decide) with a | a <;> rcases h 1 (by decide) with b | b <;> rw [a, b] <;> decide
theorem TRel_run {A : AS} {S K : MS} {p : Nat} {n m : Int32} (hn : aN A p ≤ 20) (hF : KFin (aN A p) (aRun A p m n) K) (h14 : mI S 14 = 1) : TRel (A.1, A.2.1, some (aN A p, endR (aN A p) (aRun A p m n), (aRun A p m n).2.1), A.2.2.2) S K := by
  refine Or.inr ⟨_, _, _, rfl, hn, h14, hF.2.2.2.2.1, fun k hk => (hF.1 k hk).trans (endR_lt hk).symm, okK_fin hF, fun w hw => kCell_fin hF hw, ?_, ?_, hF.2.2.2.1⟩
  · show _ = (if (aRun A p m n).2.2.1 < aN A p then (1 : Int32) else 0)
    by_cases q : (aRun A p m n).2.2.1 < aN A p
    · rw [if_pos q, if_neg (fun z => (sp8 hF).mp z q)]
    · rw [if_neg q, if_pos ((sp8 hF).mpr q)]
  · show _ = (if (aRun A p m n).2.2.2.2.2.1 0 = (aRun A p m n).2.2.2.2.2.1 1 then (1 : Int32) else 0)
    rw [hF.2.2.1 0 (by decide), hF.2.2.1 1 (by decide)]
    by_cases q : (aRun A p m n).2.2.2.2.2.1 0 = (aRun A p m n).2.2.2.2.2.1 1
    · rw [if_pos q, if_pos ((row_eq hF.2.2.2.2.2.2.2).mpr q)]
    · rw [if_neg q, if_neg (fun z => q ((row_eq hF.2.2.2.2.2.2.2).mp z))]
theorem fl_bl {A : AS} {j k : Nat} {M : Int64} (h : ffP (fun m b => feP (aO A j) (aX A j) (aY A j) (aN A j) k (nI m) (nI b - 9)) M 10) : ∀ n, n ≤ 19 → flK A j k n = (bl M n).map (fun b => nI b - 9)
  | 0, _ => rfl
  | n + 1, hn => by
    have ih := fl_bl h n (by omega)
    have hb := h n (by omega)
    by_cases b : lb M n = true
    · rw [bl_yes b, List.map_append, ← ih]
      exact flK_add (fun m hm => (hb.mp b).2 m hm)
    · rw [bl_no b, ← ih]
      exact flK_no (fun z => b (hb.mpr ⟨by omega, z⟩))
theorem bl_19 {M : Int64} (h : ∀ b, b < 64 → 19 ≤ b → lb M b = false) : ∀ d, 19 + d ≤ 64 → bl M (19 + d) = bl M 19
  | 0, _ => rfl
  | d + 1, hd => by
    show bl M (19 + d + 1) = _
    rw [bl_no (by rw [h (19 + d) (by omega) (by omega)]; decide)]
    exact bl_19 h d (by omega)
theorem ff_hi {P : Nat → Nat → Prop} {M : Int64} (h : ffP P M 10) : ∀ b, b < 64 → 19 ≤ b → lb M b = false := by
  intro b hb h19
  rcases Bool.eq_false_or_eq_true (lb M b) with z | z
  · have := ((h b hb).mp z).1; omega
  · exact z
theorem fl_all {A : AS} {j k : Nat} {M : Int64} (h : ffP (fun m b => feP (aO A j) (aX A j) (aY A j) (aN A j) k (nI m) (nI b - 9)) M 10) : flK A j k 19 = (bl M 64).map (fun b => nI b - 9) := by
  rw [fl_bl h 19 (Nat.le_refl _), ← bl_19 (ff_hi h) 45 (by decide)]
theorem gap_bad {A : AS} {p l : Int32} {j : Nat} (hj : j < aNp A) (h10 : aNp A ≤ 10) (e : p = nI j) (hb : l < 0 ∨ nI (aN A j) ≤ l) : s_gap A p l = (-1, A) := by
  subst e
  unfold s_gap
  rw [if_neg (nbad hj (by omega)), tn_nI (by omega)]
  rcases hb with q | q
  · rw [if_pos q]
  · by_cases z : l < 0
    · rw [if_pos z]
    · rw [if_neg z, if_pos q]
def rmX4_price : Room := { frames := 0, cells := 0, slots := 0, locals := 0 }
set_option maxHeartbeats 4000000 in
set_option maxRecDepth 100000 in
theorem kX4_price (G : TG) (o : Nat) (a : Nat → Nat) (f : Nat → Nat → Nat) (ua : Nat → Nat) (ub : Nat → Nat → Nat) (RP RQ RU : Nat → Option Nat) (S K0 K1 K2 : MS) (Us Ps Zs : Nat → MS) (pa qa : Nat → Nat) (pb qb : Nat → Nat → Nat) (A : AS) (hI : AInv A) (hC : CAll A RP RQ RU ua pa qa S K0 Us Ps Zs) (k v : Int32) : CT G yX4_price cX4_price 4 (some .int) rmX4_price 0 0 [.ref (o), .int (k), .int (v)] (CWd G o a RP RQ RU S ++ (KWd G (a 4) (f 0) K0 ++ (KWd G (a 5) (f 1) K1 ++ (KWd G (a 6) (f 2) K2 ++ (ULd G 10 ua ub Us ++ (PLd G (aNp A) pa pb Ps ++ (QLd G (aNq A) qa qb (fun j => pa (aQp A j)) Zs))))))) (fun u : AS × DS => DWd G o a f ua ub RU u.1 u.2) (Ri (fun r δ => r = (s_price A k v).1 ∧ δ.1 = (s_price A k v).2 ∧ CRel δ.1 RU ua δ.2)) := by
  refine CT.enter (by decide) (Nat.le_of_ble_eq_true rfl) (fun X C hnm => ?_)
  refine V.less [(0, .ref (o)), (1, .int (k)), (2, .int (v))] ⟨rfl, rfl, rfl, trivial⟩ ?_
  generalize hQ : (QX G X (fun u : AS × DS => DWd G o a f ua ub RU u.1 u.2) (Ri (fun r δ => r = (s_price A k v).1 ∧ δ.1 = (s_price A k v).2 ∧ CRel δ.1 RU ua δ.2)) 0 0) = Qq
  have hnp := hI.1
  have hnq := hI.2.2.2.2.1
  obtain ⟨hS, hP, hA, hU, hRP, hRQ, hRU⟩ := id hC
  refine v_iload_n (pc := 0) C dX4_price_0 rfl ?_
  refine v_if_lt (pc := 1) (tgt := 21) C dX4_price_1 (by decide) (fun c_1 => ?_) (fun c_1 => ?_)
  · refine v_iconst (pc := 21) (v := (-1)) C dX4_price_21 (by decide) ?_
    subst hQ
    exact v_iret (pc := 22) C dX4_price_22 (rfl) ((A, (S, K0, K1, K2, Us, Ps, Zs, RP, RQ, pa, pb, qa, qb))) rfl (⟨by unfold s_price; rw [if_pos (Or.inl c_1)], by unfold s_price; rw [if_pos (Or.inl c_1)], hC⟩)
  · refine v_iload_n (pc := 4) C dX4_price_4 rfl ?_
    refine v_bipush (pc := 5) (v := 6) C dX4_price_5 (by decide) ?_
    refine v_icmp_gt (pc := 7) (tgt := 21) C dX4_price_7 (by decide) (fun c_7 => ?_) (fun c_7 => ?_)
    · refine v_iconst (pc := 21) (v := (-1)) C dX4_price_21 (by decide) ?_
      subst hQ
      exact v_iret (pc := 22) C dX4_price_22 (rfl) ((A, (S, K0, K1, K2, Us, Ps, Zs, RP, RQ, pa, pb, qa, qb))) rfl (⟨by unfold s_price; rw [if_pos (Or.inr c_7)], by unfold s_price; rw [if_pos (Or.inr c_7)], hC⟩)
    · refine v_iload_n (pc := 10) C dX4_price_10 rfl ?_
      refine v_iconst (pc := 11) (v := 1) C dX4_price_11 (by decide) ?_
      refine v_icmp_lt (pc := 12) (tgt := 21) C dX4_price_12 (by decide) (fun c_12 => ?_) (fun c_12 => ?_)
      · refine v_iconst (pc := 21) (v := (-1)) C dX4_price_21 (by decide) ?_
        subst hQ
        exact v_iret (pc := 22) C dX4_price_22 (rfl) ((A, (S, K0, K1, K2, Us, Ps, Zs, RP, RQ, pa, pb, qa, qb))) rfl (⟨by unfold s_price; rw [if_neg (fun z => z.elim c_1 c_7), if_pos (Or.inl c_12)], by unfold s_price; rw [if_neg (fun z => z.elim c_1 c_7), if_pos (Or.inl c_12)], hC⟩)
      · refine v_iload_n (pc := 15) C dX4_price_15 rfl ?_
        refine v_bipush (pc := 16) (v := 99) C dX4_price_16 (by decide) ?_
        refine v_icmp_le (pc := 18) (tgt := 23) C dX4_price_18 (by decide) (fun c_18 => ?_) (fun c_18 => ?_)
        · have q1 : ¬ (k < 0 ∨ 6 < k) := fun z => z.elim c_1 c_7
          have q2 : ¬ (v < 1 ∨ 99 < v) := fun z => z.elim c_12 (fun y => absurd c_18 (Int32.not_le.mpr y))
          obtain ⟨κ, hκ, rfl⟩ := wN (n := 6) q1
          obtain ⟨ν, hν1, hν9, rfl⟩ := w1N q2
          refine v_aload_n (pc := 23) C dX4_price_23 rfl ?_
          refine v_get (pc := 24) (v := .ref (a 3)) C inX4 0 rfl rfl 3 (by decide) kw1_85 rfl dX4_price_24 ?_
          refine v_iload_n (pc := 27) C dX4_price_27 rfl ?_
          refine v_ialdN (pc := 28) (i := (κ)) (f := (mA S 3)) C 4 rfl (by omega) (by decide) dX4_price_28 ?_
          refine v_istore_n (pc := 29) C dX4_price_29 (by decide) ?_
          refine v_aload_n (pc := 30) C dX4_price_30 rfl ?_
          refine v_get (pc := 31) (v := .ref (a 3)) C inX4 0 rfl rfl 3 (by decide) kw1_85 rfl dX4_price_31 ?_
          refine v_iload_n (pc := 34) C dX4_price_34 rfl ?_
          refine v_iload_n (pc := 35) C dX4_price_35 rfl ?_
          refine v_iastN (pc := 36) (i := (κ)) (f := (mA S 3)) C 4 rfl (by omega) (by decide) dX4_price_36 (ws' := (CWd G o a RP RQ RU (sA S 3 (upd ((mA S 3)) (κ) (nI (ν)))) ++ (KWd G (a 4) (f 0) K0 ++ (KWd G (a 5) (f 1) K1 ++ (KWd G (a 6) (f 2) K2 ++ (ULd G 10 ua ub Us ++ (PLd G (aNp A) pa pb Ps ++ (QLd G (aNq A) qa qb (fun j => pa (aQp A j)) Zs)))))))) rfl ?_
          refine v_iload_n (pc := 37) C dX4_price_37 rfl ?_
          subst hQ
          exact v_iret (pc := 38) C dX4_price_38 (rfl) (((setP A κ ν), ((sA S 3 (upd ((mA S 3)) (κ) (nI (ν)))), K0, K1, K2, Us, Ps, Zs, RP, RQ, pa, pb, qa, qb))) rfl (⟨by unfold s_price; rw [if_neg q1, if_neg q2, tn_nI (n := κ) (by omega), tn_nI (n := ν) (by omega)]; exact hS.1.2.2 κ (by omega), by unfold s_price; rw [if_neg q1, if_neg q2, tn_nI (n := κ) (by omega), tn_nI (n := ν) (by omega)]; rfl, ⟨tl_S (A := A) (B := (setP A κ ν)) (S := S) rfl rfl rfl rfl hS.1 (fun k hk => by show upd (mA S 3) κ (nI ν) k = nI (if k = κ then ν else aP A k); by_cases e : k = κ; rw [e, pk_us, if_pos rfl]; rw [pk_un e, if_neg e]; exact hS.1.2.2 k hk), hS.2.1, tl_Ch rfl rfl rfl rfl rfl hS.2.2.1, hS.2.2.2.1, hS.2.2.2.2.trans (congrArg nI (tl_lines (A := A) (B := (setP A κ ν)) rfl).symm)⟩, tl_P rfl rfl hP, tl_Q rfl rfl hA, hU, hRP, hRQ, hRU⟩)
        · refine v_iconst (pc := 21) (v := (-1)) C dX4_price_21 (by decide) ?_
          subst hQ
          exact v_iret (pc := 22) C dX4_price_22 (rfl) ((A, (S, K0, K1, K2, Us, Ps, Zs, RP, RQ, pa, pb, qa, qb))) rfl (⟨by unfold s_price; rw [if_neg (fun z => z.elim c_1 c_7), if_pos (Or.inr (Int32.not_le.mp c_18))], by unfold s_price; rw [if_neg (fun z => z.elim c_1 c_7), if_pos (Or.inr (Int32.not_le.mp c_18))], hC⟩)
def rmX4_give : Room := { frames := 2, cells := 0, slots := 0, locals := 43 }
set_option maxHeartbeats 4000000 in
set_option maxRecDepth 100000 in
theorem kX4_give (G : TG) (o : Nat) (a : Nat → Nat) (f : Nat → Nat → Nat) (ua : Nat → Nat) (ub : Nat → Nat → Nat) (RP RQ RU : Nat → Option Nat) (S K0 K1 K2 : MS) (Us Ps Zs : Nat → MS) (pa qa : Nat → Nat) (pb qb : Nat → Nat → Nat) (A : AS) (hI : AInv A) (hC : CAll A RP RQ RU ua pa qa S K0 Us Ps Zs) (u q v : Int32) : CT G yX4_give cX4_give 4 (some .int) rmX4_give 0 0 [.ref (o), .int (u), .int (q), .int (v)] (CWd G o a RP RQ RU S ++ (KWd G (a 4) (f 0) K0 ++ (KWd G (a 5) (f 1) K1 ++ (KWd G (a 6) (f 2) K2 ++ (ULd G 10 ua ub Us ++ (PLd G (aNp A) pa pb Ps ++ (QLd G (aNq A) qa qb (fun j => pa (aQp A j)) Zs))))))) (fun u : AS × DS => DWd G o a f ua ub RU u.1 u.2) (Ri (fun r δ => r = (s_give A u q v).1 ∧ δ.1 = (s_give A u q v).2 ∧ CRel δ.1 RU ua δ.2)) := by
  refine CT.enter (by decide) (Nat.le_of_ble_eq_true rfl) (fun X C hnm => ?_)
  refine V.less [(0, .ref (o)), (1, .int (u)), (2, .int (q)), (3, .int (v))] ⟨rfl, rfl, rfl, rfl, trivial⟩ ?_
  generalize hQ : (QX G X (fun u : AS × DS => DWd G o a f ua ub RU u.1 u.2) (Ri (fun r δ => r = (s_give A u q v).1 ∧ δ.1 = (s_give A u q v).2 ∧ CRel δ.1 RU ua δ.2)) 0 0) = Qq
  have hnp := hI.1
  have hnq := hI.2.2.2.2.1
  obtain ⟨hS, hP, hA, hU, hRP, hRQ, hRU⟩ := id hC
  refine v_iload_n (pc := 0) C dX4_give_0 rfl ?_
  refine v_callS0 (pc := 1) (st := []) C (kX4_isPupil G _ u) ykX4_isPupil kw2_181 kw2_180 dX4_give_1 rfl rfl rfl (by decide) (Nat.le_of_ble_eq_true rfl) (by decide) rfl (Ri_kk (fun r_1 u_1 h_1 => ?_))
  rcases (is01 (x := 10) (n := 10) (by omega) rfl h_1) with ⟨b_u, rfl⟩ | ⟨e, he, rfl, rfl⟩
  · refine v_if_eqT (pc := 4) (tgt := 15) C (by decide) dX4_give_4 (by decide) ?_
    refine v_iconst (pc := 15) (v := (-1)) C dX4_give_15 (by decide) ?_
    subst hQ
    exact v_iret (pc := 16) C dX4_give_16 (rfl) ((A, (S, K0, K1, K2, Us, Ps, Zs, RP, RQ, pa, pb, qa, qb))) rfl (⟨by unfold s_give; rw [if_pos b_u], by unfold s_give; rw [if_pos b_u], hC⟩)
  · refine V.perm (ws' := (CWd G o a RP RQ RU S ++ (KWd G (a 4) (f 0) K0 ++ (KWd G (a 5) (f 1) K1 ++ (KWd G (a 6) (f 2) K2 ++ (ULx G 10 ua ub Us e ++ (UWd G (ua e) (ub e) (Us e) ++ (PLd G (aNp A) pa pb Ps ++ (QLd G (aNq A) qa qb (fun j => pa (aQp A j)) Zs))))))))) ((List.Perm.append_left _ (List.Perm.append_left _ (List.Perm.append_left _ (List.Perm.append_left _ (List.Perm.append_right _ (UL_focus he)))))).trans (List.Perm.of_eq (by simp only [List.append_assoc]))) ?_
    refine V.perm (ws' := (CWd G o a RP RQ RU S ++ (KWd G (a 4) (f 0) K0 ++ (KWd G (a 5) (f 1) K1 ++ (KWd G (a 6) (f 2) K2 ++ (UWd G (ua e) (ub e) (Us e) ++ (PLd G (aNp A) pa pb Ps ++ (QLd G (aNq A) qa qb (fun j => pa (aQp A j)) Zs ++ (ULx G 10 ua ub Us e))))))))) ((List.Perm.append_left _ (List.Perm.append_left _ (List.Perm.append_left _ (List.Perm.append_left _ (List.perm_append_comm))))).trans (List.Perm.of_eq (by simp only [List.append_assoc]))) ?_
    refine V.perm (ws' := (CWd G o a RP RQ RU S ++ (KWd G (a 4) (f 0) K0 ++ (KWd G (a 5) (f 1) K1 ++ (KWd G (a 6) (f 2) K2 ++ (UWd G (ua e) (ub e) (Us e) ++ (QLd G (aNq A) qa qb (fun j => pa (aQp A j)) Zs ++ (ULx G 10 ua ub Us e ++ (PLd G (aNp A) pa pb Ps))))))))) ((List.Perm.append_left _ (List.Perm.append_left _ (List.Perm.append_left _ (List.Perm.append_left _ (List.Perm.append_left _ (List.perm_append_comm)))))).trans (List.Perm.of_eq (by simp only [List.append_assoc]))) ?_
    refine V.perm (ws' := (CWd G o a RP RQ RU S ++ (KWd G (a 4) (f 0) K0 ++ (KWd G (a 5) (f 1) K1 ++ (KWd G (a 6) (f 2) K2 ++ (UWd G (ua e) (ub e) (Us e) ++ (ULx G 10 ua ub Us e ++ (PLd G (aNp A) pa pb Ps ++ (QLd G (aNq A) qa qb (fun j => pa (aQp A j)) Zs))))))))) ((List.Perm.append_left _ (List.Perm.append_left _ (List.Perm.append_left _ (List.Perm.append_left _ (List.Perm.append_left _ (List.perm_append_comm)))))).trans (List.Perm.of_eq (by simp only [List.append_assoc]))) ?_
    refine v_if_eqF (pc := 4) (tgt := 15) C (by decide) dX4_give_4 (by decide) ?_
    refine v_aload_n (pc := 7) C dX4_give_7 rfl ?_
    refine v_iload_n (pc := 8) C dX4_give_8 rfl ?_
    refine V.perm (ws' := (KWd G (a 4) (f 0) K0 ++ (KWd G (a 5) (f 1) K1 ++ (KWd G (a 6) (f 2) K2 ++ (UWd G (ua e) (ub e) (Us e) ++ (ULx G 10 ua ub Us e ++ (PLd G (aNp A) pa pb Ps ++ (QLd G (aNq A) qa qb (fun j => pa (aQp A j)) Zs ++ (CWd G o a RP RQ RU S))))))))) ((List.perm_append_comm).trans (List.Perm.of_eq (by simp only [List.append_assoc]))) ?_
    refine V.same (ws' := (KWd G (a 4) (f 0) K0 ++ (KWd G (a 5) (f 1) K1 ++ (KWd G (a 6) (f 2) K2 ++ (UWd G (ua e) (ub e) (Us e) ++ (ULx G 10 ua ub Us e ++ (PLd G (aNp A) pa pb Ps ++ (QLd G (aNq A) qa qb (fun j => pa (aQp A j)) Zs))))))) ++ (CWd G o a RP RQ RU S)) (by simp only [List.append_assoc]) ?_
    refine v_callV (pc := 9) (st := []) (q0 := 0) (wr := (KWd G (a 4) (f 0) K0 ++ (KWd G (a 5) (f 1) K1 ++ (KWd G (a 6) (f 2) K2 ++ (UWd G (ua e) (ub e) (Us e) ++ (ULx G 10 ua ub Us e ++ (PLd G (aNp A) pa pb Ps ++ (QLd G (aNq A) qa qb (fun j => pa (aQp A j)) Zs)))))))) C (kX4_questionAt G o a RP RQ RU S q (aNq A) hI.2.2.2.2.1 hS.1.2.1) ykX4_questionAt cvX4_questionAt kw2_88 dX4_give_9 rfl rfl rfl rfl rfl (by decide) (Nat.le_of_ble_eq_true rfl) (by decide) rfl (Rq_kk (fun r_9 u_9 h_9 => ?_))
    obtain ⟨e_9, h_9⟩ := h_9
    rw [e_9]
    refine V.same (ws' := (KWd G (a 4) (f 0) K0 ++ (KWd G (a 5) (f 1) K1 ++ (KWd G (a 6) (f 2) K2 ++ (UWd G (ua e) (ub e) (Us e) ++ (ULx G 10 ua ub Us e ++ (PLd G (aNp A) pa pb Ps ++ (QLd G (aNq A) qa qb (fun j => pa (aQp A j)) Zs ++ (CWd G o a RP RQ RU S))))))))) (by simp only [List.append_assoc]) ?_
    refine V.perm (ws' := (KWd G (a 5) (f 1) K1 ++ (KWd G (a 6) (f 2) K2 ++ (UWd G (ua e) (ub e) (Us e) ++ (ULx G 10 ua ub Us e ++ (PLd G (aNp A) pa pb Ps ++ (QLd G (aNq A) qa qb (fun j => pa (aQp A j)) Zs ++ (CWd G o a RP RQ RU S ++ (KWd G (a 4) (f 0) K0))))))))) ((List.perm_append_comm).trans (List.Perm.of_eq (by simp only [List.append_assoc]))) ?_
    refine V.perm (ws' := (KWd G (a 6) (f 2) K2 ++ (UWd G (ua e) (ub e) (Us e) ++ (ULx G 10 ua ub Us e ++ (PLd G (aNp A) pa pb Ps ++ (QLd G (aNq A) qa qb (fun j => pa (aQp A j)) Zs ++ (CWd G o a RP RQ RU S ++ (KWd G (a 4) (f 0) K0 ++ (KWd G (a 5) (f 1) K1))))))))) ((List.perm_append_comm).trans (List.Perm.of_eq (by simp only [List.append_assoc]))) ?_
    refine V.perm (ws' := (UWd G (ua e) (ub e) (Us e) ++ (ULx G 10 ua ub Us e ++ (PLd G (aNp A) pa pb Ps ++ (QLd G (aNq A) qa qb (fun j => pa (aQp A j)) Zs ++ (CWd G o a RP RQ RU S ++ (KWd G (a 4) (f 0) K0 ++ (KWd G (a 5) (f 1) K1 ++ (KWd G (a 6) (f 2) K2))))))))) ((List.perm_append_comm).trans (List.Perm.of_eq (by simp only [List.append_assoc]))) ?_
    refine V.perm (ws' := (ULx G 10 ua ub Us e ++ (PLd G (aNp A) pa pb Ps ++ (QLd G (aNq A) qa qb (fun j => pa (aQp A j)) Zs ++ (CWd G o a RP RQ RU S ++ (KWd G (a 4) (f 0) K0 ++ (KWd G (a 5) (f 1) K1 ++ (KWd G (a 6) (f 2) K2 ++ (UWd G (ua e) (ub e) (Us e)))))))))) ((List.perm_append_comm).trans (List.Perm.of_eq (by simp only [List.append_assoc]))) ?_
    refine V.perm (ws' := (PLd G (aNp A) pa pb Ps ++ (QLd G (aNq A) qa qb (fun j => pa (aQp A j)) Zs ++ (CWd G o a RP RQ RU S ++ (KWd G (a 4) (f 0) K0 ++ (KWd G (a 5) (f 1) K1 ++ (KWd G (a 6) (f 2) K2 ++ (UWd G (ua e) (ub e) (Us e) ++ (ULx G 10 ua ub Us e))))))))) ((List.perm_append_comm).trans (List.Perm.of_eq (by simp only [List.append_assoc]))) ?_
    refine V.perm (ws' := (QLd G (aNq A) qa qb (fun j => pa (aQp A j)) Zs ++ (CWd G o a RP RQ RU S ++ (KWd G (a 4) (f 0) K0 ++ (KWd G (a 5) (f 1) K1 ++ (KWd G (a 6) (f 2) K2 ++ (UWd G (ua e) (ub e) (Us e) ++ (ULx G 10 ua ub Us e ++ (PLd G (aNp A) pa pb Ps))))))))) ((List.perm_append_comm).trans (List.Perm.of_eq (by simp only [List.append_assoc]))) ?_
    refine V.perm (ws' := (CWd G o a RP RQ RU S ++ (KWd G (a 4) (f 0) K0 ++ (KWd G (a 5) (f 1) K1 ++ (KWd G (a 6) (f 2) K2 ++ (UWd G (ua e) (ub e) (Us e) ++ (ULx G 10 ua ub Us e ++ (PLd G (aNp A) pa pb Ps ++ (QLd G (aNq A) qa qb (fun j => pa (aQp A j)) Zs))))))))) ((List.perm_append_comm).trans (List.Perm.of_eq (by simp only [List.append_assoc]))) ?_
    rcases h_9 with ⟨b_q, rfl⟩ | ⟨j, hj, rfl, rfl⟩
    · refine v_rfn rfl ?_
      refine v_ifnonnullN (pc := 12) C dX4_give_12 ?_
      refine v_iconst (pc := 15) (v := (-1)) C dX4_give_15 (by decide) ?_
      refine V.perm (ws' := (CWd G o a RP RQ RU S ++ (KWd G (a 4) (f 0) K0 ++ (KWd G (a 5) (f 1) K1 ++ (KWd G (a 6) (f 2) K2 ++ (UWd G (ua e) (ub e) (Us e) ++ (PLd G (aNp A) pa pb Ps ++ (QLd G (aNq A) qa qb (fun j => pa (aQp A j)) Zs ++ (ULx G 10 ua ub Us e))))))))) ((List.Perm.append_left _ (List.Perm.append_left _ (List.Perm.append_left _ (List.Perm.append_left _ (List.Perm.append_left _ (List.perm_append_comm)))))).trans (List.Perm.of_eq (by simp only [List.append_assoc]))) ?_
      refine V.perm (ws' := (CWd G o a RP RQ RU S ++ (KWd G (a 4) (f 0) K0 ++ (KWd G (a 5) (f 1) K1 ++ (KWd G (a 6) (f 2) K2 ++ (PLd G (aNp A) pa pb Ps ++ (QLd G (aNq A) qa qb (fun j => pa (aQp A j)) Zs ++ (ULx G 10 ua ub Us e ++ (UWd G (ua e) (ub e) (Us e)))))))))) ((List.Perm.append_left _ (List.Perm.append_left _ (List.Perm.append_left _ (List.Perm.append_left _ (List.perm_append_comm))))).trans (List.Perm.of_eq (by simp only [List.append_assoc]))) ?_
      refine V.perm (ws' := (CWd G o a RP RQ RU S ++ (KWd G (a 4) (f 0) K0 ++ (KWd G (a 5) (f 1) K1 ++ (KWd G (a 6) (f 2) K2 ++ (PLd G (aNp A) pa pb Ps ++ (QLd G (aNq A) qa qb (fun j => pa (aQp A j)) Zs ++ (ULd G 10 ua ub Us)))))))) (List.Perm.append_left _ (List.Perm.append_left _ (List.Perm.append_left _ (List.Perm.append_left _ (List.Perm.append_left _ (List.Perm.append_left _ (UL_same he))))))) ?_
      refine V.perm (ws' := (CWd G o a RP RQ RU S ++ (KWd G (a 4) (f 0) K0 ++ (KWd G (a 5) (f 1) K1 ++ (KWd G (a 6) (f 2) K2 ++ (QLd G (aNq A) qa qb (fun j => pa (aQp A j)) Zs ++ (ULd G 10 ua ub Us ++ (PLd G (aNp A) pa pb Ps)))))))) ((List.Perm.append_left _ (List.Perm.append_left _ (List.Perm.append_left _ (List.Perm.append_left _ (List.perm_append_comm))))).trans (List.Perm.of_eq (by simp only [List.append_assoc]))) ?_
      refine V.perm (ws' := (CWd G o a RP RQ RU S ++ (KWd G (a 4) (f 0) K0 ++ (KWd G (a 5) (f 1) K1 ++ (KWd G (a 6) (f 2) K2 ++ (ULd G 10 ua ub Us ++ (PLd G (aNp A) pa pb Ps ++ (QLd G (aNq A) qa qb (fun j => pa (aQp A j)) Zs)))))))) ((List.Perm.append_left _ (List.Perm.append_left _ (List.Perm.append_left _ (List.Perm.append_left _ (List.perm_append_comm))))).trans (List.Perm.of_eq (by simp only [List.append_assoc]))) ?_
      subst hQ
      exact v_iret (pc := 16) C dX4_give_16 (rfl) ((A, (S, K0, K1, K2, Us, Ps, Zs, RP, RQ, pa, pb, qa, qb))) rfl (⟨by unfold s_give; rw [if_neg (nbad (n := 10) he (by omega)), if_pos b_q], by unfold s_give; rw [if_neg (nbad (n := 10) he (by omega)), if_pos b_q], hC⟩)
    · refine v_rfs (hRQ j hj) ?_
      refine v_ifnonnull (pc := 12) (tgt := 17) C dX4_give_12 (by decide) ?_
      refine v_aload_n (pc := 17) C dX4_give_17 rfl ?_
      refine v_get (pc := 18) (v := .ref (a 2)) C inX4 0 rfl rfl 2 (by decide) kw1_84 rfl dX4_give_18 ?_
      refine v_iload_n (pc := 21) C dX4_give_21 rfl ?_
      refine v_aald (pc := 22) (i := (e)) C 3 5 rfl rfl (by omega) (by decide) dX4_give_22 ?_
      refine v_rfs (hRU e he) ?_
      refine v_iload_n (pc := 23) C dX4_give_23 rfl ?_
      refine v_iload_n (pc := 24) C dX4_give_24 rfl ?_
      refine V.perm (ws' := (CWd G o a RP RQ RU S ++ (KWd G (a 4) (f 0) K0 ++ (KWd G (a 5) (f 1) K1 ++ (KWd G (a 6) (f 2) K2 ++ (ULx G 10 ua ub Us e ++ (PLd G (aNp A) pa pb Ps ++ (QLd G (aNq A) qa qb (fun j => pa (aQp A j)) Zs ++ (UWd G (ua e) (ub e) (Us e)))))))))) ((List.Perm.append_left _ (List.Perm.append_left _ (List.Perm.append_left _ (List.Perm.append_left _ (List.perm_append_comm))))).trans (List.Perm.of_eq (by simp only [List.append_assoc]))) ?_
      refine V.same (ws' := (CWd G o a RP RQ RU S ++ (KWd G (a 4) (f 0) K0 ++ (KWd G (a 5) (f 1) K1 ++ (KWd G (a 6) (f 2) K2 ++ (ULx G 10 ua ub Us e ++ (PLd G (aNp A) pa pb Ps ++ (QLd G (aNq A) qa qb (fun j => pa (aQp A j)) Zs))))))) ++ (UWd G (ua e) (ub e) (Us e))) (by simp only [List.append_assoc]) ?_
      refine v_callVN (pc := 25) (st := []) (q0 := 0) (wr := (CWd G o a RP RQ RU S ++ (KWd G (a 4) (f 0) K0 ++ (KWd G (a 5) (f 1) K1 ++ (KWd G (a 6) (f 2) K2 ++ (ULx G 10 ua ub Us e ++ (PLd G (aNp A) pa pb Ps ++ (QLd G (aNq A) qa qb (fun j => pa (aQp A j)) Zs)))))))) C (kX2_note G (ua e) (ub e) (Us e) j v (by omega)) ykX2_note cvX2_note nw_38 dX4_give_25 rfl rfl rfl rfl rfl (by decide) (Nat.le_of_ble_eq_true rfl) (by decide) rfl (Ri_kk (fun r_25 u_25 h_25 => ?_))
      obtain ⟨er_25, eU_25⟩ := h_25
      rw [note_len (v := v) hI hj (hU e he)] at er_25
      subst er_25
      rw [eU_25]
      refine V.same (ws' := (CWd G o a RP RQ RU S ++ (KWd G (a 4) (f 0) K0 ++ (KWd G (a 5) (f 1) K1 ++ (KWd G (a 6) (f 2) K2 ++ (ULx G 10 ua ub Us e ++ (PLd G (aNp A) pa pb Ps ++ (QLd G (aNq A) qa qb (fun j => pa (aQp A j)) Zs ++ (UWd G (ua e) (ub e) (sL (sA (Us e) 0 (upd (mA (Us e) 0) j v)) (vp_updL (mL (Us e)) 1 (mL (Us e) 1 ||| (1 : Int64) <<< ((nI j).toInt64 &&& 63))))))))))))) (by simp only [List.append_assoc]) ?_
      refine V.perm (ws' := (CWd G o a RP RQ RU S ++ (KWd G (a 4) (f 0) K0 ++ (KWd G (a 5) (f 1) K1 ++ (KWd G (a 6) (f 2) K2 ++ (PLd G (aNp A) pa pb Ps ++ (QLd G (aNq A) qa qb (fun j => pa (aQp A j)) Zs ++ (UWd G (ua e) (ub e) (sL (sA (Us e) 0 (upd (mA (Us e) 0) j v)) (vp_updL (mL (Us e)) 1 (mL (Us e) 1 ||| (1 : Int64) <<< ((nI j).toInt64 &&& 63)))) ++ (ULx G 10 ua ub Us e))))))))) ((List.Perm.append_left _ (List.Perm.append_left _ (List.Perm.append_left _ (List.Perm.append_left _ (List.perm_append_comm))))).trans (List.Perm.of_eq (by simp only [List.append_assoc]))) ?_
      refine V.perm (ws' := (CWd G o a RP RQ RU S ++ (KWd G (a 4) (f 0) K0 ++ (KWd G (a 5) (f 1) K1 ++ (KWd G (a 6) (f 2) K2 ++ (QLd G (aNq A) qa qb (fun j => pa (aQp A j)) Zs ++ (UWd G (ua e) (ub e) (sL (sA (Us e) 0 (upd (mA (Us e) 0) j v)) (vp_updL (mL (Us e)) 1 (mL (Us e) 1 ||| (1 : Int64) <<< ((nI j).toInt64 &&& 63)))) ++ (ULx G 10 ua ub Us e ++ (PLd G (aNp A) pa pb Ps))))))))) ((List.Perm.append_left _ (List.Perm.append_left _ (List.Perm.append_left _ (List.Perm.append_left _ (List.perm_append_comm))))).trans (List.Perm.of_eq (by simp only [List.append_assoc]))) ?_
      refine V.perm (ws' := (CWd G o a RP RQ RU S ++ (KWd G (a 4) (f 0) K0 ++ (KWd G (a 5) (f 1) K1 ++ (KWd G (a 6) (f 2) K2 ++ (UWd G (ua e) (ub e) (sL (sA (Us e) 0 (upd (mA (Us e) 0) j v)) (vp_updL (mL (Us e)) 1 (mL (Us e) 1 ||| (1 : Int64) <<< ((nI j).toInt64 &&& 63)))) ++ (ULx G 10 ua ub Us e ++ (PLd G (aNp A) pa pb Ps ++ (QLd G (aNq A) qa qb (fun j => pa (aQp A j)) Zs))))))))) ((List.Perm.append_left _ (List.Perm.append_left _ (List.Perm.append_left _ (List.Perm.append_left _ (List.perm_append_comm))))).trans (List.Perm.of_eq (by simp only [List.append_assoc]))) ?_
      refine V.perm (ws' := (CWd G o a RP RQ RU S ++ (KWd G (a 4) (f 0) K0 ++ (KWd G (a 5) (f 1) K1 ++ (KWd G (a 6) (f 2) K2 ++ (UWd G (ua e) (ub e) (sL (sA (Us e) 0 (upd (mA (Us e) 0) j v)) (vp_updL (mL (Us e)) 1 (mL (Us e) 1 ||| (1 : Int64) <<< ((nI j).toInt64 &&& 63)))) ++ (PLd G (aNp A) pa pb Ps ++ (QLd G (aNq A) qa qb (fun j => pa (aQp A j)) Zs ++ (ULx G 10 ua ub Us e))))))))) ((List.Perm.append_left _ (List.Perm.append_left _ (List.Perm.append_left _ (List.Perm.append_left _ (List.Perm.append_left _ (List.perm_append_comm)))))).trans (List.Perm.of_eq (by simp only [List.append_assoc]))) ?_
      refine V.perm (ws' := (CWd G o a RP RQ RU S ++ (KWd G (a 4) (f 0) K0 ++ (KWd G (a 5) (f 1) K1 ++ (KWd G (a 6) (f 2) K2 ++ (PLd G (aNp A) pa pb Ps ++ (QLd G (aNq A) qa qb (fun j => pa (aQp A j)) Zs ++ (ULx G 10 ua ub Us e ++ (UWd G (ua e) (ub e) (sL (sA (Us e) 0 (upd (mA (Us e) 0) j v)) (vp_updL (mL (Us e)) 1 (mL (Us e) 1 ||| (1 : Int64) <<< ((nI j).toInt64 &&& 63))))))))))))) ((List.Perm.append_left _ (List.Perm.append_left _ (List.Perm.append_left _ (List.Perm.append_left _ (List.perm_append_comm))))).trans (List.Perm.of_eq (by simp only [List.append_assoc]))) ?_
      refine V.perm (ws' := (CWd G o a RP RQ RU S ++ (KWd G (a 4) (f 0) K0 ++ (KWd G (a 5) (f 1) K1 ++ (KWd G (a 6) (f 2) K2 ++ (PLd G (aNp A) pa pb Ps ++ (QLd G (aNq A) qa qb (fun j => pa (aQp A j)) Zs ++ (ULd G 10 ua ub (va_up Us e (sL (sA (Us e) 0 (upd (mA (Us e) 0) j v)) (vp_updL (mL (Us e)) 1 (mL (Us e) 1 ||| (1 : Int64) <<< ((nI j).toInt64 &&& 63))))))))))))) (List.Perm.append_left _ (List.Perm.append_left _ (List.Perm.append_left _ (List.Perm.append_left _ (List.Perm.append_left _ (List.Perm.append_left _ (UL_back he (sL (sA (Us e) 0 (upd (mA (Us e) 0) j v)) (vp_updL (mL (Us e)) 1 (mL (Us e) 1 ||| (1 : Int64) <<< ((nI j).toInt64 &&& 63))))))))))) ?_
      refine V.perm (ws' := (CWd G o a RP RQ RU S ++ (KWd G (a 4) (f 0) K0 ++ (KWd G (a 5) (f 1) K1 ++ (KWd G (a 6) (f 2) K2 ++ (QLd G (aNq A) qa qb (fun j => pa (aQp A j)) Zs ++ (ULd G 10 ua ub (va_up Us e (sL (sA (Us e) 0 (upd (mA (Us e) 0) j v)) (vp_updL (mL (Us e)) 1 (mL (Us e) 1 ||| (1 : Int64) <<< ((nI j).toInt64 &&& 63))))) ++ (PLd G (aNp A) pa pb Ps)))))))) ((List.Perm.append_left _ (List.Perm.append_left _ (List.Perm.append_left _ (List.Perm.append_left _ (List.perm_append_comm))))).trans (List.Perm.of_eq (by simp only [List.append_assoc]))) ?_
      refine V.perm (ws' := (CWd G o a RP RQ RU S ++ (KWd G (a 4) (f 0) K0 ++ (KWd G (a 5) (f 1) K1 ++ (KWd G (a 6) (f 2) K2 ++ (ULd G 10 ua ub (va_up Us e (sL (sA (Us e) 0 (upd (mA (Us e) 0) j v)) (vp_updL (mL (Us e)) 1 (mL (Us e) 1 ||| (1 : Int64) <<< ((nI j).toInt64 &&& 63))))) ++ (PLd G (aNp A) pa pb Ps ++ (QLd G (aNq A) qa qb (fun j => pa (aQp A j)) Zs)))))))) ((List.Perm.append_left _ (List.Perm.append_left _ (List.Perm.append_left _ (List.Perm.append_left _ (List.perm_append_comm))))).trans (List.Perm.of_eq (by simp only [List.append_assoc]))) ?_
      subst hQ
      exact v_iret (pc := 28) C dX4_give_28 (rfl) (((putG A e j v), (S, K0, K1, K2, (va_up Us e (sL (sA (Us e) 0 (upd (mA (Us e) 0) j v)) (vp_updL (mL (Us e)) 1 (mL (Us e) 1 ||| (1 : Int64) <<< ((nI j).toInt64 &&& 63))))), Ps, Zs, RP, RQ, pa, pb, qa, qb))) rfl (⟨by unfold s_give; rw [if_neg (nbad (n := 10) he (by omega)), if_neg (nbad hj (by omega)), tn_nI (n := e) (by omega), tn_nI (n := j) (by omega)], by unfold s_give; rw [if_neg (nbad (n := 10) he (by omega)), if_neg (nbad hj (by omega)), tn_nI (n := e) (by omega), tn_nI (n := j) (by omega)], ⟨tl_S (A := A) (B := (putG A e j v)) (S := S) rfl rfl rfl rfl hS.1 hS.1.2.2, hS.2.1, tl_Ch rfl rfl rfl rfl rfl hS.2.2.1, hS.2.2.2.1, hS.2.2.2.2.trans (congrArg nI (tl_lines (A := A) (B := (putG A e j v)) rfl).symm)⟩, tl_P rfl rfl hP, tl_Q rfl rfl hA, URel_all hU (URel_note (by omega) (hU e he)), hRP, hRQ, hRU⟩)
def rmX4_run : Room := { frames := 3, cells := 0, slots := 0, locals := 72 }
set_option maxHeartbeats 4000000 in
set_option maxRecDepth 100000 in
theorem kX4_run (G : TG) (o : Nat) (a : Nat → Nat) (f : Nat → Nat → Nat) (ua : Nat → Nat) (ub : Nat → Nat → Nat) (RP RQ RU : Nat → Option Nat) (S K0 K1 K2 : MS) (Us Ps Zs : Nat → MS) (pa qa : Nat → Nat) (pb qb : Nat → Nat → Nat) (A : AS) (hI : AInv A) (hC : CAll A RP RQ RU ua pa qa S K0 Us Ps Zs) (p n m : Int32) : CT G yX4_run cX4_run 5 (some .int) rmX4_run 0 0 [.ref (o), .int (p), .int (n), .int (m)] (CWd G o a RP RQ RU S ++ (KWd G (a 4) (f 0) K0 ++ (KWd G (a 5) (f 1) K1 ++ (KWd G (a 6) (f 2) K2 ++ (ULd G 10 ua ub Us ++ (PLd G (aNp A) pa pb Ps ++ (QLd G (aNq A) qa qb (fun j => pa (aQp A j)) Zs))))))) (fun u : AS × DS => DWd G o a f ua ub RU u.1 u.2) (Ri (fun r δ => r = (s_run A p n m).1 ∧ δ.1 = (s_run A p n m).2 ∧ CRel δ.1 RU ua δ.2)) := by
  refine CT.enter (by decide) (Nat.le_of_ble_eq_true rfl) (fun X C hnm => ?_)
  refine V.less [(0, .ref (o)), (1, .int (p)), (2, .int (n)), (3, .int (m))] ⟨rfl, rfl, rfl, rfl, trivial⟩ ?_
  generalize hQ : (QX G X (fun u : AS × DS => DWd G o a f ua ub RU u.1 u.2) (Ri (fun r δ => r = (s_run A p n m).1 ∧ δ.1 = (s_run A p n m).2 ∧ CRel δ.1 RU ua δ.2)) 0 0) = Qq
  have hnp := hI.1
  have hnq := hI.2.2.2.2.1
  obtain ⟨hS, hP, hA, hU, hRP, hRQ, hRU⟩ := id hC
  refine v_aload_n (pc := 0) C dX4_run_0 rfl ?_
  refine v_iload_n (pc := 1) C dX4_run_1 rfl ?_
  refine V.perm (ws' := (KWd G (a 4) (f 0) K0 ++ (KWd G (a 5) (f 1) K1 ++ (KWd G (a 6) (f 2) K2 ++ (ULd G 10 ua ub Us ++ (PLd G (aNp A) pa pb Ps ++ (QLd G (aNq A) qa qb (fun j => pa (aQp A j)) Zs ++ (CWd G o a RP RQ RU S)))))))) ((List.perm_append_comm).trans (List.Perm.of_eq (by simp only [List.append_assoc]))) ?_
  refine V.same (ws' := (KWd G (a 4) (f 0) K0 ++ (KWd G (a 5) (f 1) K1 ++ (KWd G (a 6) (f 2) K2 ++ (ULd G 10 ua ub Us ++ (PLd G (aNp A) pa pb Ps ++ (QLd G (aNq A) qa qb (fun j => pa (aQp A j)) Zs)))))) ++ (CWd G o a RP RQ RU S)) (by simp only [List.append_assoc]) ?_
  refine v_callV (pc := 2) (st := []) (q0 := 0) (wr := (KWd G (a 4) (f 0) K0 ++ (KWd G (a 5) (f 1) K1 ++ (KWd G (a 6) (f 2) K2 ++ (ULd G 10 ua ub Us ++ (PLd G (aNp A) pa pb Ps ++ (QLd G (aNq A) qa qb (fun j => pa (aQp A j)) Zs))))))) C (kX4_programAt G o a RP RQ RU S p (aNp A) hI.1 hS.1.1) ykX4_programAt cvX4_programAt kw1_188 dX4_run_2 rfl rfl rfl rfl rfl (by decide) (Nat.le_of_ble_eq_true rfl) (by decide) rfl (Rq_kk (fun r_2 u_2 h_2 => ?_))
  obtain ⟨e_2, h_2⟩ := h_2
  rw [e_2]
  refine V.same (ws' := (KWd G (a 4) (f 0) K0 ++ (KWd G (a 5) (f 1) K1 ++ (KWd G (a 6) (f 2) K2 ++ (ULd G 10 ua ub Us ++ (PLd G (aNp A) pa pb Ps ++ (QLd G (aNq A) qa qb (fun j => pa (aQp A j)) Zs ++ (CWd G o a RP RQ RU S)))))))) (by simp only [List.append_assoc]) ?_
  refine V.perm (ws' := (KWd G (a 5) (f 1) K1 ++ (KWd G (a 6) (f 2) K2 ++ (ULd G 10 ua ub Us ++ (PLd G (aNp A) pa pb Ps ++ (QLd G (aNq A) qa qb (fun j => pa (aQp A j)) Zs ++ (CWd G o a RP RQ RU S ++ (KWd G (a 4) (f 0) K0)))))))) ((List.perm_append_comm).trans (List.Perm.of_eq (by simp only [List.append_assoc]))) ?_
  refine V.perm (ws' := (KWd G (a 6) (f 2) K2 ++ (ULd G 10 ua ub Us ++ (PLd G (aNp A) pa pb Ps ++ (QLd G (aNq A) qa qb (fun j => pa (aQp A j)) Zs ++ (CWd G o a RP RQ RU S ++ (KWd G (a 4) (f 0) K0 ++ (KWd G (a 5) (f 1) K1)))))))) ((List.perm_append_comm).trans (List.Perm.of_eq (by simp only [List.append_assoc]))) ?_
  refine V.perm (ws' := (ULd G 10 ua ub Us ++ (PLd G (aNp A) pa pb Ps ++ (QLd G (aNq A) qa qb (fun j => pa (aQp A j)) Zs ++ (CWd G o a RP RQ RU S ++ (KWd G (a 4) (f 0) K0 ++ (KWd G (a 5) (f 1) K1 ++ (KWd G (a 6) (f 2) K2)))))))) ((List.perm_append_comm).trans (List.Perm.of_eq (by simp only [List.append_assoc]))) ?_
  refine V.perm (ws' := (PLd G (aNp A) pa pb Ps ++ (QLd G (aNq A) qa qb (fun j => pa (aQp A j)) Zs ++ (CWd G o a RP RQ RU S ++ (KWd G (a 4) (f 0) K0 ++ (KWd G (a 5) (f 1) K1 ++ (KWd G (a 6) (f 2) K2 ++ (ULd G 10 ua ub Us)))))))) ((List.perm_append_comm).trans (List.Perm.of_eq (by simp only [List.append_assoc]))) ?_
  refine V.perm (ws' := (QLd G (aNq A) qa qb (fun j => pa (aQp A j)) Zs ++ (CWd G o a RP RQ RU S ++ (KWd G (a 4) (f 0) K0 ++ (KWd G (a 5) (f 1) K1 ++ (KWd G (a 6) (f 2) K2 ++ (ULd G 10 ua ub Us ++ (PLd G (aNp A) pa pb Ps)))))))) ((List.perm_append_comm).trans (List.Perm.of_eq (by simp only [List.append_assoc]))) ?_
  refine V.perm (ws' := (CWd G o a RP RQ RU S ++ (KWd G (a 4) (f 0) K0 ++ (KWd G (a 5) (f 1) K1 ++ (KWd G (a 6) (f 2) K2 ++ (ULd G 10 ua ub Us ++ (PLd G (aNp A) pa pb Ps ++ (QLd G (aNq A) qa qb (fun j => pa (aQp A j)) Zs)))))))) ((List.perm_append_comm).trans (List.Perm.of_eq (by simp only [List.append_assoc]))) ?_
  rcases h_2 with ⟨b_p, rfl⟩ | ⟨j, hj, rfl, rfl⟩
  · refine v_rfn rfl ?_
    refine v_astoreN (pc := 5) C dX4_run_5 (by decide) ?_
    refine v_aloadN (pc := 7) C dX4_run_7 rfl ?_
    refine v_ifnullN (pc := 9) (tgt := 26) C dX4_run_9 (by decide) ?_
    refine v_iconst (pc := 26) (v := (-1)) C dX4_run_26 (by decide) ?_
    subst hQ
    exact v_iret (pc := 27) C dX4_run_27 (rfl) ((A, (S, K0, K1, K2, Us, Ps, Zs, RP, RQ, pa, pb, qa, qb))) rfl (⟨by unfold s_run; rw [if_pos b_p], by unfold s_run; rw [if_pos b_p], hC⟩)
  · refine v_rfs (hRP j hj) ?_
    refine V.perm (ws' := (CWd G o a RP RQ RU S ++ (KWd G (a 4) (f 0) K0 ++ (KWd G (a 5) (f 1) K1 ++ (KWd G (a 6) (f 2) K2 ++ (ULd G 10 ua ub Us ++ (PLx G (aNp A) pa pb Ps j ++ (PWd G (pa j) (pb j) (Ps j) ++ (QLd G (aNq A) qa qb (fun j => pa (aQp A j)) Zs))))))))) ((List.Perm.append_left _ (List.Perm.append_left _ (List.Perm.append_left _ (List.Perm.append_left _ (List.Perm.append_left _ (List.Perm.append_right _ (PL_focus hj))))))).trans (List.Perm.of_eq (by simp only [List.append_assoc]))) ?_
    refine V.perm (ws' := (CWd G o a RP RQ RU S ++ (KWd G (a 4) (f 0) K0 ++ (KWd G (a 5) (f 1) K1 ++ (KWd G (a 6) (f 2) K2 ++ (PLx G (aNp A) pa pb Ps j ++ (PWd G (pa j) (pb j) (Ps j) ++ (QLd G (aNq A) qa qb (fun j => pa (aQp A j)) Zs ++ (ULd G 10 ua ub Us))))))))) ((List.Perm.append_left _ (List.Perm.append_left _ (List.Perm.append_left _ (List.Perm.append_left _ (List.perm_append_comm))))).trans (List.Perm.of_eq (by simp only [List.append_assoc]))) ?_
    refine V.perm (ws' := (CWd G o a RP RQ RU S ++ (KWd G (a 4) (f 0) K0 ++ (KWd G (a 5) (f 1) K1 ++ (KWd G (a 6) (f 2) K2 ++ (PWd G (pa j) (pb j) (Ps j) ++ (QLd G (aNq A) qa qb (fun j => pa (aQp A j)) Zs ++ (ULd G 10 ua ub Us ++ (PLx G (aNp A) pa pb Ps j))))))))) ((List.Perm.append_left _ (List.Perm.append_left _ (List.Perm.append_left _ (List.Perm.append_left _ (List.perm_append_comm))))).trans (List.Perm.of_eq (by simp only [List.append_assoc]))) ?_
    refine V.perm (ws' := (CWd G o a RP RQ RU S ++ (KWd G (a 4) (f 0) K0 ++ (KWd G (a 5) (f 1) K1 ++ (KWd G (a 6) (f 2) K2 ++ (PWd G (pa j) (pb j) (Ps j) ++ (ULd G 10 ua ub Us ++ (PLx G (aNp A) pa pb Ps j ++ (QLd G (aNq A) qa qb (fun j => pa (aQp A j)) Zs))))))))) ((List.Perm.append_left _ (List.Perm.append_left _ (List.Perm.append_left _ (List.Perm.append_left _ (List.Perm.append_left _ (List.perm_append_comm)))))).trans (List.Perm.of_eq (by simp only [List.append_assoc]))) ?_
    refine v_astore (pc := 5) C dX4_run_5 (by decide) ?_
    refine v_aload (pc := 7) C dX4_run_7 rfl ?_
    refine v_ifnull (pc := 9) C dX4_run_9 ?_
    refine v_iload_n (pc := 12) C dX4_run_12 rfl ?_
    refine v_callS0 (pc := 13) (st := []) C (kX4_isInput G _ n) ykX4_isInput kw1_230 kw1_229 dX4_run_13 rfl rfl rfl (by decide) (Nat.le_of_ble_eq_true rfl) (by decide) rfl (Ri_kk (fun r_13 u_13 h_13 => ?_))
    rcases (lim10 h_13) with ⟨q_13, rfl⟩ | ⟨q_13, rfl⟩
    · refine v_if_eqT (pc := 16) (tgt := 26) C (by decide) dX4_run_16 (by decide) ?_
      refine v_iconst (pc := 26) (v := (-1)) C dX4_run_26 (by decide) ?_
      refine V.perm (ws' := (CWd G o a RP RQ RU S ++ (KWd G (a 4) (f 0) K0 ++ (KWd G (a 5) (f 1) K1 ++ (KWd G (a 6) (f 2) K2 ++ (PWd G (pa j) (pb j) (Ps j) ++ (ULd G 10 ua ub Us ++ (QLd G (aNq A) qa qb (fun j => pa (aQp A j)) Zs ++ (PLx G (aNp A) pa pb Ps j))))))))) ((List.Perm.append_left _ (List.Perm.append_left _ (List.Perm.append_left _ (List.Perm.append_left _ (List.Perm.append_left _ (List.Perm.append_left _ (List.perm_append_comm))))))).trans (List.Perm.of_eq (by simp only [List.append_assoc]))) ?_
      refine V.perm (ws' := (CWd G o a RP RQ RU S ++ (KWd G (a 4) (f 0) K0 ++ (KWd G (a 5) (f 1) K1 ++ (KWd G (a 6) (f 2) K2 ++ (ULd G 10 ua ub Us ++ (QLd G (aNq A) qa qb (fun j => pa (aQp A j)) Zs ++ (PLx G (aNp A) pa pb Ps j ++ (PWd G (pa j) (pb j) (Ps j)))))))))) ((List.Perm.append_left _ (List.Perm.append_left _ (List.Perm.append_left _ (List.Perm.append_left _ (List.perm_append_comm))))).trans (List.Perm.of_eq (by simp only [List.append_assoc]))) ?_
      refine V.perm (ws' := (CWd G o a RP RQ RU S ++ (KWd G (a 4) (f 0) K0 ++ (KWd G (a 5) (f 1) K1 ++ (KWd G (a 6) (f 2) K2 ++ (ULd G 10 ua ub Us ++ (QLd G (aNq A) qa qb (fun j => pa (aQp A j)) Zs ++ (PLd G (aNp A) pa pb Ps)))))))) (List.Perm.append_left _ (List.Perm.append_left _ (List.Perm.append_left _ (List.Perm.append_left _ (List.Perm.append_left _ (List.Perm.append_left _ (PL_same hj))))))) ?_
      refine V.perm (ws' := (CWd G o a RP RQ RU S ++ (KWd G (a 4) (f 0) K0 ++ (KWd G (a 5) (f 1) K1 ++ (KWd G (a 6) (f 2) K2 ++ (ULd G 10 ua ub Us ++ (PLd G (aNp A) pa pb Ps ++ (QLd G (aNq A) qa qb (fun j => pa (aQp A j)) Zs)))))))) ((List.Perm.append_left _ (List.Perm.append_left _ (List.Perm.append_left _ (List.Perm.append_left _ (List.Perm.append_left _ (List.perm_append_comm)))))).trans (List.Perm.of_eq (by simp only [List.append_assoc]))) ?_
      subst hQ
      exact v_iret (pc := 27) C dX4_run_27 (rfl) ((A, (S, K0, K1, K2, Us, Ps, Zs, RP, RQ, pa, pb, qa, qb))) rfl (⟨by unfold s_run; rw [if_neg (nbad hj (by omega)), if_pos q_13], by unfold s_run; rw [if_neg (nbad hj (by omega)), if_pos q_13], hC⟩)
    · refine v_if_eqF (pc := 16) (tgt := 26) C (by decide) dX4_run_16 (by decide) ?_
      refine v_iload_n (pc := 19) C dX4_run_19 rfl ?_
      refine v_callS0 (pc := 20) (st := []) C (kX4_isMachine G _ m) ykX4_isMachine kw1_233 kw1_232 dX4_run_20 rfl rfl rfl (by decide) (Nat.le_of_ble_eq_true rfl) (by decide) rfl (Ri_kk (fun r_20 u_20 h_20 => ?_))
      rcases (lim64 h_20) with ⟨q_20, rfl⟩ | ⟨q_20, rfl⟩
      · refine v_if_neF (pc := 23) (tgt := 28) C (by decide) dX4_run_23 (by decide) ?_
        refine v_iconst (pc := 26) (v := (-1)) C dX4_run_26 (by decide) ?_
        refine V.perm (ws' := (CWd G o a RP RQ RU S ++ (KWd G (a 4) (f 0) K0 ++ (KWd G (a 5) (f 1) K1 ++ (KWd G (a 6) (f 2) K2 ++ (PWd G (pa j) (pb j) (Ps j) ++ (ULd G 10 ua ub Us ++ (QLd G (aNq A) qa qb (fun j => pa (aQp A j)) Zs ++ (PLx G (aNp A) pa pb Ps j))))))))) ((List.Perm.append_left _ (List.Perm.append_left _ (List.Perm.append_left _ (List.Perm.append_left _ (List.Perm.append_left _ (List.Perm.append_left _ (List.perm_append_comm))))))).trans (List.Perm.of_eq (by simp only [List.append_assoc]))) ?_
        refine V.perm (ws' := (CWd G o a RP RQ RU S ++ (KWd G (a 4) (f 0) K0 ++ (KWd G (a 5) (f 1) K1 ++ (KWd G (a 6) (f 2) K2 ++ (ULd G 10 ua ub Us ++ (QLd G (aNq A) qa qb (fun j => pa (aQp A j)) Zs ++ (PLx G (aNp A) pa pb Ps j ++ (PWd G (pa j) (pb j) (Ps j)))))))))) ((List.Perm.append_left _ (List.Perm.append_left _ (List.Perm.append_left _ (List.Perm.append_left _ (List.perm_append_comm))))).trans (List.Perm.of_eq (by simp only [List.append_assoc]))) ?_
        refine V.perm (ws' := (CWd G o a RP RQ RU S ++ (KWd G (a 4) (f 0) K0 ++ (KWd G (a 5) (f 1) K1 ++ (KWd G (a 6) (f 2) K2 ++ (ULd G 10 ua ub Us ++ (QLd G (aNq A) qa qb (fun j => pa (aQp A j)) Zs ++ (PLd G (aNp A) pa pb Ps)))))))) (List.Perm.append_left _ (List.Perm.append_left _ (List.Perm.append_left _ (List.Perm.append_left _ (List.Perm.append_left _ (List.Perm.append_left _ (PL_same hj))))))) ?_
        refine V.perm (ws' := (CWd G o a RP RQ RU S ++ (KWd G (a 4) (f 0) K0 ++ (KWd G (a 5) (f 1) K1 ++ (KWd G (a 6) (f 2) K2 ++ (ULd G 10 ua ub Us ++ (PLd G (aNp A) pa pb Ps ++ (QLd G (aNq A) qa qb (fun j => pa (aQp A j)) Zs)))))))) ((List.Perm.append_left _ (List.Perm.append_left _ (List.Perm.append_left _ (List.Perm.append_left _ (List.Perm.append_left _ (List.perm_append_comm)))))).trans (List.Perm.of_eq (by simp only [List.append_assoc]))) ?_
        subst hQ
        exact v_iret (pc := 27) C dX4_run_27 (rfl) ((A, (S, K0, K1, K2, Us, Ps, Zs, RP, RQ, pa, pb, qa, qb))) rfl (⟨by unfold s_run; rw [if_neg (nbad hj (by omega)), if_neg q_13, if_pos q_20], by unfold s_run; rw [if_neg (nbad hj (by omega)), if_neg q_13, if_pos q_20], hC⟩)
      · refine v_if_neT (pc := 23) (tgt := 28) C (by decide) dX4_run_23 (by decide) ?_
        refine v_aload (pc := 28) C dX4_run_28 rfl ?_
        refine V.perm (ws' := (CWd G o a RP RQ RU S ++ (KWd G (a 4) (f 0) K0 ++ (KWd G (a 5) (f 1) K1 ++ (KWd G (a 6) (f 2) K2 ++ (ULd G 10 ua ub Us ++ (PLx G (aNp A) pa pb Ps j ++ (QLd G (aNq A) qa qb (fun j => pa (aQp A j)) Zs ++ (PWd G (pa j) (pb j) (Ps j)))))))))) ((List.Perm.append_left _ (List.Perm.append_left _ (List.Perm.append_left _ (List.Perm.append_left _ (List.perm_append_comm))))).trans (List.Perm.of_eq (by simp only [List.append_assoc]))) ?_
        refine V.same (ws' := (CWd G o a RP RQ RU S ++ (KWd G (a 4) (f 0) K0 ++ (KWd G (a 5) (f 1) K1 ++ (KWd G (a 6) (f 2) K2 ++ (ULd G 10 ua ub Us ++ (PLx G (aNp A) pa pb Ps j ++ (QLd G (aNq A) qa qb (fun j => pa (aQp A j)) Zs))))))) ++ (PWd G (pa j) (pb j) (Ps j))) (by simp only [List.append_assoc]) ?_
        refine v_callVN (pc := 30) (st := []) (q0 := 0) (wr := (CWd G o a RP RQ RU S ++ (KWd G (a 4) (f 0) K0 ++ (KWd G (a 5) (f 1) K1 ++ (KWd G (a 6) (f 2) K2 ++ (ULd G 10 ua ub Us ++ (PLx G (aNp A) pa pb Ps j ++ (QLd G (aNq A) qa qb (fun j => pa (aQp A j)) Zs)))))))) C (kX1_isWhole G (pa j) (pb j) (Ps j)) ykX1_isWhole cvX1_isWhole nw_20 dX4_run_30 rfl rfl rfl rfl rfl (by decide) (Nat.le_of_ble_eq_true rfl) (by decide) rfl (Ri_kk (fun r_30 u_30 h_30 => ?_))
        obtain ⟨e_30, h_30⟩ := h_30
        rw [e_30]
        rw [(hP j hj).1.2.2.1] at h_30
        refine V.same (ws' := (CWd G o a RP RQ RU S ++ (KWd G (a 4) (f 0) K0 ++ (KWd G (a 5) (f 1) K1 ++ (KWd G (a 6) (f 2) K2 ++ (ULd G 10 ua ub Us ++ (PLx G (aNp A) pa pb Ps j ++ (QLd G (aNq A) qa qb (fun j => pa (aQp A j)) Zs ++ (PWd G (pa j) (pb j) (Ps j)))))))))) (by simp only [List.append_assoc]) ?_
        refine V.perm (ws' := (CWd G o a RP RQ RU S ++ (KWd G (a 4) (f 0) K0 ++ (KWd G (a 5) (f 1) K1 ++ (KWd G (a 6) (f 2) K2 ++ (PLx G (aNp A) pa pb Ps j ++ (QLd G (aNq A) qa qb (fun j => pa (aQp A j)) Zs ++ (PWd G (pa j) (pb j) (Ps j) ++ (ULd G 10 ua ub Us))))))))) ((List.Perm.append_left _ (List.Perm.append_left _ (List.Perm.append_left _ (List.Perm.append_left _ (List.perm_append_comm))))).trans (List.Perm.of_eq (by simp only [List.append_assoc]))) ?_
        refine V.perm (ws' := (CWd G o a RP RQ RU S ++ (KWd G (a 4) (f 0) K0 ++ (KWd G (a 5) (f 1) K1 ++ (KWd G (a 6) (f 2) K2 ++ (QLd G (aNq A) qa qb (fun j => pa (aQp A j)) Zs ++ (PWd G (pa j) (pb j) (Ps j) ++ (ULd G 10 ua ub Us ++ (PLx G (aNp A) pa pb Ps j))))))))) ((List.Perm.append_left _ (List.Perm.append_left _ (List.Perm.append_left _ (List.Perm.append_left _ (List.perm_append_comm))))).trans (List.Perm.of_eq (by simp only [List.append_assoc]))) ?_
        refine V.perm (ws' := (CWd G o a RP RQ RU S ++ (KWd G (a 4) (f 0) K0 ++ (KWd G (a 5) (f 1) K1 ++ (KWd G (a 6) (f 2) K2 ++ (PWd G (pa j) (pb j) (Ps j) ++ (ULd G 10 ua ub Us ++ (PLx G (aNp A) pa pb Ps j ++ (QLd G (aNq A) qa qb (fun j => pa (aQp A j)) Zs))))))))) ((List.Perm.append_left _ (List.Perm.append_left _ (List.Perm.append_left _ (List.Perm.append_left _ (List.perm_append_comm))))).trans (List.Perm.of_eq (by simp only [List.append_assoc]))) ?_
        rcases (wh01 (dp_le20 hI hj) h_30) with ⟨q_30, rfl⟩ | ⟨q_30, rfl⟩
        · refine v_if_neF (pc := 33) (tgt := 39) C (by decide) dX4_run_33 (by decide) ?_
          refine v_bipush (pc := 36) (v := (-3)) C dX4_run_36 (by decide) ?_
          refine V.perm (ws' := (CWd G o a RP RQ RU S ++ (KWd G (a 4) (f 0) K0 ++ (KWd G (a 5) (f 1) K1 ++ (KWd G (a 6) (f 2) K2 ++ (PWd G (pa j) (pb j) (Ps j) ++ (ULd G 10 ua ub Us ++ (QLd G (aNq A) qa qb (fun j => pa (aQp A j)) Zs ++ (PLx G (aNp A) pa pb Ps j))))))))) ((List.Perm.append_left _ (List.Perm.append_left _ (List.Perm.append_left _ (List.Perm.append_left _ (List.Perm.append_left _ (List.Perm.append_left _ (List.perm_append_comm))))))).trans (List.Perm.of_eq (by simp only [List.append_assoc]))) ?_
          refine V.perm (ws' := (CWd G o a RP RQ RU S ++ (KWd G (a 4) (f 0) K0 ++ (KWd G (a 5) (f 1) K1 ++ (KWd G (a 6) (f 2) K2 ++ (ULd G 10 ua ub Us ++ (QLd G (aNq A) qa qb (fun j => pa (aQp A j)) Zs ++ (PLx G (aNp A) pa pb Ps j ++ (PWd G (pa j) (pb j) (Ps j)))))))))) ((List.Perm.append_left _ (List.Perm.append_left _ (List.Perm.append_left _ (List.Perm.append_left _ (List.perm_append_comm))))).trans (List.Perm.of_eq (by simp only [List.append_assoc]))) ?_
          refine V.perm (ws' := (CWd G o a RP RQ RU S ++ (KWd G (a 4) (f 0) K0 ++ (KWd G (a 5) (f 1) K1 ++ (KWd G (a 6) (f 2) K2 ++ (ULd G 10 ua ub Us ++ (QLd G (aNq A) qa qb (fun j => pa (aQp A j)) Zs ++ (PLd G (aNp A) pa pb Ps)))))))) (List.Perm.append_left _ (List.Perm.append_left _ (List.Perm.append_left _ (List.Perm.append_left _ (List.Perm.append_left _ (List.Perm.append_left _ (PL_same hj))))))) ?_
          refine V.perm (ws' := (CWd G o a RP RQ RU S ++ (KWd G (a 4) (f 0) K0 ++ (KWd G (a 5) (f 1) K1 ++ (KWd G (a 6) (f 2) K2 ++ (ULd G 10 ua ub Us ++ (PLd G (aNp A) pa pb Ps ++ (QLd G (aNq A) qa qb (fun j => pa (aQp A j)) Zs)))))))) ((List.Perm.append_left _ (List.Perm.append_left _ (List.Perm.append_left _ (List.Perm.append_left _ (List.Perm.append_left _ (List.perm_append_comm)))))).trans (List.Perm.of_eq (by simp only [List.append_assoc]))) ?_
          subst hQ
          exact v_iret (pc := 38) C dX4_run_38 (rfl) ((A, (S, K0, K1, K2, Us, Ps, Zs, RP, RQ, pa, pb, qa, qb))) rfl (⟨by unfold s_run; rw [if_neg (nbad hj (by omega)), if_neg q_13, if_neg q_20, tn_nI (n := j) (by omega), if_neg q_30], by unfold s_run; rw [if_neg (nbad hj (by omega)), if_neg q_13, if_neg q_20, tn_nI (n := j) (by omega), if_neg q_30], hC⟩)
        · refine v_if_neT (pc := 33) (tgt := 39) C (by decide) dX4_run_33 (by decide) ?_
          refine v_aload_n (pc := 39) C dX4_run_39 rfl ?_
          refine v_get (pc := 40) (v := .ref ((a 4))) C inX4 0 rfl rfl 4 (by decide) kw1_86 rfl dX4_run_40 ?_
          refine v_aload (pc := 43) C dX4_run_43 rfl ?_
          refine v_iload_n (pc := 45) C dX4_run_45 rfl ?_
          refine v_iload_n (pc := 46) C dX4_run_46 rfl ?_
          refine V.perm (ws' := (CWd G o a RP RQ RU S ++ (KWd G (a 4) (f 0) K0 ++ (KWd G (a 5) (f 1) K1 ++ (KWd G (a 6) (f 2) K2 ++ (ULd G 10 ua ub Us ++ (PLx G (aNp A) pa pb Ps j ++ (QLd G (aNq A) qa qb (fun j => pa (aQp A j)) Zs ++ (PWd G (pa j) (pb j) (Ps j)))))))))) ((List.Perm.append_left _ (List.Perm.append_left _ (List.Perm.append_left _ (List.Perm.append_left _ (List.perm_append_comm))))).trans (List.Perm.of_eq (by simp only [List.append_assoc]))) ?_
          refine V.perm (ws' := (CWd G o a RP RQ RU S ++ (KWd G (a 5) (f 1) K1 ++ (KWd G (a 6) (f 2) K2 ++ (ULd G 10 ua ub Us ++ (PLx G (aNp A) pa pb Ps j ++ (QLd G (aNq A) qa qb (fun j => pa (aQp A j)) Zs ++ (PWd G (pa j) (pb j) (Ps j) ++ (KWd G (a 4) (f 0) K0))))))))) ((List.Perm.append_left _ (List.perm_append_comm)).trans (List.Perm.of_eq (by simp only [List.append_assoc]))) ?_
          refine V.same (ws' := (CWd G o a RP RQ RU S ++ (KWd G (a 5) (f 1) K1 ++ (KWd G (a 6) (f 2) K2 ++ (ULd G 10 ua ub Us ++ (PLx G (aNp A) pa pb Ps j ++ (QLd G (aNq A) qa qb (fun j => pa (aQp A j)) Zs)))))) ++ (PWd G (pa j) (pb j) (Ps j) ++ (KWd G (a 4) (f 0) K0))) (by simp only [List.append_assoc]) ?_
          refine v_callVN (pc := 47) (st := []) (q0 := 7) (wr := (CWd G o a RP RQ RU S ++ (KWd G (a 5) (f 1) K1 ++ (KWd G (a 6) (f 2) K2 ++ (ULd G 10 ua ub Us ++ (PLx G (aNp A) pa pb Ps j ++ (QLd G (aNq A) qa qb (fun j => pa (aQp A j)) Zs))))))) C (kX0_perform G (pa j) (a 4) (pb j) (f 0) (Ps j) K0 (aO A j) (aX A j) (aY A j) (aN A j) n m (hP j hj).1.1 (okp_of hI hj q_30)) ykX0_perform cvX0_perform nw_23 dX4_run_47 rfl rfl rfl rfl rfl (by decide) (Nat.le_of_ble_eq_true rfl) (by decide) rfl (Rv_kk (fun u_47 h_47 => ?_))
          obtain ⟨hF, -⟩ := h_47
          refine V.same (ws' := (CWd G o a RP RQ RU S ++ (KWd G (a 5) (f 1) K1 ++ (KWd G (a 6) (f 2) K2 ++ (ULd G 10 ua ub Us ++ (PLx G (aNp A) pa pb Ps j ++ (QLd G (aNq A) qa qb (fun j => pa (aQp A j)) Zs ++ (PWd G (pa j) (pb j) (Ps j) ++ (KWd G (a 4) (f 0) u_47))))))))) (by simp only [List.append_assoc]) ?_
          refine V.perm (ws' := (CWd G o a RP RQ RU S ++ (KWd G (a 6) (f 2) K2 ++ (ULd G 10 ua ub Us ++ (PLx G (aNp A) pa pb Ps j ++ (QLd G (aNq A) qa qb (fun j => pa (aQp A j)) Zs ++ (PWd G (pa j) (pb j) (Ps j) ++ (KWd G (a 4) (f 0) u_47 ++ (KWd G (a 5) (f 1) K1))))))))) ((List.Perm.append_left _ (List.perm_append_comm)).trans (List.Perm.of_eq (by simp only [List.append_assoc]))) ?_
          refine V.perm (ws' := (CWd G o a RP RQ RU S ++ (ULd G 10 ua ub Us ++ (PLx G (aNp A) pa pb Ps j ++ (QLd G (aNq A) qa qb (fun j => pa (aQp A j)) Zs ++ (PWd G (pa j) (pb j) (Ps j) ++ (KWd G (a 4) (f 0) u_47 ++ (KWd G (a 5) (f 1) K1 ++ (KWd G (a 6) (f 2) K2))))))))) ((List.Perm.append_left _ (List.perm_append_comm)).trans (List.Perm.of_eq (by simp only [List.append_assoc]))) ?_
          refine V.perm (ws' := (CWd G o a RP RQ RU S ++ (ULd G 10 ua ub Us ++ (PLx G (aNp A) pa pb Ps j ++ (QLd G (aNq A) qa qb (fun j => pa (aQp A j)) Zs ++ (KWd G (a 4) (f 0) u_47 ++ (KWd G (a 5) (f 1) K1 ++ (KWd G (a 6) (f 2) K2 ++ (PWd G (pa j) (pb j) (Ps j)))))))))) ((List.Perm.append_left _ (List.Perm.append_left _ (List.Perm.append_left _ (List.Perm.append_left _ (List.perm_append_comm))))).trans (List.Perm.of_eq (by simp only [List.append_assoc]))) ?_
          refine V.perm (ws' := (CWd G o a RP RQ RU S ++ (PLx G (aNp A) pa pb Ps j ++ (QLd G (aNq A) qa qb (fun j => pa (aQp A j)) Zs ++ (KWd G (a 4) (f 0) u_47 ++ (KWd G (a 5) (f 1) K1 ++ (KWd G (a 6) (f 2) K2 ++ (PWd G (pa j) (pb j) (Ps j) ++ (ULd G 10 ua ub Us))))))))) ((List.Perm.append_left _ (List.perm_append_comm)).trans (List.Perm.of_eq (by simp only [List.append_assoc]))) ?_
          refine V.perm (ws' := (CWd G o a RP RQ RU S ++ (QLd G (aNq A) qa qb (fun j => pa (aQp A j)) Zs ++ (KWd G (a 4) (f 0) u_47 ++ (KWd G (a 5) (f 1) K1 ++ (KWd G (a 6) (f 2) K2 ++ (PWd G (pa j) (pb j) (Ps j) ++ (ULd G 10 ua ub Us ++ (PLx G (aNp A) pa pb Ps j))))))))) ((List.Perm.append_left _ (List.perm_append_comm)).trans (List.Perm.of_eq (by simp only [List.append_assoc]))) ?_
          refine V.perm (ws' := (CWd G o a RP RQ RU S ++ (KWd G (a 4) (f 0) u_47 ++ (KWd G (a 5) (f 1) K1 ++ (KWd G (a 6) (f 2) K2 ++ (PWd G (pa j) (pb j) (Ps j) ++ (ULd G 10 ua ub Us ++ (PLx G (aNp A) pa pb Ps j ++ (QLd G (aNq A) qa qb (fun j => pa (aQp A j)) Zs))))))))) ((List.Perm.append_left _ (List.perm_append_comm)).trans (List.Perm.of_eq (by simp only [List.append_assoc]))) ?_
          refine v_aload_n (pc := 50) C dX4_run_50 rfl ?_
          refine v_iconst (pc := 51) (v := 1) C dX4_run_51 (by decide) ?_
          refine v_put (pc := 52) C inX4 tyX4 tyX4_ok nmX4 0 rfl rfl 14 (by decide) kw1_96 rfl (rfl) rfl (Nat.le_of_ble_eq_true rfl) dX4_run_52 (ws' := (CWd G o a RP RQ RU (sI S 14 (1 : Int32)) ++ (KWd G (a 4) (f 0) u_47 ++ (KWd G (a 5) (f 1) K1 ++ (KWd G (a 6) (f 2) K2 ++ (PWd G (pa j) (pb j) (Ps j) ++ (ULd G 10 ua ub Us ++ (PLx G (aNp A) pa pb Ps j ++ (QLd G (aNq A) qa qb (fun j => pa (aQp A j)) Zs))))))))) rfl ?_
          refine v_aload_n (pc := 55) C dX4_run_55 rfl ?_
          refine v_get (pc := 56) (v := .ref ((a 4))) C inX4 0 rfl rfl 4 (by decide) kw1_86 rfl dX4_run_56 ?_
          refine v_getN (pc := 59) (v := .int (mI u_47 7)) C inX0 9 rfl rfl 7 (by decide) nw_4 rfl dX4_run_59 ?_
          refine V.perm (ws' := (CWd G o a RP RQ RU (sI S 14 (1 : Int32)) ++ (KWd G (a 4) (f 0) u_47 ++ (KWd G (a 5) (f 1) K1 ++ (KWd G (a 6) (f 2) K2 ++ (PWd G (pa j) (pb j) (Ps j) ++ (ULd G 10 ua ub Us ++ (QLd G (aNq A) qa qb (fun j => pa (aQp A j)) Zs ++ (PLx G (aNp A) pa pb Ps j))))))))) ((List.Perm.append_left _ (List.Perm.append_left _ (List.Perm.append_left _ (List.Perm.append_left _ (List.Perm.append_left _ (List.Perm.append_left _ (List.perm_append_comm))))))).trans (List.Perm.of_eq (by simp only [List.append_assoc]))) ?_
          refine V.perm (ws' := (CWd G o a RP RQ RU (sI S 14 (1 : Int32)) ++ (KWd G (a 4) (f 0) u_47 ++ (KWd G (a 5) (f 1) K1 ++ (KWd G (a 6) (f 2) K2 ++ (ULd G 10 ua ub Us ++ (QLd G (aNq A) qa qb (fun j => pa (aQp A j)) Zs ++ (PLx G (aNp A) pa pb Ps j ++ (PWd G (pa j) (pb j) (Ps j)))))))))) ((List.Perm.append_left _ (List.Perm.append_left _ (List.Perm.append_left _ (List.Perm.append_left _ (List.perm_append_comm))))).trans (List.Perm.of_eq (by simp only [List.append_assoc]))) ?_
          refine V.perm (ws' := (CWd G o a RP RQ RU (sI S 14 (1 : Int32)) ++ (KWd G (a 4) (f 0) u_47 ++ (KWd G (a 5) (f 1) K1 ++ (KWd G (a 6) (f 2) K2 ++ (ULd G 10 ua ub Us ++ (QLd G (aNq A) qa qb (fun j => pa (aQp A j)) Zs ++ (PLd G (aNp A) pa pb Ps)))))))) (List.Perm.append_left _ (List.Perm.append_left _ (List.Perm.append_left _ (List.Perm.append_left _ (List.Perm.append_left _ (List.Perm.append_left _ (PL_same hj))))))) ?_
          refine V.perm (ws' := (CWd G o a RP RQ RU (sI S 14 (1 : Int32)) ++ (KWd G (a 4) (f 0) u_47 ++ (KWd G (a 5) (f 1) K1 ++ (KWd G (a 6) (f 2) K2 ++ (ULd G 10 ua ub Us ++ (PLd G (aNp A) pa pb Ps ++ (QLd G (aNq A) qa qb (fun j => pa (aQp A j)) Zs)))))))) ((List.Perm.append_left _ (List.Perm.append_left _ (List.Perm.append_left _ (List.Perm.append_left _ (List.Perm.append_left _ (List.perm_append_comm)))))).trans (List.Perm.of_eq (by simp only [List.append_assoc]))) ?_
          subst hQ
          exact v_iret (pc := 62) C dX4_run_62 (rfl) (((A.1, A.2.1, some (aN A j, endR (aN A j) (aRun A j m n), (aRun A j m n).2.1), A.2.2.2), ((sI S 14 (1 : Int32)), u_47, K1, K2, Us, Ps, Zs, RP, RQ, pa, pb, qa, qb))) rfl (⟨by unfold s_run; rw [if_neg (nbad hj (by omega)), if_neg q_13, if_neg q_20, tn_nI (n := j) (by omega), if_pos q_30]; exact hF.2.2.2.2.2.1, by unfold s_run; rw [if_neg (nbad hj (by omega)), if_neg q_13, if_neg q_20, tn_nI (n := j) (by omega), if_pos q_30], ⟨tl_S (A := A) (B := (A.1, A.2.1, some (aN A j, endR (aN A j) (aRun A j m n), (aRun A j m n).2.1), A.2.2.2)) (S := S) rfl rfl rfl rfl hS.1 hS.1.2.2, TRel_run (hI.2.1 j) hF rfl, tl_Ch rfl rfl rfl rfl rfl hS.2.2.1, hS.2.2.2.1, hS.2.2.2.2.trans (congrArg nI (tl_lines (A := A) (B := (A.1, A.2.1, some (aN A j, endR (aN A j) (aRun A j m n), (aRun A j m n).2.1), A.2.2.2)) rfl).symm)⟩, tl_P rfl rfl hP, tl_Q rfl rfl hA, hU, hRP, hRQ, hRU⟩)
def rmX4_choices : Room := { frames := 5, cells := 0, slots := 0, locals := 118 }
set_option maxHeartbeats 4000000 in
set_option maxRecDepth 100000 in
theorem kX4_choices (G : TG) (o : Nat) (a : Nat → Nat) (f : Nat → Nat → Nat) (ua : Nat → Nat) (ub : Nat → Nat → Nat) (RP RQ RU : Nat → Option Nat) (S K0 K1 K2 : MS) (Us Ps Zs : Nat → MS) (pa qa : Nat → Nat) (pb qb : Nat → Nat → Nat) (A : AS) (hI : AInv A) (hC : CAll A RP RQ RU ua pa qa S K0 Us Ps Zs) (q n : Int32) : CT G yX4_choices cX4_choices 4 (some .int) rmX4_choices 0 0 [.ref (o), .int (q), .int (n)] (CWd G o a RP RQ RU S ++ (KWd G (a 4) (f 0) K0 ++ (KWd G (a 5) (f 1) K1 ++ (KWd G (a 6) (f 2) K2 ++ (ULd G 10 ua ub Us ++ (PLd G (aNp A) pa pb Ps ++ (QLd G (aNq A) qa qb (fun j => pa (aQp A j)) Zs))))))) (fun u : AS × DS => DWd G o a f ua ub RU u.1 u.2) (Ri (fun r δ => r = (s_choices A q n).1 ∧ δ.1 = (s_choices A q n).2 ∧ CRel δ.1 RU ua δ.2)) := by
  refine CT.enter (by decide) (Nat.le_of_ble_eq_true rfl) (fun X C hnm => ?_)
  refine V.less [(0, .ref (o)), (1, .int (q)), (2, .int (n))] ⟨rfl, rfl, rfl, trivial⟩ ?_
  generalize hQ : (QX G X (fun u : AS × DS => DWd G o a f ua ub RU u.1 u.2) (Ri (fun r δ => r = (s_choices A q n).1 ∧ δ.1 = (s_choices A q n).2 ∧ CRel δ.1 RU ua δ.2)) 0 0) = Qq
  have hnp := hI.1
  have hnq := hI.2.2.2.2.1
  obtain ⟨hS, hP, hA, hU, hRP, hRQ, hRU⟩ := id hC
  refine v_aload_n (pc := 0) C dX4_choices_0 rfl ?_
  refine v_iload_n (pc := 1) C dX4_choices_1 rfl ?_
  refine V.perm (ws' := (KWd G (a 4) (f 0) K0 ++ (KWd G (a 5) (f 1) K1 ++ (KWd G (a 6) (f 2) K2 ++ (ULd G 10 ua ub Us ++ (PLd G (aNp A) pa pb Ps ++ (QLd G (aNq A) qa qb (fun j => pa (aQp A j)) Zs ++ (CWd G o a RP RQ RU S)))))))) ((List.perm_append_comm).trans (List.Perm.of_eq (by simp only [List.append_assoc]))) ?_
  refine V.same (ws' := (KWd G (a 4) (f 0) K0 ++ (KWd G (a 5) (f 1) K1 ++ (KWd G (a 6) (f 2) K2 ++ (ULd G 10 ua ub Us ++ (PLd G (aNp A) pa pb Ps ++ (QLd G (aNq A) qa qb (fun j => pa (aQp A j)) Zs)))))) ++ (CWd G o a RP RQ RU S)) (by simp only [List.append_assoc]) ?_
  refine v_callV (pc := 2) (st := []) (q0 := 0) (wr := (KWd G (a 4) (f 0) K0 ++ (KWd G (a 5) (f 1) K1 ++ (KWd G (a 6) (f 2) K2 ++ (ULd G 10 ua ub Us ++ (PLd G (aNp A) pa pb Ps ++ (QLd G (aNq A) qa qb (fun j => pa (aQp A j)) Zs))))))) C (kX4_questionAt G o a RP RQ RU S q (aNq A) hI.2.2.2.2.1 hS.1.2.1) ykX4_questionAt cvX4_questionAt kw2_88 dX4_choices_2 rfl rfl rfl rfl rfl (by decide) (Nat.le_of_ble_eq_true rfl) (by decide) rfl (Rq_kk (fun r_2 u_2 h_2 => ?_))
  obtain ⟨e_2, h_2⟩ := h_2
  rw [e_2]
  refine V.same (ws' := (KWd G (a 4) (f 0) K0 ++ (KWd G (a 5) (f 1) K1 ++ (KWd G (a 6) (f 2) K2 ++ (ULd G 10 ua ub Us ++ (PLd G (aNp A) pa pb Ps ++ (QLd G (aNq A) qa qb (fun j => pa (aQp A j)) Zs ++ (CWd G o a RP RQ RU S)))))))) (by simp only [List.append_assoc]) ?_
  refine V.perm (ws' := (KWd G (a 5) (f 1) K1 ++ (KWd G (a 6) (f 2) K2 ++ (ULd G 10 ua ub Us ++ (PLd G (aNp A) pa pb Ps ++ (QLd G (aNq A) qa qb (fun j => pa (aQp A j)) Zs ++ (CWd G o a RP RQ RU S ++ (KWd G (a 4) (f 0) K0)))))))) ((List.perm_append_comm).trans (List.Perm.of_eq (by simp only [List.append_assoc]))) ?_
  refine V.perm (ws' := (KWd G (a 6) (f 2) K2 ++ (ULd G 10 ua ub Us ++ (PLd G (aNp A) pa pb Ps ++ (QLd G (aNq A) qa qb (fun j => pa (aQp A j)) Zs ++ (CWd G o a RP RQ RU S ++ (KWd G (a 4) (f 0) K0 ++ (KWd G (a 5) (f 1) K1)))))))) ((List.perm_append_comm).trans (List.Perm.of_eq (by simp only [List.append_assoc]))) ?_
  refine V.perm (ws' := (ULd G 10 ua ub Us ++ (PLd G (aNp A) pa pb Ps ++ (QLd G (aNq A) qa qb (fun j => pa (aQp A j)) Zs ++ (CWd G o a RP RQ RU S ++ (KWd G (a 4) (f 0) K0 ++ (KWd G (a 5) (f 1) K1 ++ (KWd G (a 6) (f 2) K2)))))))) ((List.perm_append_comm).trans (List.Perm.of_eq (by simp only [List.append_assoc]))) ?_
  refine V.perm (ws' := (PLd G (aNp A) pa pb Ps ++ (QLd G (aNq A) qa qb (fun j => pa (aQp A j)) Zs ++ (CWd G o a RP RQ RU S ++ (KWd G (a 4) (f 0) K0 ++ (KWd G (a 5) (f 1) K1 ++ (KWd G (a 6) (f 2) K2 ++ (ULd G 10 ua ub Us)))))))) ((List.perm_append_comm).trans (List.Perm.of_eq (by simp only [List.append_assoc]))) ?_
  refine V.perm (ws' := (QLd G (aNq A) qa qb (fun j => pa (aQp A j)) Zs ++ (CWd G o a RP RQ RU S ++ (KWd G (a 4) (f 0) K0 ++ (KWd G (a 5) (f 1) K1 ++ (KWd G (a 6) (f 2) K2 ++ (ULd G 10 ua ub Us ++ (PLd G (aNp A) pa pb Ps)))))))) ((List.perm_append_comm).trans (List.Perm.of_eq (by simp only [List.append_assoc]))) ?_
  refine V.perm (ws' := (CWd G o a RP RQ RU S ++ (KWd G (a 4) (f 0) K0 ++ (KWd G (a 5) (f 1) K1 ++ (KWd G (a 6) (f 2) K2 ++ (ULd G 10 ua ub Us ++ (PLd G (aNp A) pa pb Ps ++ (QLd G (aNq A) qa qb (fun j => pa (aQp A j)) Zs)))))))) ((List.perm_append_comm).trans (List.Perm.of_eq (by simp only [List.append_assoc]))) ?_
  rcases h_2 with ⟨b_q, rfl⟩ | ⟨j, hj, rfl, rfl⟩
  · refine v_rfn rfl ?_
    refine v_astore_nN (pc := 5) C dX4_choices_5 (by decide) ?_
    refine v_aload_nN (pc := 6) C dX4_choices_6 rfl ?_
    refine v_ifnullN (pc := 7) (tgt := 21) C dX4_choices_7 (by decide) ?_
    refine v_iconst (pc := 21) (v := (-1)) C dX4_choices_21 (by decide) ?_
    subst hQ
    exact v_iret (pc := 22) C dX4_choices_22 (rfl) ((A, (S, K0, K1, K2, Us, Ps, Zs, RP, RQ, pa, pb, qa, qb))) rfl (⟨by unfold s_choices; rw [if_pos b_q], by unfold s_choices; rw [if_pos b_q], hC⟩)
  · refine v_rfs (hRQ j hj) ?_
    refine V.perm (ws' := (CWd G o a RP RQ RU S ++ (KWd G (a 4) (f 0) K0 ++ (KWd G (a 5) (f 1) K1 ++ (KWd G (a 6) (f 2) K2 ++ (ULd G 10 ua ub Us ++ (PLd G (aNp A) pa pb Ps ++ (QLx G (aNq A) qa qb (fun j => pa (aQp A j)) Zs j ++ (QWd G (qa j) (qb j) (pa (aQp A j)) (Zs j)))))))))) ((List.Perm.append_left _ (List.Perm.append_left _ (List.Perm.append_left _ (List.Perm.append_left _ (List.Perm.append_left _ (List.Perm.append_left _ (QL_focus hj))))))).trans (List.Perm.of_eq (by simp only [List.append_assoc]))) ?_
    refine V.perm (ws' := (CWd G o a RP RQ RU S ++ (KWd G (a 4) (f 0) K0 ++ (KWd G (a 5) (f 1) K1 ++ (KWd G (a 6) (f 2) K2 ++ (PLd G (aNp A) pa pb Ps ++ (QLx G (aNq A) qa qb (fun j => pa (aQp A j)) Zs j ++ (QWd G (qa j) (qb j) (pa (aQp A j)) (Zs j) ++ (ULd G 10 ua ub Us))))))))) ((List.Perm.append_left _ (List.Perm.append_left _ (List.Perm.append_left _ (List.Perm.append_left _ (List.perm_append_comm))))).trans (List.Perm.of_eq (by simp only [List.append_assoc]))) ?_
    refine V.perm (ws' := (CWd G o a RP RQ RU S ++ (KWd G (a 4) (f 0) K0 ++ (KWd G (a 5) (f 1) K1 ++ (KWd G (a 6) (f 2) K2 ++ (QLx G (aNq A) qa qb (fun j => pa (aQp A j)) Zs j ++ (QWd G (qa j) (qb j) (pa (aQp A j)) (Zs j) ++ (ULd G 10 ua ub Us ++ (PLd G (aNp A) pa pb Ps))))))))) ((List.Perm.append_left _ (List.Perm.append_left _ (List.Perm.append_left _ (List.Perm.append_left _ (List.perm_append_comm))))).trans (List.Perm.of_eq (by simp only [List.append_assoc]))) ?_
    refine V.perm (ws' := (CWd G o a RP RQ RU S ++ (KWd G (a 4) (f 0) K0 ++ (KWd G (a 5) (f 1) K1 ++ (KWd G (a 6) (f 2) K2 ++ (QWd G (qa j) (qb j) (pa (aQp A j)) (Zs j) ++ (ULd G 10 ua ub Us ++ (PLd G (aNp A) pa pb Ps ++ (QLx G (aNq A) qa qb (fun j => pa (aQp A j)) Zs j))))))))) ((List.Perm.append_left _ (List.Perm.append_left _ (List.Perm.append_left _ (List.Perm.append_left _ (List.perm_append_comm))))).trans (List.Perm.of_eq (by simp only [List.append_assoc]))) ?_
    refine V.perm (ws' := (CWd G o a RP RQ RU S ++ (KWd G (a 4) (f 0) K0 ++ (KWd G (a 5) (f 1) K1 ++ (KWd G (a 6) (f 2) K2 ++ (QWd G (qa j) (qb j) (pa (aQp A j)) (Zs j) ++ (ULd G 10 ua ub Us ++ (PLx G (aNp A) pa pb Ps (aQp A j) ++ (PWd G (pa (aQp A j)) (pb (aQp A j)) (Ps (aQp A j)) ++ (QLx G (aNq A) qa qb (fun j => pa (aQp A j)) Zs j)))))))))) ((List.Perm.append_left _ (List.Perm.append_left _ (List.Perm.append_left _ (List.Perm.append_left _ (List.Perm.append_left _ (List.Perm.append_left _ (List.Perm.append_right _ (PL_focus (hI.2.2.2.2.2.1 j hj).1)))))))).trans (List.Perm.of_eq (by simp only [List.append_assoc]))) ?_
    refine V.perm (ws' := (CWd G o a RP RQ RU S ++ (KWd G (a 4) (f 0) K0 ++ (KWd G (a 5) (f 1) K1 ++ (KWd G (a 6) (f 2) K2 ++ (QWd G (qa j) (qb j) (pa (aQp A j)) (Zs j) ++ (PLx G (aNp A) pa pb Ps (aQp A j) ++ (PWd G (pa (aQp A j)) (pb (aQp A j)) (Ps (aQp A j)) ++ (QLx G (aNq A) qa qb (fun j => pa (aQp A j)) Zs j ++ (ULd G 10 ua ub Us)))))))))) ((List.Perm.append_left _ (List.Perm.append_left _ (List.Perm.append_left _ (List.Perm.append_left _ (List.Perm.append_left _ (List.perm_append_comm)))))).trans (List.Perm.of_eq (by simp only [List.append_assoc]))) ?_
    refine V.perm (ws' := (CWd G o a RP RQ RU S ++ (KWd G (a 4) (f 0) K0 ++ (KWd G (a 5) (f 1) K1 ++ (KWd G (a 6) (f 2) K2 ++ (QWd G (qa j) (qb j) (pa (aQp A j)) (Zs j) ++ (PWd G (pa (aQp A j)) (pb (aQp A j)) (Ps (aQp A j)) ++ (QLx G (aNq A) qa qb (fun j => pa (aQp A j)) Zs j ++ (ULd G 10 ua ub Us ++ (PLx G (aNp A) pa pb Ps (aQp A j))))))))))) ((List.Perm.append_left _ (List.Perm.append_left _ (List.Perm.append_left _ (List.Perm.append_left _ (List.Perm.append_left _ (List.perm_append_comm)))))).trans (List.Perm.of_eq (by simp only [List.append_assoc]))) ?_
    refine V.perm (ws' := (CWd G o a RP RQ RU S ++ (KWd G (a 4) (f 0) K0 ++ (KWd G (a 5) (f 1) K1 ++ (KWd G (a 6) (f 2) K2 ++ (QWd G (qa j) (qb j) (pa (aQp A j)) (Zs j) ++ (PWd G (pa (aQp A j)) (pb (aQp A j)) (Ps (aQp A j)) ++ (ULd G 10 ua ub Us ++ (PLx G (aNp A) pa pb Ps (aQp A j) ++ (QLx G (aNq A) qa qb (fun j => pa (aQp A j)) Zs j)))))))))) ((List.Perm.append_left _ (List.Perm.append_left _ (List.Perm.append_left _ (List.Perm.append_left _ (List.Perm.append_left _ (List.Perm.append_left _ (List.perm_append_comm))))))).trans (List.Perm.of_eq (by simp only [List.append_assoc]))) ?_
    refine v_astore_n (pc := 5) C dX4_choices_5 (by decide) ?_
    refine v_aload_n (pc := 6) C dX4_choices_6 rfl ?_
    refine v_ifnull (pc := 7) C dX4_choices_7 ?_
    refine v_iload_n (pc := 10) C dX4_choices_10 rfl ?_
    refine v_iconst (pc := 11) (v := 2) C dX4_choices_11 (by decide) ?_
    refine v_icmp_lt (pc := 12) (tgt := 21) C dX4_choices_12 (by decide) (fun c_12 => ?_) (fun c_12 => ?_)
    · refine v_iconst (pc := 21) (v := (-1)) C dX4_choices_21 (by decide) ?_
      refine V.perm (ws' := (CWd G o a RP RQ RU S ++ (KWd G (a 4) (f 0) K0 ++ (KWd G (a 5) (f 1) K1 ++ (KWd G (a 6) (f 2) K2 ++ (PWd G (pa (aQp A j)) (pb (aQp A j)) (Ps (aQp A j)) ++ (ULd G 10 ua ub Us ++ (PLx G (aNp A) pa pb Ps (aQp A j) ++ (QLx G (aNq A) qa qb (fun j => pa (aQp A j)) Zs j ++ (QWd G (qa j) (qb j) (pa (aQp A j)) (Zs j))))))))))) ((List.Perm.append_left _ (List.Perm.append_left _ (List.Perm.append_left _ (List.Perm.append_left _ (List.perm_append_comm))))).trans (List.Perm.of_eq (by simp only [List.append_assoc]))) ?_
      refine V.perm (ws' := (CWd G o a RP RQ RU S ++ (KWd G (a 4) (f 0) K0 ++ (KWd G (a 5) (f 1) K1 ++ (KWd G (a 6) (f 2) K2 ++ (PWd G (pa (aQp A j)) (pb (aQp A j)) (Ps (aQp A j)) ++ (ULd G 10 ua ub Us ++ (PLx G (aNp A) pa pb Ps (aQp A j) ++ (QLd G (aNq A) qa qb (fun j => pa (aQp A j)) Zs))))))))) (List.Perm.append_left _ (List.Perm.append_left _ (List.Perm.append_left _ (List.Perm.append_left _ (List.Perm.append_left _ (List.Perm.append_left _ (List.Perm.append_left _ (QL_same hj)))))))) ?_
      refine V.perm (ws' := (CWd G o a RP RQ RU S ++ (KWd G (a 4) (f 0) K0 ++ (KWd G (a 5) (f 1) K1 ++ (KWd G (a 6) (f 2) K2 ++ (PWd G (pa (aQp A j)) (pb (aQp A j)) (Ps (aQp A j)) ++ (ULd G 10 ua ub Us ++ (QLd G (aNq A) qa qb (fun j => pa (aQp A j)) Zs ++ (PLx G (aNp A) pa pb Ps (aQp A j)))))))))) ((List.Perm.append_left _ (List.Perm.append_left _ (List.Perm.append_left _ (List.Perm.append_left _ (List.Perm.append_left _ (List.Perm.append_left _ (List.perm_append_comm))))))).trans (List.Perm.of_eq (by simp only [List.append_assoc]))) ?_
      refine V.perm (ws' := (CWd G o a RP RQ RU S ++ (KWd G (a 4) (f 0) K0 ++ (KWd G (a 5) (f 1) K1 ++ (KWd G (a 6) (f 2) K2 ++ (ULd G 10 ua ub Us ++ (QLd G (aNq A) qa qb (fun j => pa (aQp A j)) Zs ++ (PLx G (aNp A) pa pb Ps (aQp A j) ++ (PWd G (pa (aQp A j)) (pb (aQp A j)) (Ps (aQp A j))))))))))) ((List.Perm.append_left _ (List.Perm.append_left _ (List.Perm.append_left _ (List.Perm.append_left _ (List.perm_append_comm))))).trans (List.Perm.of_eq (by simp only [List.append_assoc]))) ?_
      refine V.perm (ws' := (CWd G o a RP RQ RU S ++ (KWd G (a 4) (f 0) K0 ++ (KWd G (a 5) (f 1) K1 ++ (KWd G (a 6) (f 2) K2 ++ (ULd G 10 ua ub Us ++ (QLd G (aNq A) qa qb (fun j => pa (aQp A j)) Zs ++ (PLd G (aNp A) pa pb Ps)))))))) (List.Perm.append_left _ (List.Perm.append_left _ (List.Perm.append_left _ (List.Perm.append_left _ (List.Perm.append_left _ (List.Perm.append_left _ (PL_same (hI.2.2.2.2.2.1 j hj).1))))))) ?_
      refine V.perm (ws' := (CWd G o a RP RQ RU S ++ (KWd G (a 4) (f 0) K0 ++ (KWd G (a 5) (f 1) K1 ++ (KWd G (a 6) (f 2) K2 ++ (ULd G 10 ua ub Us ++ (PLd G (aNp A) pa pb Ps ++ (QLd G (aNq A) qa qb (fun j => pa (aQp A j)) Zs)))))))) ((List.Perm.append_left _ (List.Perm.append_left _ (List.Perm.append_left _ (List.Perm.append_left _ (List.Perm.append_left _ (List.perm_append_comm)))))).trans (List.Perm.of_eq (by simp only [List.append_assoc]))) ?_
      subst hQ
      exact v_iret (pc := 22) C dX4_choices_22 (rfl) ((A, (S, K0, K1, K2, Us, Ps, Zs, RP, RQ, pa, pb, qa, qb))) rfl (⟨by unfold s_choices; rw [if_neg (nbad hj (by omega)), if_pos (Or.inl c_12)], by unfold s_choices; rw [if_neg (nbad hj (by omega)), if_pos (Or.inl c_12)], hC⟩)
    · refine v_iload_n (pc := 15) C dX4_choices_15 rfl ?_
      refine v_bipush (pc := 16) (v := 6) C dX4_choices_16 (by decide) ?_
      refine v_icmp_le (pc := 18) (tgt := 23) C dX4_choices_18 (by decide) (fun c_18 => ?_) (fun c_18 => ?_)
      · have q26 : ¬ (n < 2 ∨ 6 < n) := fun z => z.elim c_12 (fun y => absurd c_18 (Int32.not_le.mpr y))
        obtain ⟨ν, hν2, hν6, rfl⟩ := n26 q26
        refine v_aload_n (pc := 23) C dX4_choices_23 rfl ?_
        refine v_aload_n (pc := 24) C dX4_choices_24 rfl ?_
        refine V.perm (ws' := (KWd G (a 4) (f 0) K0 ++ (KWd G (a 5) (f 1) K1 ++ (KWd G (a 6) (f 2) K2 ++ (QWd G (qa j) (qb j) (pa (aQp A j)) (Zs j) ++ (PWd G (pa (aQp A j)) (pb (aQp A j)) (Ps (aQp A j)) ++ (ULd G 10 ua ub Us ++ (PLx G (aNp A) pa pb Ps (aQp A j) ++ (QLx G (aNq A) qa qb (fun j => pa (aQp A j)) Zs j ++ (CWd G o a RP RQ RU S)))))))))) ((List.perm_append_comm).trans (List.Perm.of_eq (by simp only [List.append_assoc]))) ?_
        refine V.perm (ws' := (KWd G (a 4) (f 0) K0 ++ (KWd G (a 6) (f 2) K2 ++ (QWd G (qa j) (qb j) (pa (aQp A j)) (Zs j) ++ (PWd G (pa (aQp A j)) (pb (aQp A j)) (Ps (aQp A j)) ++ (ULd G 10 ua ub Us ++ (PLx G (aNp A) pa pb Ps (aQp A j) ++ (QLx G (aNq A) qa qb (fun j => pa (aQp A j)) Zs j ++ (CWd G o a RP RQ RU S ++ (KWd G (a 5) (f 1) K1)))))))))) ((List.Perm.append_left _ (List.perm_append_comm)).trans (List.Perm.of_eq (by simp only [List.append_assoc]))) ?_
        refine V.perm (ws' := (KWd G (a 4) (f 0) K0 ++ (KWd G (a 6) (f 2) K2 ++ (QWd G (qa j) (qb j) (pa (aQp A j)) (Zs j) ++ (ULd G 10 ua ub Us ++ (PLx G (aNp A) pa pb Ps (aQp A j) ++ (QLx G (aNq A) qa qb (fun j => pa (aQp A j)) Zs j ++ (CWd G o a RP RQ RU S ++ (KWd G (a 5) (f 1) K1 ++ (PWd G (pa (aQp A j)) (pb (aQp A j)) (Ps (aQp A j)))))))))))) ((List.Perm.append_left _ (List.Perm.append_left _ (List.Perm.append_left _ (List.perm_append_comm)))).trans (List.Perm.of_eq (by simp only [List.append_assoc]))) ?_
        refine V.perm (ws' := (KWd G (a 4) (f 0) K0 ++ (KWd G (a 6) (f 2) K2 ++ (ULd G 10 ua ub Us ++ (PLx G (aNp A) pa pb Ps (aQp A j) ++ (QLx G (aNq A) qa qb (fun j => pa (aQp A j)) Zs j ++ (CWd G o a RP RQ RU S ++ (KWd G (a 5) (f 1) K1 ++ (PWd G (pa (aQp A j)) (pb (aQp A j)) (Ps (aQp A j)) ++ (QWd G (qa j) (qb j) (pa (aQp A j)) (Zs j))))))))))) ((List.Perm.append_left _ (List.Perm.append_left _ (List.perm_append_comm))).trans (List.Perm.of_eq (by simp only [List.append_assoc]))) ?_
        refine V.same (ws' := (KWd G (a 4) (f 0) K0 ++ (KWd G (a 6) (f 2) K2 ++ (ULd G 10 ua ub Us ++ (PLx G (aNp A) pa pb Ps (aQp A j) ++ (QLx G (aNq A) qa qb (fun j => pa (aQp A j)) Zs j))))) ++ (CWd G o a RP RQ RU S ++ (KWd G (a 5) (f 1) K1 ++ (PWd G (pa (aQp A j)) (pb (aQp A j)) (Ps (aQp A j)) ++ (QWd G (qa j) (qb j) (pa (aQp A j)) (Zs j)))))) (by simp only [List.append_assoc]) ?_
        refine v_callV (pc := 25) (st := []) (q0 := 0) (wr := (KWd G (a 4) (f 0) K0 ++ (KWd G (a 6) (f 2) K2 ++ (ULd G 10 ua ub Us ++ (PLx G (aNp A) pa pb Ps (aQp A j) ++ (QLx G (aNq A) qa qb (fun j => pa (aQp A j)) Zs j)))))) C (kX4_listChoices G o (pa (aQp A j)) (qa j) a (f 1) (pb (aQp A j)) (qb j) RP RQ RU S K1 (Ps (aQp A j)) (Zs j) (fun m => ansA A j (nI m)) (qZ A j) (hA j hj)) ykX4_listChoices cvX4_listChoices kw2_116 dX4_choices_25 rfl rfl rfl rfl rfl (by decide) (Nat.le_of_ble_eq_true rfl) (by decide) rfl (Ri_kk (fun r_25 u_25 h_25 => ?_))
        obtain ⟨er_25, ⟨t, s, eS_25, hts⟩, hQ_25⟩ := h_25
        rw [← chK_chF] at er_25
        subst er_25
        rw [eS_25]
        refine V.same (ws' := (KWd G (a 4) (f 0) K0 ++ (KWd G (a 6) (f 2) K2 ++ (ULd G 10 ua ub Us ++ (PLx G (aNp A) pa pb Ps (aQp A j) ++ (QLx G (aNq A) qa qb (fun j => pa (aQp A j)) Zs j ++ (CWd G o a RP RQ RU (sA (sA S 7 t) 8 s) ++ (KWd G (a 5) (f 1) u_25.2.1 ++ (PWd G (pa (aQp A j)) (pb (aQp A j)) (Ps (aQp A j)) ++ (QWd G (qa j) (qb j) (pa (aQp A j)) u_25.2.2)))))))))) (by simp only [List.append_assoc]) ?_
        refine V.perm (ws' := (KWd G (a 6) (f 2) K2 ++ (ULd G 10 ua ub Us ++ (PLx G (aNp A) pa pb Ps (aQp A j) ++ (QLx G (aNq A) qa qb (fun j => pa (aQp A j)) Zs j ++ (CWd G o a RP RQ RU (sA (sA S 7 t) 8 s) ++ (KWd G (a 5) (f 1) u_25.2.1 ++ (PWd G (pa (aQp A j)) (pb (aQp A j)) (Ps (aQp A j)) ++ (QWd G (qa j) (qb j) (pa (aQp A j)) u_25.2.2 ++ (KWd G (a 4) (f 0) K0)))))))))) ((List.perm_append_comm).trans (List.Perm.of_eq (by simp only [List.append_assoc]))) ?_
        refine V.perm (ws' := (KWd G (a 6) (f 2) K2 ++ (ULd G 10 ua ub Us ++ (PLx G (aNp A) pa pb Ps (aQp A j) ++ (QLx G (aNq A) qa qb (fun j => pa (aQp A j)) Zs j ++ (CWd G o a RP RQ RU (sA (sA S 7 t) 8 s) ++ (PWd G (pa (aQp A j)) (pb (aQp A j)) (Ps (aQp A j)) ++ (QWd G (qa j) (qb j) (pa (aQp A j)) u_25.2.2 ++ (KWd G (a 4) (f 0) K0 ++ (KWd G (a 5) (f 1) u_25.2.1)))))))))) ((List.Perm.append_left _ (List.Perm.append_left _ (List.Perm.append_left _ (List.Perm.append_left _ (List.Perm.append_left _ (List.perm_append_comm)))))).trans (List.Perm.of_eq (by simp only [List.append_assoc]))) ?_
        refine V.perm (ws' := (ULd G 10 ua ub Us ++ (PLx G (aNp A) pa pb Ps (aQp A j) ++ (QLx G (aNq A) qa qb (fun j => pa (aQp A j)) Zs j ++ (CWd G o a RP RQ RU (sA (sA S 7 t) 8 s) ++ (PWd G (pa (aQp A j)) (pb (aQp A j)) (Ps (aQp A j)) ++ (QWd G (qa j) (qb j) (pa (aQp A j)) u_25.2.2 ++ (KWd G (a 4) (f 0) K0 ++ (KWd G (a 5) (f 1) u_25.2.1 ++ (KWd G (a 6) (f 2) K2)))))))))) ((List.perm_append_comm).trans (List.Perm.of_eq (by simp only [List.append_assoc]))) ?_
        refine V.perm (ws' := (ULd G 10 ua ub Us ++ (PLx G (aNp A) pa pb Ps (aQp A j) ++ (QLx G (aNq A) qa qb (fun j => pa (aQp A j)) Zs j ++ (CWd G o a RP RQ RU (sA (sA S 7 t) 8 s) ++ (PWd G (pa (aQp A j)) (pb (aQp A j)) (Ps (aQp A j)) ++ (KWd G (a 4) (f 0) K0 ++ (KWd G (a 5) (f 1) u_25.2.1 ++ (KWd G (a 6) (f 2) K2 ++ (QWd G (qa j) (qb j) (pa (aQp A j)) u_25.2.2)))))))))) ((List.Perm.append_left _ (List.Perm.append_left _ (List.Perm.append_left _ (List.Perm.append_left _ (List.Perm.append_left _ (List.perm_append_comm)))))).trans (List.Perm.of_eq (by simp only [List.append_assoc]))) ?_
        refine V.perm (ws' := (ULd G 10 ua ub Us ++ (PLx G (aNp A) pa pb Ps (aQp A j) ++ (QLx G (aNq A) qa qb (fun j => pa (aQp A j)) Zs j ++ (CWd G o a RP RQ RU (sA (sA S 7 t) 8 s) ++ (KWd G (a 4) (f 0) K0 ++ (KWd G (a 5) (f 1) u_25.2.1 ++ (KWd G (a 6) (f 2) K2 ++ (QWd G (qa j) (qb j) (pa (aQp A j)) u_25.2.2 ++ (PWd G (pa (aQp A j)) (pb (aQp A j)) (Ps (aQp A j)))))))))))) ((List.Perm.append_left _ (List.Perm.append_left _ (List.Perm.append_left _ (List.Perm.append_left _ (List.perm_append_comm))))).trans (List.Perm.of_eq (by simp only [List.append_assoc]))) ?_
        refine V.perm (ws' := (PLx G (aNp A) pa pb Ps (aQp A j) ++ (QLx G (aNq A) qa qb (fun j => pa (aQp A j)) Zs j ++ (CWd G o a RP RQ RU (sA (sA S 7 t) 8 s) ++ (KWd G (a 4) (f 0) K0 ++ (KWd G (a 5) (f 1) u_25.2.1 ++ (KWd G (a 6) (f 2) K2 ++ (QWd G (qa j) (qb j) (pa (aQp A j)) u_25.2.2 ++ (PWd G (pa (aQp A j)) (pb (aQp A j)) (Ps (aQp A j)) ++ (ULd G 10 ua ub Us)))))))))) ((List.perm_append_comm).trans (List.Perm.of_eq (by simp only [List.append_assoc]))) ?_
        refine V.perm (ws' := (QLx G (aNq A) qa qb (fun j => pa (aQp A j)) Zs j ++ (CWd G o a RP RQ RU (sA (sA S 7 t) 8 s) ++ (KWd G (a 4) (f 0) K0 ++ (KWd G (a 5) (f 1) u_25.2.1 ++ (KWd G (a 6) (f 2) K2 ++ (QWd G (qa j) (qb j) (pa (aQp A j)) u_25.2.2 ++ (PWd G (pa (aQp A j)) (pb (aQp A j)) (Ps (aQp A j)) ++ (ULd G 10 ua ub Us ++ (PLx G (aNp A) pa pb Ps (aQp A j))))))))))) ((List.perm_append_comm).trans (List.Perm.of_eq (by simp only [List.append_assoc]))) ?_
        refine V.perm (ws' := (CWd G o a RP RQ RU (sA (sA S 7 t) 8 s) ++ (KWd G (a 4) (f 0) K0 ++ (KWd G (a 5) (f 1) u_25.2.1 ++ (KWd G (a 6) (f 2) K2 ++ (QWd G (qa j) (qb j) (pa (aQp A j)) u_25.2.2 ++ (PWd G (pa (aQp A j)) (pb (aQp A j)) (Ps (aQp A j)) ++ (ULd G 10 ua ub Us ++ (PLx G (aNp A) pa pb Ps (aQp A j) ++ (QLx G (aNq A) qa qb (fun j => pa (aQp A j)) Zs j)))))))))) ((List.perm_append_comm).trans (List.Perm.of_eq (by simp only [List.append_assoc]))) ?_
        have hcl7 := chK_len (A := A) (q := j) 7
        refine v_iload_n (pc := 28) C dX4_choices_28 rfl ?_
        refine v_icmp_geN (pc := 29) (tgt := 35) C ((chK A j 7).length) (ν) rfl rfl (by omega) (by omega) dX4_choices_29 (by decide) (fun c_29 => ?_) (fun c_29 => ?_)
        · refine v_aload_n (pc := 35) C dX4_choices_35 rfl ?_
          refine v_iload_n (pc := 36) C dX4_choices_36 rfl ?_
          refine v_put (pc := 37) C inX4 tyX4 tyX4_ok nmX4 0 rfl rfl 15 (by decide) kw1_97 rfl (rfl) rfl (Nat.le_of_ble_eq_true rfl) dX4_choices_37 (ws' := (CWd G o a RP RQ RU (sA (sA (sI S 15 (nI (j))) 7 t) 8 s) ++ (KWd G (a 4) (f 0) K0 ++ (KWd G (a 5) (f 1) u_25.2.1 ++ (KWd G (a 6) (f 2) K2 ++ (QWd G (qa j) (qb j) (pa (aQp A j)) u_25.2.2 ++ (PWd G (pa (aQp A j)) (pb (aQp A j)) (Ps (aQp A j)) ++ (ULd G 10 ua ub Us ++ (PLx G (aNp A) pa pb Ps (aQp A j) ++ (QLx G (aNq A) qa qb (fun j => pa (aQp A j)) Zs j)))))))))) rfl ?_
          refine v_aload_n (pc := 40) C dX4_choices_40 rfl ?_
          refine v_iload_n (pc := 41) C dX4_choices_41 rfl ?_
          refine v_put (pc := 42) C inX4 tyX4 tyX4_ok nmX4 0 rfl rfl 16 (by decide) kw1_98 rfl (rfl) rfl (Nat.le_of_ble_eq_true rfl) dX4_choices_42 (ws' := (CWd G o a RP RQ RU (sA (sA (sI (sI S 15 (nI (j))) 16 (nI (ν))) 7 t) 8 s) ++ (KWd G (a 4) (f 0) K0 ++ (KWd G (a 5) (f 1) u_25.2.1 ++ (KWd G (a 6) (f 2) K2 ++ (QWd G (qa j) (qb j) (pa (aQp A j)) u_25.2.2 ++ (PWd G (pa (aQp A j)) (pb (aQp A j)) (Ps (aQp A j)) ++ (ULd G 10 ua ub Us ++ (PLx G (aNp A) pa pb Ps (aQp A j) ++ (QLx G (aNq A) qa qb (fun j => pa (aQp A j)) Zs j)))))))))) rfl ?_
          refine v_iload_n (pc := 45) C dX4_choices_45 rfl ?_
          refine V.perm (ws' := (CWd G o a RP RQ RU (sA (sA (sI (sI S 15 (nI (j))) 16 (nI (ν))) 7 t) 8 s) ++ (KWd G (a 4) (f 0) K0 ++ (KWd G (a 5) (f 1) u_25.2.1 ++ (KWd G (a 6) (f 2) K2 ++ (PWd G (pa (aQp A j)) (pb (aQp A j)) (Ps (aQp A j)) ++ (ULd G 10 ua ub Us ++ (PLx G (aNp A) pa pb Ps (aQp A j) ++ (QLx G (aNq A) qa qb (fun j => pa (aQp A j)) Zs j ++ (QWd G (qa j) (qb j) (pa (aQp A j)) u_25.2.2)))))))))) ((List.Perm.append_left _ (List.Perm.append_left _ (List.Perm.append_left _ (List.Perm.append_left _ (List.perm_append_comm))))).trans (List.Perm.of_eq (by simp only [List.append_assoc]))) ?_
          refine V.perm (ws' := (CWd G o a RP RQ RU (sA (sA (sI (sI S 15 (nI (j))) 16 (nI (ν))) 7 t) 8 s) ++ (KWd G (a 4) (f 0) K0 ++ (KWd G (a 5) (f 1) u_25.2.1 ++ (KWd G (a 6) (f 2) K2 ++ (PWd G (pa (aQp A j)) (pb (aQp A j)) (Ps (aQp A j)) ++ (ULd G 10 ua ub Us ++ (PLx G (aNp A) pa pb Ps (aQp A j) ++ (QLd G (aNq A) qa qb (fun j => pa (aQp A j)) (va_up Zs j u_25.2.2)))))))))) (List.Perm.append_left _ (List.Perm.append_left _ (List.Perm.append_left _ (List.Perm.append_left _ (List.Perm.append_left _ (List.Perm.append_left _ (List.Perm.append_left _ (QL_back hj u_25.2.2)))))))) ?_
          refine V.perm (ws' := (CWd G o a RP RQ RU (sA (sA (sI (sI S 15 (nI (j))) 16 (nI (ν))) 7 t) 8 s) ++ (KWd G (a 4) (f 0) K0 ++ (KWd G (a 5) (f 1) u_25.2.1 ++ (KWd G (a 6) (f 2) K2 ++ (PWd G (pa (aQp A j)) (pb (aQp A j)) (Ps (aQp A j)) ++ (ULd G 10 ua ub Us ++ (QLd G (aNq A) qa qb (fun j => pa (aQp A j)) (va_up Zs j u_25.2.2) ++ (PLx G (aNp A) pa pb Ps (aQp A j)))))))))) ((List.Perm.append_left _ (List.Perm.append_left _ (List.Perm.append_left _ (List.Perm.append_left _ (List.Perm.append_left _ (List.Perm.append_left _ (List.perm_append_comm))))))).trans (List.Perm.of_eq (by simp only [List.append_assoc]))) ?_
          refine V.perm (ws' := (CWd G o a RP RQ RU (sA (sA (sI (sI S 15 (nI (j))) 16 (nI (ν))) 7 t) 8 s) ++ (KWd G (a 4) (f 0) K0 ++ (KWd G (a 5) (f 1) u_25.2.1 ++ (KWd G (a 6) (f 2) K2 ++ (ULd G 10 ua ub Us ++ (QLd G (aNq A) qa qb (fun j => pa (aQp A j)) (va_up Zs j u_25.2.2) ++ (PLx G (aNp A) pa pb Ps (aQp A j) ++ (PWd G (pa (aQp A j)) (pb (aQp A j)) (Ps (aQp A j))))))))))) ((List.Perm.append_left _ (List.Perm.append_left _ (List.Perm.append_left _ (List.Perm.append_left _ (List.perm_append_comm))))).trans (List.Perm.of_eq (by simp only [List.append_assoc]))) ?_
          refine V.perm (ws' := (CWd G o a RP RQ RU (sA (sA (sI (sI S 15 (nI (j))) 16 (nI (ν))) 7 t) 8 s) ++ (KWd G (a 4) (f 0) K0 ++ (KWd G (a 5) (f 1) u_25.2.1 ++ (KWd G (a 6) (f 2) K2 ++ (ULd G 10 ua ub Us ++ (QLd G (aNq A) qa qb (fun j => pa (aQp A j)) (va_up Zs j u_25.2.2) ++ (PLd G (aNp A) pa pb Ps)))))))) (List.Perm.append_left _ (List.Perm.append_left _ (List.Perm.append_left _ (List.Perm.append_left _ (List.Perm.append_left _ (List.Perm.append_left _ (PL_same (hI.2.2.2.2.2.1 j hj).1))))))) ?_
          refine V.perm (ws' := (CWd G o a RP RQ RU (sA (sA (sI (sI S 15 (nI (j))) 16 (nI (ν))) 7 t) 8 s) ++ (KWd G (a 4) (f 0) K0 ++ (KWd G (a 5) (f 1) u_25.2.1 ++ (KWd G (a 6) (f 2) K2 ++ (ULd G 10 ua ub Us ++ (PLd G (aNp A) pa pb Ps ++ (QLd G (aNq A) qa qb (fun j => pa (aQp A j)) (va_up Zs j u_25.2.2))))))))) ((List.Perm.append_left _ (List.Perm.append_left _ (List.Perm.append_left _ (List.Perm.append_left _ (List.Perm.append_left _ (List.perm_append_comm)))))).trans (List.Perm.of_eq (by simp only [List.append_assoc]))) ?_
          subst hQ
          exact v_iret (pc := 46) C dX4_choices_46 (rfl) (((setC A (List.take ν (chK A j 7))), ((sA (sA (sI (sI S 15 (nI (j))) 16 (nI (ν))) 7 t) 8 s), K0, u_25.2.1, K2, Us, Ps, (va_up Zs j u_25.2.2), RP, RQ, pa, pb, qa, qb))) rfl (⟨by unfold s_choices; rw [if_neg (nbad hj (by omega)), if_neg q26, tn_nI (n := j) (by omega), tn_nI (n := ν) (by omega), if_neg (by omega)], by unfold s_choices; rw [if_neg (nbad hj (by omega)), if_neg q26, tn_nI (n := j) (by omega), tn_nI (n := ν) (by omega), if_neg (by omega)], ⟨tl_S (A := A) (B := (setC A (List.take ν (chK A j 7)))) (S := S) rfl rfl rfl rfl hS.1 hS.1.2.2, hS.2.1, ⟨ν, j, rfl, rfl, by omega, hν6, by show (List.take ν (chK A j 7)).length = ν; rw [List.length_take]; omega, Or.inr ⟨hj, by rw [ch_cong (A := A) (tl_ans rfl rfl j)]; rfl⟩⟩, hS.2.2.2.1, hS.2.2.2.2.trans (congrArg nI (tl_lines (A := A) (B := (setC A (List.take ν (chK A j 7)))) rfl).symm)⟩, tl_P rfl rfl hP, tl_Q rfl rfl (QAll_up hA hQ_25), hU, hRP, hRQ, hRU⟩)
        · refine v_bipush (pc := 32) (v := (-3)) C dX4_choices_32 (by decide) ?_
          refine V.perm (ws' := (CWd G o a RP RQ RU (sA (sA S 7 t) 8 s) ++ (KWd G (a 4) (f 0) K0 ++ (KWd G (a 5) (f 1) u_25.2.1 ++ (KWd G (a 6) (f 2) K2 ++ (PWd G (pa (aQp A j)) (pb (aQp A j)) (Ps (aQp A j)) ++ (ULd G 10 ua ub Us ++ (PLx G (aNp A) pa pb Ps (aQp A j) ++ (QLx G (aNq A) qa qb (fun j => pa (aQp A j)) Zs j ++ (QWd G (qa j) (qb j) (pa (aQp A j)) u_25.2.2)))))))))) ((List.Perm.append_left _ (List.Perm.append_left _ (List.Perm.append_left _ (List.Perm.append_left _ (List.perm_append_comm))))).trans (List.Perm.of_eq (by simp only [List.append_assoc]))) ?_
          refine V.perm (ws' := (CWd G o a RP RQ RU (sA (sA S 7 t) 8 s) ++ (KWd G (a 4) (f 0) K0 ++ (KWd G (a 5) (f 1) u_25.2.1 ++ (KWd G (a 6) (f 2) K2 ++ (PWd G (pa (aQp A j)) (pb (aQp A j)) (Ps (aQp A j)) ++ (ULd G 10 ua ub Us ++ (PLx G (aNp A) pa pb Ps (aQp A j) ++ (QLd G (aNq A) qa qb (fun j => pa (aQp A j)) (va_up Zs j u_25.2.2)))))))))) (List.Perm.append_left _ (List.Perm.append_left _ (List.Perm.append_left _ (List.Perm.append_left _ (List.Perm.append_left _ (List.Perm.append_left _ (List.Perm.append_left _ (QL_back hj u_25.2.2)))))))) ?_
          refine V.perm (ws' := (CWd G o a RP RQ RU (sA (sA S 7 t) 8 s) ++ (KWd G (a 4) (f 0) K0 ++ (KWd G (a 5) (f 1) u_25.2.1 ++ (KWd G (a 6) (f 2) K2 ++ (PWd G (pa (aQp A j)) (pb (aQp A j)) (Ps (aQp A j)) ++ (ULd G 10 ua ub Us ++ (QLd G (aNq A) qa qb (fun j => pa (aQp A j)) (va_up Zs j u_25.2.2) ++ (PLx G (aNp A) pa pb Ps (aQp A j)))))))))) ((List.Perm.append_left _ (List.Perm.append_left _ (List.Perm.append_left _ (List.Perm.append_left _ (List.Perm.append_left _ (List.Perm.append_left _ (List.perm_append_comm))))))).trans (List.Perm.of_eq (by simp only [List.append_assoc]))) ?_
          refine V.perm (ws' := (CWd G o a RP RQ RU (sA (sA S 7 t) 8 s) ++ (KWd G (a 4) (f 0) K0 ++ (KWd G (a 5) (f 1) u_25.2.1 ++ (KWd G (a 6) (f 2) K2 ++ (ULd G 10 ua ub Us ++ (QLd G (aNq A) qa qb (fun j => pa (aQp A j)) (va_up Zs j u_25.2.2) ++ (PLx G (aNp A) pa pb Ps (aQp A j) ++ (PWd G (pa (aQp A j)) (pb (aQp A j)) (Ps (aQp A j))))))))))) ((List.Perm.append_left _ (List.Perm.append_left _ (List.Perm.append_left _ (List.Perm.append_left _ (List.perm_append_comm))))).trans (List.Perm.of_eq (by simp only [List.append_assoc]))) ?_
          refine V.perm (ws' := (CWd G o a RP RQ RU (sA (sA S 7 t) 8 s) ++ (KWd G (a 4) (f 0) K0 ++ (KWd G (a 5) (f 1) u_25.2.1 ++ (KWd G (a 6) (f 2) K2 ++ (ULd G 10 ua ub Us ++ (QLd G (aNq A) qa qb (fun j => pa (aQp A j)) (va_up Zs j u_25.2.2) ++ (PLd G (aNp A) pa pb Ps)))))))) (List.Perm.append_left _ (List.Perm.append_left _ (List.Perm.append_left _ (List.Perm.append_left _ (List.Perm.append_left _ (List.Perm.append_left _ (PL_same (hI.2.2.2.2.2.1 j hj).1))))))) ?_
          refine V.perm (ws' := (CWd G o a RP RQ RU (sA (sA S 7 t) 8 s) ++ (KWd G (a 4) (f 0) K0 ++ (KWd G (a 5) (f 1) u_25.2.1 ++ (KWd G (a 6) (f 2) K2 ++ (ULd G 10 ua ub Us ++ (PLd G (aNp A) pa pb Ps ++ (QLd G (aNq A) qa qb (fun j => pa (aQp A j)) (va_up Zs j u_25.2.2))))))))) ((List.Perm.append_left _ (List.Perm.append_left _ (List.Perm.append_left _ (List.Perm.append_left _ (List.Perm.append_left _ (List.perm_append_comm)))))).trans (List.Perm.of_eq (by simp only [List.append_assoc]))) ?_
          subst hQ
          exact v_iret (pc := 34) C dX4_choices_34 (rfl) ((A, ((sA (sA S 7 t) 8 s), K0, u_25.2.1, K2, Us, Ps, (va_up Zs j u_25.2.2), RP, RQ, pa, pb, qa, qb))) rfl (⟨by unfold s_choices; rw [if_neg (nbad hj (by omega)), if_neg q26, tn_nI (n := j) (by omega), tn_nI (n := ν) (by omega), if_pos c_29], by unfold s_choices; rw [if_neg (nbad hj (by omega)), if_neg q26, tn_nI (n := j) (by omega), tn_nI (n := ν) (by omega), if_pos c_29], hS, hP, QAll_up hA hQ_25, hU, hRP, hRQ, hRU⟩)
      · refine v_iconst (pc := 21) (v := (-1)) C dX4_choices_21 (by decide) ?_
        refine V.perm (ws' := (CWd G o a RP RQ RU S ++ (KWd G (a 4) (f 0) K0 ++ (KWd G (a 5) (f 1) K1 ++ (KWd G (a 6) (f 2) K2 ++ (PWd G (pa (aQp A j)) (pb (aQp A j)) (Ps (aQp A j)) ++ (ULd G 10 ua ub Us ++ (PLx G (aNp A) pa pb Ps (aQp A j) ++ (QLx G (aNq A) qa qb (fun j => pa (aQp A j)) Zs j ++ (QWd G (qa j) (qb j) (pa (aQp A j)) (Zs j))))))))))) ((List.Perm.append_left _ (List.Perm.append_left _ (List.Perm.append_left _ (List.Perm.append_left _ (List.perm_append_comm))))).trans (List.Perm.of_eq (by simp only [List.append_assoc]))) ?_
        refine V.perm (ws' := (CWd G o a RP RQ RU S ++ (KWd G (a 4) (f 0) K0 ++ (KWd G (a 5) (f 1) K1 ++ (KWd G (a 6) (f 2) K2 ++ (PWd G (pa (aQp A j)) (pb (aQp A j)) (Ps (aQp A j)) ++ (ULd G 10 ua ub Us ++ (PLx G (aNp A) pa pb Ps (aQp A j) ++ (QLd G (aNq A) qa qb (fun j => pa (aQp A j)) Zs))))))))) (List.Perm.append_left _ (List.Perm.append_left _ (List.Perm.append_left _ (List.Perm.append_left _ (List.Perm.append_left _ (List.Perm.append_left _ (List.Perm.append_left _ (QL_same hj)))))))) ?_
        refine V.perm (ws' := (CWd G o a RP RQ RU S ++ (KWd G (a 4) (f 0) K0 ++ (KWd G (a 5) (f 1) K1 ++ (KWd G (a 6) (f 2) K2 ++ (PWd G (pa (aQp A j)) (pb (aQp A j)) (Ps (aQp A j)) ++ (ULd G 10 ua ub Us ++ (QLd G (aNq A) qa qb (fun j => pa (aQp A j)) Zs ++ (PLx G (aNp A) pa pb Ps (aQp A j)))))))))) ((List.Perm.append_left _ (List.Perm.append_left _ (List.Perm.append_left _ (List.Perm.append_left _ (List.Perm.append_left _ (List.Perm.append_left _ (List.perm_append_comm))))))).trans (List.Perm.of_eq (by simp only [List.append_assoc]))) ?_
        refine V.perm (ws' := (CWd G o a RP RQ RU S ++ (KWd G (a 4) (f 0) K0 ++ (KWd G (a 5) (f 1) K1 ++ (KWd G (a 6) (f 2) K2 ++ (ULd G 10 ua ub Us ++ (QLd G (aNq A) qa qb (fun j => pa (aQp A j)) Zs ++ (PLx G (aNp A) pa pb Ps (aQp A j) ++ (PWd G (pa (aQp A j)) (pb (aQp A j)) (Ps (aQp A j))))))))))) ((List.Perm.append_left _ (List.Perm.append_left _ (List.Perm.append_left _ (List.Perm.append_left _ (List.perm_append_comm))))).trans (List.Perm.of_eq (by simp only [List.append_assoc]))) ?_
        refine V.perm (ws' := (CWd G o a RP RQ RU S ++ (KWd G (a 4) (f 0) K0 ++ (KWd G (a 5) (f 1) K1 ++ (KWd G (a 6) (f 2) K2 ++ (ULd G 10 ua ub Us ++ (QLd G (aNq A) qa qb (fun j => pa (aQp A j)) Zs ++ (PLd G (aNp A) pa pb Ps)))))))) (List.Perm.append_left _ (List.Perm.append_left _ (List.Perm.append_left _ (List.Perm.append_left _ (List.Perm.append_left _ (List.Perm.append_left _ (PL_same (hI.2.2.2.2.2.1 j hj).1))))))) ?_
        refine V.perm (ws' := (CWd G o a RP RQ RU S ++ (KWd G (a 4) (f 0) K0 ++ (KWd G (a 5) (f 1) K1 ++ (KWd G (a 6) (f 2) K2 ++ (ULd G 10 ua ub Us ++ (PLd G (aNp A) pa pb Ps ++ (QLd G (aNq A) qa qb (fun j => pa (aQp A j)) Zs)))))))) ((List.Perm.append_left _ (List.Perm.append_left _ (List.Perm.append_left _ (List.Perm.append_left _ (List.Perm.append_left _ (List.perm_append_comm)))))).trans (List.Perm.of_eq (by simp only [List.append_assoc]))) ?_
        subst hQ
        exact v_iret (pc := 22) C dX4_choices_22 (rfl) ((A, (S, K0, K1, K2, Us, Ps, Zs, RP, RQ, pa, pb, qa, qb))) rfl (⟨by unfold s_choices; rw [if_neg (nbad hj (by omega)), if_pos (Or.inr (Int32.not_le.mp c_18))], by unfold s_choices; rw [if_neg (nbad hj (by omega)), if_pos (Or.inr (Int32.not_le.mp c_18))], hC⟩)
def rmX4_gap : Room := { frames := 5, cells := 0, slots := 0, locals := 126 }
set_option maxHeartbeats 4000000 in
set_option maxRecDepth 100000 in
theorem kX4_gap (G : TG) (o : Nat) (a : Nat → Nat) (f : Nat → Nat → Nat) (ua : Nat → Nat) (ub : Nat → Nat → Nat) (RP RQ RU : Nat → Option Nat) (S K0 K1 K2 : MS) (Us Ps Zs : Nat → MS) (pa qa : Nat → Nat) (pb qb : Nat → Nat → Nat) (A : AS) (hI : AInv A) (hC : CAll A RP RQ RU ua pa qa S K0 Us Ps Zs) (p l : Int32) : CT G yX4_gap cX4_gap 4 (some .int) rmX4_gap 0 0 [.ref (o), .int (p), .int (l)] (CWd G o a RP RQ RU S ++ (KWd G (a 4) (f 0) K0 ++ (KWd G (a 5) (f 1) K1 ++ (KWd G (a 6) (f 2) K2 ++ (ULd G 10 ua ub Us ++ (PLd G (aNp A) pa pb Ps ++ (QLd G (aNq A) qa qb (fun j => pa (aQp A j)) Zs))))))) (fun u : AS × DS => DWd G o a f ua ub RU u.1 u.2) (Ri (fun r δ => r = (s_gap A p l).1 ∧ δ.1 = (s_gap A p l).2 ∧ CRel δ.1 RU ua δ.2)) := by
  refine CT.enter (by decide) (Nat.le_of_ble_eq_true rfl) (fun X C hnm => ?_)
  refine V.less [(0, .ref (o)), (1, .int (p)), (2, .int (l))] ⟨rfl, rfl, rfl, trivial⟩ ?_
  generalize hQ : (QX G X (fun u : AS × DS => DWd G o a f ua ub RU u.1 u.2) (Ri (fun r δ => r = (s_gap A p l).1 ∧ δ.1 = (s_gap A p l).2 ∧ CRel δ.1 RU ua δ.2)) 0 0) = Qq
  have hnp := hI.1
  have hnq := hI.2.2.2.2.1
  obtain ⟨hS, hP, hA, hU, hRP, hRQ, hRU⟩ := id hC
  refine v_aload_n (pc := 0) C dX4_gap_0 rfl ?_
  refine v_iload_n (pc := 1) C dX4_gap_1 rfl ?_
  refine V.perm (ws' := (KWd G (a 4) (f 0) K0 ++ (KWd G (a 5) (f 1) K1 ++ (KWd G (a 6) (f 2) K2 ++ (ULd G 10 ua ub Us ++ (PLd G (aNp A) pa pb Ps ++ (QLd G (aNq A) qa qb (fun j => pa (aQp A j)) Zs ++ (CWd G o a RP RQ RU S)))))))) ((List.perm_append_comm).trans (List.Perm.of_eq (by simp only [List.append_assoc]))) ?_
  refine V.same (ws' := (KWd G (a 4) (f 0) K0 ++ (KWd G (a 5) (f 1) K1 ++ (KWd G (a 6) (f 2) K2 ++ (ULd G 10 ua ub Us ++ (PLd G (aNp A) pa pb Ps ++ (QLd G (aNq A) qa qb (fun j => pa (aQp A j)) Zs)))))) ++ (CWd G o a RP RQ RU S)) (by simp only [List.append_assoc]) ?_
  refine v_callV (pc := 2) (st := []) (q0 := 0) (wr := (KWd G (a 4) (f 0) K0 ++ (KWd G (a 5) (f 1) K1 ++ (KWd G (a 6) (f 2) K2 ++ (ULd G 10 ua ub Us ++ (PLd G (aNp A) pa pb Ps ++ (QLd G (aNq A) qa qb (fun j => pa (aQp A j)) Zs))))))) C (kX4_programAt G o a RP RQ RU S p (aNp A) hI.1 hS.1.1) ykX4_programAt cvX4_programAt kw1_188 dX4_gap_2 rfl rfl rfl rfl rfl (by decide) (Nat.le_of_ble_eq_true rfl) (by decide) rfl (Rq_kk (fun r_2 u_2 h_2 => ?_))
  obtain ⟨e_2, h_2⟩ := h_2
  rw [e_2]
  refine V.same (ws' := (KWd G (a 4) (f 0) K0 ++ (KWd G (a 5) (f 1) K1 ++ (KWd G (a 6) (f 2) K2 ++ (ULd G 10 ua ub Us ++ (PLd G (aNp A) pa pb Ps ++ (QLd G (aNq A) qa qb (fun j => pa (aQp A j)) Zs ++ (CWd G o a RP RQ RU S)))))))) (by simp only [List.append_assoc]) ?_
  refine V.perm (ws' := (KWd G (a 5) (f 1) K1 ++ (KWd G (a 6) (f 2) K2 ++ (ULd G 10 ua ub Us ++ (PLd G (aNp A) pa pb Ps ++ (QLd G (aNq A) qa qb (fun j => pa (aQp A j)) Zs ++ (CWd G o a RP RQ RU S ++ (KWd G (a 4) (f 0) K0)))))))) ((List.perm_append_comm).trans (List.Perm.of_eq (by simp only [List.append_assoc]))) ?_
  refine V.perm (ws' := (KWd G (a 6) (f 2) K2 ++ (ULd G 10 ua ub Us ++ (PLd G (aNp A) pa pb Ps ++ (QLd G (aNq A) qa qb (fun j => pa (aQp A j)) Zs ++ (CWd G o a RP RQ RU S ++ (KWd G (a 4) (f 0) K0 ++ (KWd G (a 5) (f 1) K1)))))))) ((List.perm_append_comm).trans (List.Perm.of_eq (by simp only [List.append_assoc]))) ?_
  refine V.perm (ws' := (ULd G 10 ua ub Us ++ (PLd G (aNp A) pa pb Ps ++ (QLd G (aNq A) qa qb (fun j => pa (aQp A j)) Zs ++ (CWd G o a RP RQ RU S ++ (KWd G (a 4) (f 0) K0 ++ (KWd G (a 5) (f 1) K1 ++ (KWd G (a 6) (f 2) K2)))))))) ((List.perm_append_comm).trans (List.Perm.of_eq (by simp only [List.append_assoc]))) ?_
  refine V.perm (ws' := (PLd G (aNp A) pa pb Ps ++ (QLd G (aNq A) qa qb (fun j => pa (aQp A j)) Zs ++ (CWd G o a RP RQ RU S ++ (KWd G (a 4) (f 0) K0 ++ (KWd G (a 5) (f 1) K1 ++ (KWd G (a 6) (f 2) K2 ++ (ULd G 10 ua ub Us)))))))) ((List.perm_append_comm).trans (List.Perm.of_eq (by simp only [List.append_assoc]))) ?_
  refine V.perm (ws' := (QLd G (aNq A) qa qb (fun j => pa (aQp A j)) Zs ++ (CWd G o a RP RQ RU S ++ (KWd G (a 4) (f 0) K0 ++ (KWd G (a 5) (f 1) K1 ++ (KWd G (a 6) (f 2) K2 ++ (ULd G 10 ua ub Us ++ (PLd G (aNp A) pa pb Ps)))))))) ((List.perm_append_comm).trans (List.Perm.of_eq (by simp only [List.append_assoc]))) ?_
  refine V.perm (ws' := (CWd G o a RP RQ RU S ++ (KWd G (a 4) (f 0) K0 ++ (KWd G (a 5) (f 1) K1 ++ (KWd G (a 6) (f 2) K2 ++ (ULd G 10 ua ub Us ++ (PLd G (aNp A) pa pb Ps ++ (QLd G (aNq A) qa qb (fun j => pa (aQp A j)) Zs)))))))) ((List.perm_append_comm).trans (List.Perm.of_eq (by simp only [List.append_assoc]))) ?_
  rcases h_2 with ⟨b_p, rfl⟩ | ⟨j, hj, rfl, rfl⟩
  · refine v_rfn rfl ?_
    refine v_astore_nN (pc := 5) C dX4_gap_5 (by decide) ?_
    refine v_aload_nN (pc := 6) C dX4_gap_6 rfl ?_
    refine v_ifnullN (pc := 7) (tgt := 18) C dX4_gap_7 (by decide) ?_
    refine v_iconst (pc := 18) (v := (-1)) C dX4_gap_18 (by decide) ?_
    subst hQ
    exact v_iret (pc := 19) C dX4_gap_19 (rfl) ((A, (S, K0, K1, K2, Us, Ps, Zs, RP, RQ, pa, pb, qa, qb))) rfl (⟨by unfold s_gap; rw [if_pos b_p], by unfold s_gap; rw [if_pos b_p], hC⟩)
  · refine v_rfs (hRP j hj) ?_
    refine V.perm (ws' := (CWd G o a RP RQ RU S ++ (KWd G (a 4) (f 0) K0 ++ (KWd G (a 5) (f 1) K1 ++ (KWd G (a 6) (f 2) K2 ++ (ULd G 10 ua ub Us ++ (PLx G (aNp A) pa pb Ps j ++ (PWd G (pa j) (pb j) (Ps j) ++ (QLd G (aNq A) qa qb (fun j => pa (aQp A j)) Zs))))))))) ((List.Perm.append_left _ (List.Perm.append_left _ (List.Perm.append_left _ (List.Perm.append_left _ (List.Perm.append_left _ (List.Perm.append_right _ (PL_focus hj))))))).trans (List.Perm.of_eq (by simp only [List.append_assoc]))) ?_
    refine V.perm (ws' := (CWd G o a RP RQ RU S ++ (KWd G (a 4) (f 0) K0 ++ (KWd G (a 5) (f 1) K1 ++ (KWd G (a 6) (f 2) K2 ++ (PLx G (aNp A) pa pb Ps j ++ (PWd G (pa j) (pb j) (Ps j) ++ (QLd G (aNq A) qa qb (fun j => pa (aQp A j)) Zs ++ (ULd G 10 ua ub Us))))))))) ((List.Perm.append_left _ (List.Perm.append_left _ (List.Perm.append_left _ (List.Perm.append_left _ (List.perm_append_comm))))).trans (List.Perm.of_eq (by simp only [List.append_assoc]))) ?_
    refine V.perm (ws' := (CWd G o a RP RQ RU S ++ (KWd G (a 4) (f 0) K0 ++ (KWd G (a 5) (f 1) K1 ++ (KWd G (a 6) (f 2) K2 ++ (PWd G (pa j) (pb j) (Ps j) ++ (QLd G (aNq A) qa qb (fun j => pa (aQp A j)) Zs ++ (ULd G 10 ua ub Us ++ (PLx G (aNp A) pa pb Ps j))))))))) ((List.Perm.append_left _ (List.Perm.append_left _ (List.Perm.append_left _ (List.Perm.append_left _ (List.perm_append_comm))))).trans (List.Perm.of_eq (by simp only [List.append_assoc]))) ?_
    refine V.perm (ws' := (CWd G o a RP RQ RU S ++ (KWd G (a 4) (f 0) K0 ++ (KWd G (a 5) (f 1) K1 ++ (KWd G (a 6) (f 2) K2 ++ (PWd G (pa j) (pb j) (Ps j) ++ (ULd G 10 ua ub Us ++ (PLx G (aNp A) pa pb Ps j ++ (QLd G (aNq A) qa qb (fun j => pa (aQp A j)) Zs))))))))) ((List.Perm.append_left _ (List.Perm.append_left _ (List.Perm.append_left _ (List.Perm.append_left _ (List.Perm.append_left _ (List.perm_append_comm)))))).trans (List.Perm.of_eq (by simp only [List.append_assoc]))) ?_
    refine v_astore_n (pc := 5) C dX4_gap_5 (by decide) ?_
    refine v_aload_n (pc := 6) C dX4_gap_6 rfl ?_
    refine v_ifnull (pc := 7) C dX4_gap_7 ?_
    refine v_aload_n (pc := 10) C dX4_gap_10 rfl ?_
    refine v_iload_n (pc := 11) C dX4_gap_11 rfl ?_
    refine V.perm (ws' := (CWd G o a RP RQ RU S ++ (KWd G (a 4) (f 0) K0 ++ (KWd G (a 5) (f 1) K1 ++ (KWd G (a 6) (f 2) K2 ++ (ULd G 10 ua ub Us ++ (PLx G (aNp A) pa pb Ps j ++ (QLd G (aNq A) qa qb (fun j => pa (aQp A j)) Zs ++ (PWd G (pa j) (pb j) (Ps j)))))))))) ((List.Perm.append_left _ (List.Perm.append_left _ (List.Perm.append_left _ (List.Perm.append_left _ (List.perm_append_comm))))).trans (List.Perm.of_eq (by simp only [List.append_assoc]))) ?_
    refine V.same (ws' := (CWd G o a RP RQ RU S ++ (KWd G (a 4) (f 0) K0 ++ (KWd G (a 5) (f 1) K1 ++ (KWd G (a 6) (f 2) K2 ++ (ULd G 10 ua ub Us ++ (PLx G (aNp A) pa pb Ps j ++ (QLd G (aNq A) qa qb (fun j => pa (aQp A j)) Zs))))))) ++ (PWd G (pa j) (pb j) (Ps j))) (by simp only [List.append_assoc]) ?_
    refine v_callVN (pc := 12) (st := []) (q0 := 0) (wr := (CWd G o a RP RQ RU S ++ (KWd G (a 4) (f 0) K0 ++ (KWd G (a 5) (f 1) K1 ++ (KWd G (a 6) (f 2) K2 ++ (ULd G 10 ua ub Us ++ (PLx G (aNp A) pa pb Ps j ++ (QLd G (aNq A) qa qb (fun j => pa (aQp A j)) Zs)))))))) C (kX1_hasLine G (pa j) (pb j) (Ps j) l) ykX1_hasLine cvX1_hasLine nw_22 dX4_gap_12 rfl rfl rfl rfl rfl (by decide) (Nat.le_of_ble_eq_true rfl) (by decide) rfl (Ri_kk (fun r_12 u_12 h_12 => ?_))
    obtain ⟨e_12, h_12⟩ := h_12
    rw [e_12]
    have hn20 := hI.2.1 j
    refine V.same (ws' := (CWd G o a RP RQ RU S ++ (KWd G (a 4) (f 0) K0 ++ (KWd G (a 5) (f 1) K1 ++ (KWd G (a 6) (f 2) K2 ++ (ULd G 10 ua ub Us ++ (PLx G (aNp A) pa pb Ps j ++ (QLd G (aNq A) qa qb (fun j => pa (aQp A j)) Zs ++ (PWd G (pa j) (pb j) (Ps j)))))))))) (by simp only [List.append_assoc]) ?_
    refine V.perm (ws' := (CWd G o a RP RQ RU S ++ (KWd G (a 4) (f 0) K0 ++ (KWd G (a 5) (f 1) K1 ++ (KWd G (a 6) (f 2) K2 ++ (PLx G (aNp A) pa pb Ps j ++ (QLd G (aNq A) qa qb (fun j => pa (aQp A j)) Zs ++ (PWd G (pa j) (pb j) (Ps j) ++ (ULd G 10 ua ub Us))))))))) ((List.Perm.append_left _ (List.Perm.append_left _ (List.Perm.append_left _ (List.Perm.append_left _ (List.perm_append_comm))))).trans (List.Perm.of_eq (by simp only [List.append_assoc]))) ?_
    refine V.perm (ws' := (CWd G o a RP RQ RU S ++ (KWd G (a 4) (f 0) K0 ++ (KWd G (a 5) (f 1) K1 ++ (KWd G (a 6) (f 2) K2 ++ (QLd G (aNq A) qa qb (fun j => pa (aQp A j)) Zs ++ (PWd G (pa j) (pb j) (Ps j) ++ (ULd G 10 ua ub Us ++ (PLx G (aNp A) pa pb Ps j))))))))) ((List.Perm.append_left _ (List.Perm.append_left _ (List.Perm.append_left _ (List.Perm.append_left _ (List.perm_append_comm))))).trans (List.Perm.of_eq (by simp only [List.append_assoc]))) ?_
    refine V.perm (ws' := (CWd G o a RP RQ RU S ++ (KWd G (a 4) (f 0) K0 ++ (KWd G (a 5) (f 1) K1 ++ (KWd G (a 6) (f 2) K2 ++ (PWd G (pa j) (pb j) (Ps j) ++ (ULd G 10 ua ub Us ++ (PLx G (aNp A) pa pb Ps j ++ (QLd G (aNq A) qa qb (fun j => pa (aQp A j)) Zs))))))))) ((List.Perm.append_left _ (List.Perm.append_left _ (List.Perm.append_left _ (List.Perm.append_left _ (List.perm_append_comm))))).trans (List.Perm.of_eq (by simp only [List.append_assoc]))) ?_
    rcases (is01 (by omega) (hP j hj).1.1.1 h_12) with ⟨b_l, rfl⟩ | ⟨k, hk, rfl, rfl⟩
    · refine v_if_neF (pc := 15) (tgt := 20) C (by decide) dX4_gap_15 (by decide) ?_
      refine v_iconst (pc := 18) (v := (-1)) C dX4_gap_18 (by decide) ?_
      refine V.perm (ws' := (CWd G o a RP RQ RU S ++ (KWd G (a 4) (f 0) K0 ++ (KWd G (a 5) (f 1) K1 ++ (KWd G (a 6) (f 2) K2 ++ (PWd G (pa j) (pb j) (Ps j) ++ (ULd G 10 ua ub Us ++ (QLd G (aNq A) qa qb (fun j => pa (aQp A j)) Zs ++ (PLx G (aNp A) pa pb Ps j))))))))) ((List.Perm.append_left _ (List.Perm.append_left _ (List.Perm.append_left _ (List.Perm.append_left _ (List.Perm.append_left _ (List.Perm.append_left _ (List.perm_append_comm))))))).trans (List.Perm.of_eq (by simp only [List.append_assoc]))) ?_
      refine V.perm (ws' := (CWd G o a RP RQ RU S ++ (KWd G (a 4) (f 0) K0 ++ (KWd G (a 5) (f 1) K1 ++ (KWd G (a 6) (f 2) K2 ++ (ULd G 10 ua ub Us ++ (QLd G (aNq A) qa qb (fun j => pa (aQp A j)) Zs ++ (PLx G (aNp A) pa pb Ps j ++ (PWd G (pa j) (pb j) (Ps j)))))))))) ((List.Perm.append_left _ (List.Perm.append_left _ (List.Perm.append_left _ (List.Perm.append_left _ (List.perm_append_comm))))).trans (List.Perm.of_eq (by simp only [List.append_assoc]))) ?_
      refine V.perm (ws' := (CWd G o a RP RQ RU S ++ (KWd G (a 4) (f 0) K0 ++ (KWd G (a 5) (f 1) K1 ++ (KWd G (a 6) (f 2) K2 ++ (ULd G 10 ua ub Us ++ (QLd G (aNq A) qa qb (fun j => pa (aQp A j)) Zs ++ (PLd G (aNp A) pa pb Ps)))))))) (List.Perm.append_left _ (List.Perm.append_left _ (List.Perm.append_left _ (List.Perm.append_left _ (List.Perm.append_left _ (List.Perm.append_left _ (PL_same hj))))))) ?_
      refine V.perm (ws' := (CWd G o a RP RQ RU S ++ (KWd G (a 4) (f 0) K0 ++ (KWd G (a 5) (f 1) K1 ++ (KWd G (a 6) (f 2) K2 ++ (ULd G 10 ua ub Us ++ (PLd G (aNp A) pa pb Ps ++ (QLd G (aNq A) qa qb (fun j => pa (aQp A j)) Zs)))))))) ((List.Perm.append_left _ (List.Perm.append_left _ (List.Perm.append_left _ (List.Perm.append_left _ (List.Perm.append_left _ (List.perm_append_comm)))))).trans (List.Perm.of_eq (by simp only [List.append_assoc]))) ?_
      subst hQ
      exact v_iret (pc := 19) C dX4_gap_19 (rfl) ((A, (S, K0, K1, K2, Us, Ps, Zs, RP, RQ, pa, pb, qa, qb))) rfl (⟨by rw [gap_bad hj hI.1 rfl b_l], by rw [gap_bad hj hI.1 rfl b_l], hC⟩)
    · refine v_if_neT (pc := 15) (tgt := 20) C (by decide) dX4_gap_15 (by decide) ?_
      refine v_aload_n (pc := 20) C dX4_gap_20 rfl ?_
      refine V.perm (ws' := (CWd G o a RP RQ RU S ++ (KWd G (a 4) (f 0) K0 ++ (KWd G (a 5) (f 1) K1 ++ (KWd G (a 6) (f 2) K2 ++ (ULd G 10 ua ub Us ++ (PLx G (aNp A) pa pb Ps j ++ (QLd G (aNq A) qa qb (fun j => pa (aQp A j)) Zs ++ (PWd G (pa j) (pb j) (Ps j)))))))))) ((List.Perm.append_left _ (List.Perm.append_left _ (List.Perm.append_left _ (List.Perm.append_left _ (List.perm_append_comm))))).trans (List.Perm.of_eq (by simp only [List.append_assoc]))) ?_
      refine V.same (ws' := (CWd G o a RP RQ RU S ++ (KWd G (a 4) (f 0) K0 ++ (KWd G (a 5) (f 1) K1 ++ (KWd G (a 6) (f 2) K2 ++ (ULd G 10 ua ub Us ++ (PLx G (aNp A) pa pb Ps j ++ (QLd G (aNq A) qa qb (fun j => pa (aQp A j)) Zs))))))) ++ (PWd G (pa j) (pb j) (Ps j))) (by simp only [List.append_assoc]) ?_
      refine v_callVN (pc := 21) (st := []) (q0 := 0) (wr := (CWd G o a RP RQ RU S ++ (KWd G (a 4) (f 0) K0 ++ (KWd G (a 5) (f 1) K1 ++ (KWd G (a 6) (f 2) K2 ++ (ULd G 10 ua ub Us ++ (PLx G (aNp A) pa pb Ps j ++ (QLd G (aNq A) qa qb (fun j => pa (aQp A j)) Zs)))))))) C (kX1_isWhole G (pa j) (pb j) (Ps j)) ykX1_isWhole cvX1_isWhole nw_20 dX4_gap_21 rfl rfl rfl rfl rfl (by decide) (Nat.le_of_ble_eq_true rfl) (by decide) rfl (Ri_kk (fun r_21 u_21 h_21 => ?_))
      obtain ⟨e_21, h_21⟩ := h_21
      rw [e_21]
      rw [(hP j hj).1.2.2.1] at h_21
      refine V.same (ws' := (CWd G o a RP RQ RU S ++ (KWd G (a 4) (f 0) K0 ++ (KWd G (a 5) (f 1) K1 ++ (KWd G (a 6) (f 2) K2 ++ (ULd G 10 ua ub Us ++ (PLx G (aNp A) pa pb Ps j ++ (QLd G (aNq A) qa qb (fun j => pa (aQp A j)) Zs ++ (PWd G (pa j) (pb j) (Ps j)))))))))) (by simp only [List.append_assoc]) ?_
      refine V.perm (ws' := (CWd G o a RP RQ RU S ++ (KWd G (a 4) (f 0) K0 ++ (KWd G (a 5) (f 1) K1 ++ (KWd G (a 6) (f 2) K2 ++ (PLx G (aNp A) pa pb Ps j ++ (QLd G (aNq A) qa qb (fun j => pa (aQp A j)) Zs ++ (PWd G (pa j) (pb j) (Ps j) ++ (ULd G 10 ua ub Us))))))))) ((List.Perm.append_left _ (List.Perm.append_left _ (List.Perm.append_left _ (List.Perm.append_left _ (List.perm_append_comm))))).trans (List.Perm.of_eq (by simp only [List.append_assoc]))) ?_
      refine V.perm (ws' := (CWd G o a RP RQ RU S ++ (KWd G (a 4) (f 0) K0 ++ (KWd G (a 5) (f 1) K1 ++ (KWd G (a 6) (f 2) K2 ++ (QLd G (aNq A) qa qb (fun j => pa (aQp A j)) Zs ++ (PWd G (pa j) (pb j) (Ps j) ++ (ULd G 10 ua ub Us ++ (PLx G (aNp A) pa pb Ps j))))))))) ((List.Perm.append_left _ (List.Perm.append_left _ (List.Perm.append_left _ (List.Perm.append_left _ (List.perm_append_comm))))).trans (List.Perm.of_eq (by simp only [List.append_assoc]))) ?_
      refine V.perm (ws' := (CWd G o a RP RQ RU S ++ (KWd G (a 4) (f 0) K0 ++ (KWd G (a 5) (f 1) K1 ++ (KWd G (a 6) (f 2) K2 ++ (PWd G (pa j) (pb j) (Ps j) ++ (ULd G 10 ua ub Us ++ (PLx G (aNp A) pa pb Ps j ++ (QLd G (aNq A) qa qb (fun j => pa (aQp A j)) Zs))))))))) ((List.Perm.append_left _ (List.Perm.append_left _ (List.Perm.append_left _ (List.Perm.append_left _ (List.perm_append_comm))))).trans (List.Perm.of_eq (by simp only [List.append_assoc]))) ?_
      rcases (wh01 (dp_le20 hI hj) h_21) with ⟨q_21, rfl⟩ | ⟨q_21, rfl⟩
      · refine v_if_eqT (pc := 24) (tgt := 36) C (by decide) dX4_gap_24 (by decide) ?_
        refine v_bipush (pc := 36) (v := (-3)) C dX4_gap_36 (by decide) ?_
        refine V.perm (ws' := (CWd G o a RP RQ RU S ++ (KWd G (a 4) (f 0) K0 ++ (KWd G (a 5) (f 1) K1 ++ (KWd G (a 6) (f 2) K2 ++ (PWd G (pa j) (pb j) (Ps j) ++ (ULd G 10 ua ub Us ++ (QLd G (aNq A) qa qb (fun j => pa (aQp A j)) Zs ++ (PLx G (aNp A) pa pb Ps j))))))))) ((List.Perm.append_left _ (List.Perm.append_left _ (List.Perm.append_left _ (List.Perm.append_left _ (List.Perm.append_left _ (List.Perm.append_left _ (List.perm_append_comm))))))).trans (List.Perm.of_eq (by simp only [List.append_assoc]))) ?_
        refine V.perm (ws' := (CWd G o a RP RQ RU S ++ (KWd G (a 4) (f 0) K0 ++ (KWd G (a 5) (f 1) K1 ++ (KWd G (a 6) (f 2) K2 ++ (ULd G 10 ua ub Us ++ (QLd G (aNq A) qa qb (fun j => pa (aQp A j)) Zs ++ (PLx G (aNp A) pa pb Ps j ++ (PWd G (pa j) (pb j) (Ps j)))))))))) ((List.Perm.append_left _ (List.Perm.append_left _ (List.Perm.append_left _ (List.Perm.append_left _ (List.perm_append_comm))))).trans (List.Perm.of_eq (by simp only [List.append_assoc]))) ?_
        refine V.perm (ws' := (CWd G o a RP RQ RU S ++ (KWd G (a 4) (f 0) K0 ++ (KWd G (a 5) (f 1) K1 ++ (KWd G (a 6) (f 2) K2 ++ (ULd G 10 ua ub Us ++ (QLd G (aNq A) qa qb (fun j => pa (aQp A j)) Zs ++ (PLd G (aNp A) pa pb Ps)))))))) (List.Perm.append_left _ (List.Perm.append_left _ (List.Perm.append_left _ (List.Perm.append_left _ (List.Perm.append_left _ (List.Perm.append_left _ (PL_same hj))))))) ?_
        refine V.perm (ws' := (CWd G o a RP RQ RU S ++ (KWd G (a 4) (f 0) K0 ++ (KWd G (a 5) (f 1) K1 ++ (KWd G (a 6) (f 2) K2 ++ (ULd G 10 ua ub Us ++ (PLd G (aNp A) pa pb Ps ++ (QLd G (aNq A) qa qb (fun j => pa (aQp A j)) Zs)))))))) ((List.Perm.append_left _ (List.Perm.append_left _ (List.Perm.append_left _ (List.Perm.append_left _ (List.Perm.append_left _ (List.perm_append_comm)))))).trans (List.Perm.of_eq (by simp only [List.append_assoc]))) ?_
        subst hQ
        exact v_iret (pc := 38) C dX4_gap_38 (rfl) ((A, (S, K0, K1, K2, Us, Ps, Zs, RP, RQ, pa, pb, qa, qb))) rfl (⟨by unfold s_gap; rw [if_neg (nbad hj (by omega)), tn_nI (n := j) (by omega), tn_nI (n := k) (by omega), if_neg (nI_pos (n := k) (by omega)), if_neg (nI_ge hk (by omega)), if_pos q_21], by unfold s_gap; rw [if_neg (nbad hj (by omega)), tn_nI (n := j) (by omega), tn_nI (n := k) (by omega), if_neg (nI_pos (n := k) (by omega)), if_neg (nI_ge hk (by omega)), if_pos q_21], hC⟩)
      · refine v_if_eqF (pc := 24) (tgt := 36) C (by decide) dX4_gap_24 (by decide) ?_
        refine v_aload_n (pc := 27) C dX4_gap_27 rfl ?_
        refine v_getN (pc := 28) (v := .ref ((pb j) 0)) C inX1 27 rfl rfl 0 (by decide) nw_9 rfl dX4_gap_28 ?_
        refine v_iload_n (pc := 31) C dX4_gap_31 rfl ?_
        refine v_ialdN (pc := 32) (i := (k)) (f := (mA (Ps j) 0)) C 28 rfl (by omega) (by decide) dX4_gap_32 ?_
        refine v_cv (y := (aO A j k)) (((hP j hj).1.1.2.1 k hk).1) ?_
        refine v_if_eq (pc := 33) (tgt := 39) C dX4_gap_33 (by decide) (fun c_33 => ?_) (fun c_33 => ?_)
        · refine v_aload_n (pc := 39) C dX4_gap_39 rfl ?_
          refine v_aload_n (pc := 40) C dX4_gap_40 rfl ?_
          refine v_aload_n (pc := 41) C dX4_gap_41 rfl ?_
          refine v_iload_n (pc := 42) C dX4_gap_42 rfl ?_
          refine V.perm (ws' := (KWd G (a 4) (f 0) K0 ++ (KWd G (a 5) (f 1) K1 ++ (KWd G (a 6) (f 2) K2 ++ (PWd G (pa j) (pb j) (Ps j) ++ (ULd G 10 ua ub Us ++ (PLx G (aNp A) pa pb Ps j ++ (QLd G (aNq A) qa qb (fun j => pa (aQp A j)) Zs ++ (CWd G o a RP RQ RU S))))))))) ((List.perm_append_comm).trans (List.Perm.of_eq (by simp only [List.append_assoc]))) ?_
          refine V.perm (ws' := (KWd G (a 4) (f 0) K0 ++ (KWd G (a 6) (f 2) K2 ++ (PWd G (pa j) (pb j) (Ps j) ++ (ULd G 10 ua ub Us ++ (PLx G (aNp A) pa pb Ps j ++ (QLd G (aNq A) qa qb (fun j => pa (aQp A j)) Zs ++ (CWd G o a RP RQ RU S ++ (KWd G (a 5) (f 1) K1))))))))) ((List.Perm.append_left _ (List.perm_append_comm)).trans (List.Perm.of_eq (by simp only [List.append_assoc]))) ?_
          refine V.perm (ws' := (KWd G (a 4) (f 0) K0 ++ (PWd G (pa j) (pb j) (Ps j) ++ (ULd G 10 ua ub Us ++ (PLx G (aNp A) pa pb Ps j ++ (QLd G (aNq A) qa qb (fun j => pa (aQp A j)) Zs ++ (CWd G o a RP RQ RU S ++ (KWd G (a 5) (f 1) K1 ++ (KWd G (a 6) (f 2) K2))))))))) ((List.Perm.append_left _ (List.perm_append_comm)).trans (List.Perm.of_eq (by simp only [List.append_assoc]))) ?_
          refine V.perm (ws' := (KWd G (a 4) (f 0) K0 ++ (ULd G 10 ua ub Us ++ (PLx G (aNp A) pa pb Ps j ++ (QLd G (aNq A) qa qb (fun j => pa (aQp A j)) Zs ++ (CWd G o a RP RQ RU S ++ (KWd G (a 5) (f 1) K1 ++ (KWd G (a 6) (f 2) K2 ++ (PWd G (pa j) (pb j) (Ps j)))))))))) ((List.Perm.append_left _ (List.perm_append_comm)).trans (List.Perm.of_eq (by simp only [List.append_assoc]))) ?_
          refine V.same (ws' := (KWd G (a 4) (f 0) K0 ++ (ULd G 10 ua ub Us ++ (PLx G (aNp A) pa pb Ps j ++ (QLd G (aNq A) qa qb (fun j => pa (aQp A j)) Zs)))) ++ (CWd G o a RP RQ RU S ++ (KWd G (a 5) (f 1) K1 ++ (KWd G (a 6) (f 2) K2 ++ (PWd G (pa j) (pb j) (Ps j)))))) (by simp only [List.append_assoc]) ?_
          refine v_callV (pc := 43) (st := [.ref (o)]) (q0 := 0) (wr := (KWd G (a 4) (f 0) K0 ++ (ULd G 10 ua ub Us ++ (PLx G (aNp A) pa pb Ps j ++ (QLd G (aNq A) qa qb (fun j => pa (aQp A j)) Zs))))) C (kX4_findFillings G o (pa j) a (f 1) (f 2) (pb j) RP RQ RU S K1 K2 (Ps j) (aO A j) (aX A j) (aY A j) (aN A j) (hP j hj).1.1 (okp_of hI hj q_21) k hk c_33) ykX4_findFillings cvX4_findFillings kw2_135 dX4_gap_43 rfl rfl rfl rfl rfl (by decide) (Nat.le_of_ble_eq_true rfl) (by decide) rfl (Rl_kk (fun r_43 u_43 h_43 => ?_))
          have hfa := fl_all h_43
          have hfh := ff_hi h_43
          refine V.same (ws' := (KWd G (a 4) (f 0) K0 ++ (ULd G 10 ua ub Us ++ (PLx G (aNp A) pa pb Ps j ++ (QLd G (aNq A) qa qb (fun j => pa (aQp A j)) Zs ++ (CWd G o a RP RQ RU S ++ (KWd G (a 5) (f 1) u_43.1 ++ (KWd G (a 6) (f 2) u_43.2 ++ (PWd G (pa j) (pb j) (Ps j)))))))))) (by simp only [List.append_assoc]) ?_
          refine V.perm (ws' := (ULd G 10 ua ub Us ++ (PLx G (aNp A) pa pb Ps j ++ (QLd G (aNq A) qa qb (fun j => pa (aQp A j)) Zs ++ (CWd G o a RP RQ RU S ++ (KWd G (a 5) (f 1) u_43.1 ++ (KWd G (a 6) (f 2) u_43.2 ++ (PWd G (pa j) (pb j) (Ps j) ++ (KWd G (a 4) (f 0) K0))))))))) ((List.perm_append_comm).trans (List.Perm.of_eq (by simp only [List.append_assoc]))) ?_
          refine V.perm (ws' := (ULd G 10 ua ub Us ++ (PLx G (aNp A) pa pb Ps j ++ (QLd G (aNq A) qa qb (fun j => pa (aQp A j)) Zs ++ (CWd G o a RP RQ RU S ++ (KWd G (a 6) (f 2) u_43.2 ++ (PWd G (pa j) (pb j) (Ps j) ++ (KWd G (a 4) (f 0) K0 ++ (KWd G (a 5) (f 1) u_43.1))))))))) ((List.Perm.append_left _ (List.Perm.append_left _ (List.Perm.append_left _ (List.Perm.append_left _ (List.perm_append_comm))))).trans (List.Perm.of_eq (by simp only [List.append_assoc]))) ?_
          refine V.perm (ws' := (ULd G 10 ua ub Us ++ (PLx G (aNp A) pa pb Ps j ++ (QLd G (aNq A) qa qb (fun j => pa (aQp A j)) Zs ++ (CWd G o a RP RQ RU S ++ (PWd G (pa j) (pb j) (Ps j) ++ (KWd G (a 4) (f 0) K0 ++ (KWd G (a 5) (f 1) u_43.1 ++ (KWd G (a 6) (f 2) u_43.2))))))))) ((List.Perm.append_left _ (List.Perm.append_left _ (List.Perm.append_left _ (List.Perm.append_left _ (List.perm_append_comm))))).trans (List.Perm.of_eq (by simp only [List.append_assoc]))) ?_
          refine V.perm (ws' := (ULd G 10 ua ub Us ++ (PLx G (aNp A) pa pb Ps j ++ (QLd G (aNq A) qa qb (fun j => pa (aQp A j)) Zs ++ (CWd G o a RP RQ RU S ++ (KWd G (a 4) (f 0) K0 ++ (KWd G (a 5) (f 1) u_43.1 ++ (KWd G (a 6) (f 2) u_43.2 ++ (PWd G (pa j) (pb j) (Ps j)))))))))) ((List.Perm.append_left _ (List.Perm.append_left _ (List.Perm.append_left _ (List.Perm.append_left _ (List.perm_append_comm))))).trans (List.Perm.of_eq (by simp only [List.append_assoc]))) ?_
          refine V.perm (ws' := (PLx G (aNp A) pa pb Ps j ++ (QLd G (aNq A) qa qb (fun j => pa (aQp A j)) Zs ++ (CWd G o a RP RQ RU S ++ (KWd G (a 4) (f 0) K0 ++ (KWd G (a 5) (f 1) u_43.1 ++ (KWd G (a 6) (f 2) u_43.2 ++ (PWd G (pa j) (pb j) (Ps j) ++ (ULd G 10 ua ub Us))))))))) ((List.perm_append_comm).trans (List.Perm.of_eq (by simp only [List.append_assoc]))) ?_
          refine V.perm (ws' := (QLd G (aNq A) qa qb (fun j => pa (aQp A j)) Zs ++ (CWd G o a RP RQ RU S ++ (KWd G (a 4) (f 0) K0 ++ (KWd G (a 5) (f 1) u_43.1 ++ (KWd G (a 6) (f 2) u_43.2 ++ (PWd G (pa j) (pb j) (Ps j) ++ (ULd G 10 ua ub Us ++ (PLx G (aNp A) pa pb Ps j))))))))) ((List.perm_append_comm).trans (List.Perm.of_eq (by simp only [List.append_assoc]))) ?_
          refine V.perm (ws' := (CWd G o a RP RQ RU S ++ (KWd G (a 4) (f 0) K0 ++ (KWd G (a 5) (f 1) u_43.1 ++ (KWd G (a 6) (f 2) u_43.2 ++ (PWd G (pa j) (pb j) (Ps j) ++ (ULd G 10 ua ub Us ++ (PLx G (aNp A) pa pb Ps j ++ (QLd G (aNq A) qa qb (fun j => pa (aQp A j)) Zs))))))))) ((List.perm_append_comm).trans (List.Perm.of_eq (by simp only [List.append_assoc]))) ?_
          refine v_put (pc := 46) C inX4 tyX4 tyX4_ok nmX4 0 rfl rfl 17 (by decide) kw1_99 rfl (rfl) rfl (Nat.le_of_ble_eq_true rfl) dX4_gap_46 (ws' := (CWd G o a RP RQ RU (sL S (vp_updL (mL S) 17 (r_43))) ++ (KWd G (a 4) (f 0) K0 ++ (KWd G (a 5) (f 1) u_43.1 ++ (KWd G (a 6) (f 2) u_43.2 ++ (PWd G (pa j) (pb j) (Ps j) ++ (ULd G 10 ua ub Us ++ (PLx G (aNp A) pa pb Ps j ++ (QLd G (aNq A) qa qb (fun j => pa (aQp A j)) Zs))))))))) rfl ?_
          refine v_aload_n (pc := 49) C dX4_gap_49 rfl ?_
          refine v_get (pc := 50) (v := .long (r_43)) C inX4 0 rfl rfl 17 (by decide) kw1_99 rfl dX4_gap_50 ?_
          refine v_callS0 (pc := 53) (st := []) C (kJ13_bitCount G _ r_43) ykJ13_bitCount_95d88 kw2_155 kw2_154 dX4_gap_53 rfl rfl rfl (by decide) (Nat.le_of_ble_eq_true rfl) (by decide) rfl (Ri_kk (fun r_53 u_53 h_53 => ?_))
          have hle := congrArg List.length hfa
          rw [List.length_map] at hle
          rw [← hle] at h_53
          subst h_53
          refine V.perm (ws' := (CWd G o a RP RQ RU (sL S (vp_updL (mL S) 17 (r_43))) ++ (KWd G (a 4) (f 0) K0 ++ (KWd G (a 5) (f 1) u_43.1 ++ (KWd G (a 6) (f 2) u_43.2 ++ (PWd G (pa j) (pb j) (Ps j) ++ (ULd G 10 ua ub Us ++ (QLd G (aNq A) qa qb (fun j => pa (aQp A j)) Zs ++ (PLx G (aNp A) pa pb Ps j))))))))) ((List.Perm.append_left _ (List.Perm.append_left _ (List.Perm.append_left _ (List.Perm.append_left _ (List.Perm.append_left _ (List.Perm.append_left _ (List.perm_append_comm))))))).trans (List.Perm.of_eq (by simp only [List.append_assoc]))) ?_
          refine V.perm (ws' := (CWd G o a RP RQ RU (sL S (vp_updL (mL S) 17 (r_43))) ++ (KWd G (a 4) (f 0) K0 ++ (KWd G (a 5) (f 1) u_43.1 ++ (KWd G (a 6) (f 2) u_43.2 ++ (ULd G 10 ua ub Us ++ (QLd G (aNq A) qa qb (fun j => pa (aQp A j)) Zs ++ (PLx G (aNp A) pa pb Ps j ++ (PWd G (pa j) (pb j) (Ps j)))))))))) ((List.Perm.append_left _ (List.Perm.append_left _ (List.Perm.append_left _ (List.Perm.append_left _ (List.perm_append_comm))))).trans (List.Perm.of_eq (by simp only [List.append_assoc]))) ?_
          refine V.perm (ws' := (CWd G o a RP RQ RU (sL S (vp_updL (mL S) 17 (r_43))) ++ (KWd G (a 4) (f 0) K0 ++ (KWd G (a 5) (f 1) u_43.1 ++ (KWd G (a 6) (f 2) u_43.2 ++ (ULd G 10 ua ub Us ++ (QLd G (aNq A) qa qb (fun j => pa (aQp A j)) Zs ++ (PLd G (aNp A) pa pb Ps)))))))) (List.Perm.append_left _ (List.Perm.append_left _ (List.Perm.append_left _ (List.Perm.append_left _ (List.Perm.append_left _ (List.Perm.append_left _ (PL_same hj))))))) ?_
          refine V.perm (ws' := (CWd G o a RP RQ RU (sL S (vp_updL (mL S) 17 (r_43))) ++ (KWd G (a 4) (f 0) K0 ++ (KWd G (a 5) (f 1) u_43.1 ++ (KWd G (a 6) (f 2) u_43.2 ++ (ULd G 10 ua ub Us ++ (PLd G (aNp A) pa pb Ps ++ (QLd G (aNq A) qa qb (fun j => pa (aQp A j)) Zs)))))))) ((List.Perm.append_left _ (List.Perm.append_left _ (List.Perm.append_left _ (List.Perm.append_left _ (List.Perm.append_left _ (List.perm_append_comm)))))).trans (List.Perm.of_eq (by simp only [List.append_assoc]))) ?_
          subst hQ
          exact v_iret (pc := 56) C dX4_gap_56 (rfl) (((setF A (flK A j k 19)), ((sL S (vp_updL (mL S) 17 (r_43))), K0, u_43.1, u_43.2, Us, Ps, Zs, RP, RQ, pa, pb, qa, qb))) rfl (⟨by unfold s_gap; rw [if_neg (nbad hj (by omega)), tn_nI (n := j) (by omega), tn_nI (n := k) (by omega), if_neg (nI_pos (n := k) (by omega)), if_neg (nI_ge hk (by omega)), if_neg (fun z => z q_21), if_neg (fun z => z c_33)], by unfold s_gap; rw [if_neg (nbad hj (by omega)), tn_nI (n := j) (by omega), tn_nI (n := k) (by omega), if_neg (nI_pos (n := k) (by omega)), if_neg (nI_ge hk (by omega)), if_neg (fun z => z q_21), if_neg (fun z => z c_33)], ⟨tl_S (A := A) (B := (setF A (flK A j k 19))) (S := S) rfl rfl rfl rfl hS.1 hS.1.2.2, hS.2.1, tl_Ch rfl rfl rfl rfl rfl hS.2.2.1, ⟨hfa, hfh⟩, hS.2.2.2.2.trans (congrArg nI (tl_lines (A := A) (B := (setF A (flK A j k 19))) rfl).symm)⟩, tl_P rfl rfl hP, tl_Q rfl rfl hA, hU, hRP, hRQ, hRU⟩)
        · refine v_bipush (pc := 36) (v := (-3)) C dX4_gap_36 (by decide) ?_
          refine V.perm (ws' := (CWd G o a RP RQ RU S ++ (KWd G (a 4) (f 0) K0 ++ (KWd G (a 5) (f 1) K1 ++ (KWd G (a 6) (f 2) K2 ++ (PWd G (pa j) (pb j) (Ps j) ++ (ULd G 10 ua ub Us ++ (QLd G (aNq A) qa qb (fun j => pa (aQp A j)) Zs ++ (PLx G (aNp A) pa pb Ps j))))))))) ((List.Perm.append_left _ (List.Perm.append_left _ (List.Perm.append_left _ (List.Perm.append_left _ (List.Perm.append_left _ (List.Perm.append_left _ (List.perm_append_comm))))))).trans (List.Perm.of_eq (by simp only [List.append_assoc]))) ?_
          refine V.perm (ws' := (CWd G o a RP RQ RU S ++ (KWd G (a 4) (f 0) K0 ++ (KWd G (a 5) (f 1) K1 ++ (KWd G (a 6) (f 2) K2 ++ (ULd G 10 ua ub Us ++ (QLd G (aNq A) qa qb (fun j => pa (aQp A j)) Zs ++ (PLx G (aNp A) pa pb Ps j ++ (PWd G (pa j) (pb j) (Ps j)))))))))) ((List.Perm.append_left _ (List.Perm.append_left _ (List.Perm.append_left _ (List.Perm.append_left _ (List.perm_append_comm))))).trans (List.Perm.of_eq (by simp only [List.append_assoc]))) ?_
          refine V.perm (ws' := (CWd G o a RP RQ RU S ++ (KWd G (a 4) (f 0) K0 ++ (KWd G (a 5) (f 1) K1 ++ (KWd G (a 6) (f 2) K2 ++ (ULd G 10 ua ub Us ++ (QLd G (aNq A) qa qb (fun j => pa (aQp A j)) Zs ++ (PLd G (aNp A) pa pb Ps)))))))) (List.Perm.append_left _ (List.Perm.append_left _ (List.Perm.append_left _ (List.Perm.append_left _ (List.Perm.append_left _ (List.Perm.append_left _ (PL_same hj))))))) ?_
          refine V.perm (ws' := (CWd G o a RP RQ RU S ++ (KWd G (a 4) (f 0) K0 ++ (KWd G (a 5) (f 1) K1 ++ (KWd G (a 6) (f 2) K2 ++ (ULd G 10 ua ub Us ++ (PLd G (aNp A) pa pb Ps ++ (QLd G (aNq A) qa qb (fun j => pa (aQp A j)) Zs)))))))) ((List.Perm.append_left _ (List.Perm.append_left _ (List.Perm.append_left _ (List.Perm.append_left _ (List.Perm.append_left _ (List.perm_append_comm)))))).trans (List.Perm.of_eq (by simp only [List.append_assoc]))) ?_
          subst hQ
          exact v_iret (pc := 38) C dX4_gap_38 (rfl) ((A, (S, K0, K1, K2, Us, Ps, Zs, RP, RQ, pa, pb, qa, qb))) rfl (⟨by unfold s_gap; rw [if_neg (nbad hj (by omega)), tn_nI (n := j) (by omega), tn_nI (n := k) (by omega), if_neg (nI_pos (n := k) (by omega)), if_neg (nI_ge hk (by omega)), if_neg (fun z => z q_21), if_pos c_33], by unfold s_gap; rw [if_neg (nbad hj (by omega)), tn_nI (n := j) (by omega), tn_nI (n := k) (by omega), if_neg (nI_pos (n := k) (by omega)), if_neg (nI_ge hk (by omega)), if_neg (fun z => z q_21), if_pos c_33], hC⟩)
