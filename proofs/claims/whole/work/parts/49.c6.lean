/-! the desk: program, question -/
theorem PL_push {G : TG} {n : Nat} {pa : Nat → Nat} {pb : Nat → Nat → Nat} {Ps : Nat → MS} (q : Nat) (b : Nat → Nat) (T : MS) : PLd G n pa pb Ps ++ PWd G q b T = PLd G (n + 1) (va_up pa n q) (va_up pb n b) (va_up Ps n T) := by
  unfold PLd
  rw [pool_succ, va_up_self, va_up_self, va_up_self]
  congr 1
  refine pool_cong (fun j hj => ?_)
  rw [va_up_ne _ _ (show j ≠ n by omega), va_up_ne _ _ (show j ≠ n by omega), va_up_ne _ _ (show j ≠ n by omega)]
theorem QL_push {G : TG} {n : Nat} {qa : Nat → Nat} {qb : Nat → Nat → Nat} {pr pr2 : Nat → Nat} {Zs : Nat → MS} (q : Nat) (b : Nat → Nat) (p : Nat) (Z : MS) (hp : pr2 n = p) (h : ∀ j, j < n → pr2 j = pr j) : QLd G n qa qb pr Zs ++ QWd G q b p Z = QLd G (n + 1) (va_up qa n q) (va_up qb n b) pr2 (va_up Zs n Z) := by
  subst hp
  unfold QLd
  rw [pool_succ, va_up_self, va_up_self, va_up_self]
  congr 1
  refine pool_cong (fun j hj => ?_)
  rw [va_up_ne _ _ (show j ≠ n by omega), va_up_ne _ _ (show j ≠ n by omega), va_up_ne _ _ (show j ≠ n by omega), h j hj]
theorem UL_push {G : TG} {n : Nat} {pa : Nat → Nat} {pb : Nat → Nat → Nat} {Ps : Nat → MS} (q : Nat) (b : Nat → Nat) (T : MS) : ULd G n pa pb Ps ++ UWd G q b T = ULd G (n + 1) (va_up pa n q) (va_up pb n b) (va_up Ps n T) := by
  unfold ULd
  rw [pool_succ, va_up_self, va_up_self, va_up_self]
  congr 1
  refine pool_cong (fun j hj => ?_)
  rw [va_up_ne _ _ (show j ≠ n by omega), va_up_ne _ _ (show j ≠ n by omega), va_up_ne _ _ (show j ≠ n by omega)]
theorem QL_pr {G : TG} {n : Nat} {qa : Nat → Nat} {qb : Nat → Nat → Nat} {pr pr2 : Nat → Nat} {Zs : Nat → MS} (h : ∀ j, j < n → pr2 j = pr j) : QLd G n qa qb pr Zs = QLd G n qa qb pr2 Zs := by
  unfold QLd
  exact pool_cong (fun j hj => by rw [h j hj])
def addP (A : AS) : AS := ((aNp A + 1, A.1.2), A.2)
theorem dp_0 {O : Nat → Int32} : dp O 0 = 0 := rfl
theorem PRC_0 {O X Y : Nat → Int32} {n : Nat} (hn : n = 0) : PRC O X Y n mZ := by
  subst hn
  exact ⟨⟨rfl, fun k hk => absurd hk (Nat.not_lt_zero k), fun i e _ he => absurd he (Nat.not_lt_zero e)⟩, fun k hk => absurd hk (Nat.not_lt_zero k), rfl, fun i hi => absurd hi (Nat.not_lt_zero i)⟩
theorem CAll_program {A : AS} {RP RQ RU : Nat → Option Nat} {ua pa qa : Nat → Nat} {S K0 : MS} {Us Ps Zs : Nat → MS} {q : Nat} (hI : AInv A) (hC : CAll A RP RQ RU ua pa qa S K0 Us Ps Zs) : CAll (addP A) (va_up RP (aNp A) (some q)) RQ RU ua (va_up pa (aNp A) q) qa (sI S 11 (nI (aNp A + 1))) K0 Us (va_up Ps (aNp A) mZ) Zs := by
  obtain ⟨hS, hP, hA, hU, hRP, hRQ, hRU⟩ := hC
  have hq : ∀ j, j < aNq A → aQp A j ≠ aNp A := fun j hj => by have := (hI.2.2.2.2.2.1 j hj).1; omega
  refine ⟨⟨⟨rfl, hS.1.2⟩, hS.2.1, ?_, hS.2.2.2.1, ?_⟩, fun p hp => ?_, fun j hj => ?_, hU, fun i hi => ?_, hRQ, hRU⟩
  · obtain ⟨γ, ξ, a1, a2, a3, a4, a5, a6⟩ := hS.2.2.1
    refine ⟨γ, ξ, a1, a2, a3, a4, a5, ?_⟩
    rcases a6 with z | ⟨z, w⟩
    · exact Or.inl z
    · exact Or.inr ⟨z, by rw [ch_cong (A := A) (B := addP A) (q := ξ) (fun m => rfl)]; exact w⟩
  · show mI S 13 = nI (linesA (addP A) (aNp A) + aN A (aNp A))
    rw [hI.2.2.1 (aNp A) (Nat.le_refl _), lines_cong (A := A) (B := addP A) (aNp A) (fun p _ => rfl)]
    exact hS.2.2.2.2
  · by_cases e : p = aNp A
    · subst e
      rw [va_up_self]
      refine ⟨PRC_0 (hI.2.2.1 (aNp A) (Nat.le_refl _)), ?_⟩
      have : askedA (addP A) (aNp A) = false := asked_f (fun j hj => hq j hj)
      rw [this]; rfl
    · rw [va_up_ne _ _ e]
      have hp : p < aNp A + 1 := hp
      exact hP p (by omega)
  · show QOK _ _ (va_up Ps (aNp A) mZ (aQp A j)) (Zs j)
    rw [va_up_ne _ _ (hq j hj)]
    exact hA j hj
  · have hi : i < aNp A + 1 := hi
    by_cases e : i = aNp A
    · subst e; rw [va_up_self, va_up_self]
    · rw [va_up_ne _ _ e, va_up_ne _ _ e]; exact hRP i (by omega)
def wl (n : Nat) (k : Int32) : Int32 := if k = 0 then 3 else if k = 1 then nI n - 1 else 7
theorem wl_1 {n : Nat} {w : Int32} (hn : n ≤ 20) : (nI n ≤ w) ↔ nI n - 1 < w := by
  rw [Int32.le_iff_toInt_le, Int32.lt_iff_toInt_lt, nI_toInt (by omega)]
  have e : (nI n - 1).toInt = (n : Int) - 1 := by
    have := pk_sub_toInt (a := n) (b := 1) (by omega) (by decide)
    exact this
  rw [e]
  omega
section QN
variable {A : AS} {j : Nat} {n k w : Int32}
theorem aQ_old {q : Nat} (hq : q < aNq A) : aQp (addQ A j n k w) q = aQp A q ∧ aQi (addQ A j n k w) q = aQi A q ∧ aQk (addQ A j n k w) q = aQk A q ∧ aQw (addQ A j n k w) q = aQw A q := by
  have e : ¬ q = aNq A := by omega
  exact ⟨if_neg e, if_neg e, if_neg e, if_neg e⟩
theorem aQ_new : aQp (addQ A j n k w) (aNq A) = j ∧ aQi (addQ A j n k w) (aNq A) = tn n ∧ aQk (addQ A j n k w) (aNq A) = tn k ∧ aQw (addQ A j n k w) (aNq A) = tn w := ⟨if_pos rfl, if_pos rfl, if_pos rfl, if_pos rfl⟩
theorem aQ_ans {q : Nat} {m : Int32} (hq : q < aNq A) : ansA (addQ A j n k w) q m = ansA A q m := by
  obtain ⟨e1, e2, e3, e4⟩ := aQ_old (A := A) (j := j) (n := n) (k := k) (w := w) hq
  unfold ansA aRun
  rw [e1, e2, e3, e4]; rfl
theorem aQ_asked {p : Nat} (h : p ≠ j) : askedA (addQ A j n k w) p = askedA A p := by
  by_cases z : askedA A p = true
  · obtain ⟨q, hq, e⟩ := List.any_eq_true.mp z
    have hq := List.mem_range.mp hq
    rw [z]
    exact asked_t (q := q) (show q < aNq A + 1 by omega) ((aQ_old hq).1.trans (beq_iff_eq.mp e))
  · have z2 : askedA A p = false := by rcases Bool.eq_false_or_eq_true (askedA A p) with y | y; exact absurd y z; exact y
    rw [z2]
    refine asked_f (fun q hq e => ?_)
    have hq : q < aNq A + 1 := hq
    rcases Nat.lt_or_ge q (aNq A) with y | y
    · rw [(aQ_old y).1] at e; exact z (asked_t y e)
    · rw [show q = aNq A by omega, aQ_new.1] at e; exact h e.symm
theorem CAll_question {RP RQ RU : Nat → Option Nat} {ua pa qa : Nat → Nat} {S K0 : MS} {Us Ps Zs : Nat → MS} {q : Nat} (hI : AInv A) (hj : j < aNp A) (h0 : dp (aO A j) (aN A j) = 0) (hn : ¬ n < 0) (hk : ¬ (k < 0 ∨ 2 < k)) (hw : ¬ (w < 0 ∨ wlim A j k < w)) (hC : CAll A RP RQ RU ua pa qa S K0 Us Ps Zs) : CAll (addQ A j n k w) RP (va_up RQ (aNq A) (some q)) RU ua pa (va_up qa (aNq A) q) (sI S 12 (nI (aNq A + 1))) K0 Us (va_up Ps j (sI (Ps j) 8 1)) (va_up Zs (aNq A) ((fun i => if i = 1 then n else if i = 2 then k else w), (fun _ _ => 0), (fun _ => 0))) := by
  obtain ⟨hS, hP, hA, hU, hRP, hRQ, hRU⟩ := hC
  have hn20 := hI.2.1 j
  refine ⟨⟨⟨hS.1.1, rfl, hS.1.2.2⟩, hS.2.1, ?_, hS.2.2.2.1, hS.2.2.2.2.trans (congrArg nI (lines_cong (A := addQ A j n k w) (B := A) _ (fun _ _ => rfl)))⟩, fun p hp => ?_, fun i hi => ?_, hU, hRP, fun i hi => ?_, hRU⟩
  · obtain ⟨γ, ξ, a1, a2, a3, a4, a5, a6⟩ := hS.2.2.1
    refine ⟨γ, ξ, a1, a2, a3, a4, a5, ?_⟩
    rcases a6 with z | ⟨z, y⟩
    · exact Or.inl z
    · exact Or.inr ⟨show ξ < aNq A + 1 by omega, by rw [ch_cong (A := A) (fun m => aQ_ans z)]; exact y⟩
  · by_cases e : p = j
    · subst e
      rw [va_up_self]
      refine ⟨(hP p hp).1, ?_⟩
      have : askedA (addQ A p n k w) p = true := asked_t (q := aNq A) (show aNq A < aNq A + 1 by omega) aQ_new.1
      rw [this]; rfl
    · rw [va_up_ne _ _ e, aQ_asked e]; exact hP p hp
  · have hi : i < aNq A + 1 := hi
    have hps : ∀ p, ∀ {ans : Nat → Int32} {ζ Z : MS}, QOK ans ζ (Ps p) Z → QOK ans ζ (va_up Ps j (sI (Ps j) 8 1) p) Z := by
      intro p ans ζ Z h
      by_cases e : p = j
      · subst e; rw [va_up_self]; exact h
      · rw [va_up_ne _ _ e]; exact h
    rcases Nat.lt_or_ge i (aNq A) with y | y
    · have e2 : (fun m => ansA (addQ A j n k w) i (nI m)) = (fun m => ansA A i (nI m)) := funext fun m => aQ_ans y
      have e3 : qZ (addQ A j n k w) i = qZ A i := by unfold qZ; rw [(aQ_old y).2.1, (aQ_old y).2.2.1, (aQ_old y).2.2.2]
      rw [e2, e3, (aQ_old y).1, va_up_ne _ _ (show i ≠ aNq A by omega)]
      exact hps _ (hA i y)
    · have ei : i = aNq A := by omega
      subst ei
      rw [va_up_self, aQ_new.1]
      refine hps _ ⟨aO A j, aX A j, aY A j, aN A j, tn w, ?_, (hP j hj).1.1, okp_of hI hj h0, (tnI (fun z => hw (Or.inl z))).symm, ?_, ?_, ?_, fun m hm => ?_, fun m hm hb => ?_⟩
      · intro i h1 h3
        show (if i = 1 then n else if i = 2 then k else w) = (if i = 1 then nI (aQi (addQ A j n k w) (aNq A)) else if i = 2 then nI (aQk (addQ A j n k w) (aNq A)) else nI (aQw (addQ A j n k w) (aNq A)))
        rw [aQ_new.2.1, aQ_new.2.2.1, aQ_new.2.2.2, tnI hn, tnI (fun z => hk (Or.inl z)), tnI (fun z => hw (Or.inl z))]
      · intro z
        have z : k = 0 := z
        have hw2 := hw
        unfold wlim at hw2
        rw [if_pos z] at hw2
        obtain ⟨x, hx, e⟩ := wN (n := 3) hw2
        rw [e, tn_nI (by omega)]; exact hx
      · intro z
        have z : k = 1 := z
        have hw2 := hw
        unfold wlim at hw2
        rw [if_neg (by rw [z]; decide), if_pos z] at hw2
        have h3 : ¬ nI (aN A j) ≤ w := fun y => hw2 (Or.inr ((wl_1 hn20).mp y))
        obtain ⟨x, hx, e⟩ := ixN (fun y => hw2 (Or.inl y)) h3 (by omega)
        rw [e, tn_nI (by omega)]; omega
      · intro z1 z2
        have z1 : ¬ k = 0 := z1
        have z2 : ¬ k = 1 := z2
        have hw2 := hw
        unfold wlim at hw2
        rw [if_neg z1, if_neg z2] at hw2
        obtain ⟨x, hx, e⟩ := wN (n := 7) hw2
        rw [e, tn_nI (by omega)]; exact hx
      · have hk0 : tn k = 0 ↔ k = 0 := by
          obtain ⟨x, hx, e⟩ := wN (n := 2) hk
          subst e
          rw [tn_nI (by omega)]
          exact ⟨fun z => by rw [z]; rfl, fun z => (nI_eq (by omega) (by decide)).mp z⟩
        have hk1 : tn k = 1 ↔ k = 1 := by
          obtain ⟨x, hx, e⟩ := wN (n := 2) hk
          subst e
          rw [tn_nI (by omega)]
          exact ⟨fun z => by rw [z]; rfl, fun z => (nI_eq (by omega) (by decide)).mp z⟩
        show ansA (addQ A j n k w) (aNq A) (nI m) = ansR (aO A j) (aX A j) (aY A j) (aN A j) k n (tn w) (nI m)
        unfold ansA aRun ansR
        rw [aQ_new.1, aQ_new.2.1, aQ_new.2.2.1, aQ_new.2.2.2, tnI hn]
        by_cases y0 : k = 0
        · rw [if_pos y0, if_pos (hk0.mpr y0)]; rfl
        · rw [if_neg y0, if_neg (fun z => y0 (hk0.mp z))]
          by_cases y1 : k = 1
          · rw [if_pos y1, if_pos (hk1.mpr y1)]; rfl
          · rw [if_neg y1, if_neg (fun z => y1 (hk1.mp z))]; rfl
      · have hb : lb 0 m = true := hb
        rw [lb_0 m hm] at hb
        exact absurd hb (by decide)
  · have hi : i < aNq A + 1 := hi
    by_cases e : i = aNq A
    · subst e; rw [va_up_self, va_up_self]
    · rw [va_up_ne _ _ e, va_up_ne _ _ e]; exact hRQ i (by omega)
end QN
theorem k02 {w : Int32} (h0 : ¬ w = 0) (h1 : ¬ w = 1) (h2 : ¬ w = 2) : w < 0 ∨ 2 < w := by
  rcases pk_ix w (n := 3) (by decide) with q | q | ⟨j, a, b⟩
  · exact Or.inl q
  · have : (2 : Int32) < 3 := by decide
    exact Or.inr (Int32.lt_of_lt_of_le this q)
  · subst b
    rcases (show j = 0 ∨ j = 1 ∨ j = 2 by omega) with z | z | z <;> subst z
    · exact absurd rfl h0
    · exact absurd rfl h1
    · exact absurd rfl h2
theorem w01b {v x r : Int32} (h : r = if v < 0 ∨ x ≤ v then 0 else 1) : ((v < 0 ∨ x ≤ v) ∧ r = 0) ∨ (¬ (v < 0 ∨ x ≤ v) ∧ r = 1) := by
  by_cases q : v < 0 ∨ x ≤ v
  · exact Or.inl ⟨q, by rw [h, if_pos q]⟩
  · exact Or.inr ⟨q, by rw [h, if_neg q]⟩
theorem ask01 {P : Prop} [Decidable P] {r : Int32} (h : r = if P then 0 else 1) : (P ∧ r = 0) ∨ (¬ P ∧ r = 1) := by
  by_cases q : P
  · exact Or.inl ⟨q, by rw [h, if_pos q]⟩
  · exact Or.inr ⟨q, by rw [h, if_neg q]⟩
theorem q_bad {A : AS} {p n k w : Int32} {j : Nat} (hj : j < aNp A) (h10 : aNp A ≤ 10) (e : p = nI j) (hn : ¬ (n < 0 ∨ 9 < n)) (h : (k < 0 ∨ 2 < k) ∨ (w < 0 ∨ wl (aN A j) k < w)) : s_question A p n k w = (-1, A) := by
  subst e
  have h : (k < 0 ∨ 2 < k) ∨ (w < 0 ∨ wlim A j k < w) := h
  unfold s_question
  rw [if_neg (nbad hj (by omega)), if_neg hn, tn_nI (by omega)]
  by_cases z : k < 0 ∨ 2 < k
  · rw [if_pos z]
  · rw [if_neg z, if_pos (h.resolve_left z)]
def rmX4_program : Room := { frames := 2, cells := 7, slots := 129, locals := 40 }
set_option maxHeartbeats 4000000 in
set_option maxRecDepth 100000 in
theorem kX4_program (G : TG) (o : Nat) (a : Nat → Nat) (f : Nat → Nat → Nat) (ua : Nat → Nat) (ub : Nat → Nat → Nat) (RP RQ RU : Nat → Option Nat) (S K0 K1 K2 : MS) (Us Ps Zs : Nat → MS) (pa qa : Nat → Nat) (pb qb : Nat → Nat → Nat) (A : AS) (hI : AInv A) (hC : CAll A RP RQ RU ua pa qa S K0 Us Ps Zs)  : CT G yX4_program cX4_program 1 (some .int) rmX4_program 7 129 [.ref (o)] (CWd G o a RP RQ RU S ++ (KWd G (a 4) (f 0) K0 ++ (KWd G (a 5) (f 1) K1 ++ (KWd G (a 6) (f 2) K2 ++ (ULd G 10 ua ub Us ++ (PLd G (aNp A) pa pb Ps ++ (QLd G (aNq A) qa qb (fun j => pa (aQp A j)) Zs))))))) (fun u : AS × DS => DWd G o a f ua ub RU u.1 u.2) (Ri (fun r δ => r = (s_program A).1 ∧ δ.1 = (s_program A).2 ∧ CRel δ.1 RU ua δ.2)) := by
  refine CT.enter (by decide) (Nat.le_of_ble_eq_true rfl) (fun X C hnm => ?_)
  refine V.less [(0, .ref (o))] ⟨rfl, trivial⟩ ?_
  generalize hQ : (QX G X (fun u : AS × DS => DWd G o a f ua ub RU u.1 u.2) (Ri (fun r δ => r = (s_program A).1 ∧ δ.1 = (s_program A).2 ∧ CRel δ.1 RU ua δ.2)) 7 129) = Qq
  have hnp := hI.1
  have hnq := hI.2.2.2.2.1
  obtain ⟨hS, hP, hA, hU, hRP, hRQ, hRU⟩ := id hC
  refine v_aload_n (pc := 0) C dX4_program_0 rfl ?_
  refine v_get (pc := 1) (v := .int (mI S 11)) C inX4 0 rfl rfl 11 (by decide) kw1_93 rfl dX4_program_1 ?_
  refine v_cv (y := (nI (aNp A))) (hS.1.1) ?_
  refine v_bipush (pc := 4) (v := 10) C dX4_program_4 (by decide) ?_
  refine v_icmp_ltN (pc := 6) (tgt := 12) C (aNp A) 10 rfl rfl (by omega) (by omega) dX4_program_6 (by decide) (fun c_6 => ?_) (fun c_6 => ?_)
  · refine v_aload_n (pc := 12) C dX4_program_12 rfl ?_
    refine v_get (pc := 13) (v := .ref (a 0)) C inX4 0 rfl rfl 0 (by decide) kw1_82 rfl dX4_program_13 ?_
    refine v_aload_n (pc := 16) C dX4_program_16 rfl ?_
    refine v_get (pc := 17) (v := .int (mI S 11)) C inX4 0 rfl rfl 11 (by decide) kw1_93 rfl dX4_program_17 ?_
    refine v_cv (y := (nI (aNp A))) (hS.1.1) ?_
    refine v_new (pc := 20) (ci := 1) (fs := [.null, .null, .null, .null, .null, .null, .int 0, .int 0, .int 0]) C inX1 tyX1 tyX1_ok kw1_19 kw1_141 kw1_6 rfl (by decide) (Nat.le_of_ble_eq_true rfl) (Nat.le_of_ble_eq_true rfl) dX4_program_20 (fun q_20 => ?_)
    refine V.same (ws' := (CWd G o a RP RQ RU S ++ (KWd G (a 4) (f 0) K0 ++ (KWd G (a 5) (f 1) K1 ++ (KWd G (a 6) (f 2) K2 ++ (ULd G 10 ua ub Us ++ (PLd G (aNp A) pa pb Ps ++ (QLd G (aNq A) qa qb (fun j => pa (aQp A j)) Zs ++ ([(q_20, .inr (1, [.null, .null, .null, .null, .null, .null, .int 0, .int 0, .int 0]))]))))))))) (by simp only [List.append_assoc]) ?_
    refine v_dup (pc := 23) C dX4_program_23 rfl ?_
    refine V.same (ws' := (CWd G o a RP RQ RU S ++ (KWd G (a 4) (f 0) K0 ++ (KWd G (a 5) (f 1) K1 ++ (KWd G (a 6) (f 2) K2 ++ (ULd G 10 ua ub Us ++ (PLd G (aNp A) pa pb Ps ++ (QLd G (aNq A) qa qb (fun j => pa (aQp A j)) Zs))))))) ++ ([(q_20, .inr (1, [.null, .null, .null, .null, .null, .null, .int 0, .int 0, .int 0]))])) (by simp only [List.append_assoc]) ?_
    refine v_callIN (pc := 24) (st := [.ref (q_20), .int (nI (aNp A)), .ref (a 0)]) (wr := (CWd G o a RP RQ RU S ++ (KWd G (a 4) (f 0) K0 ++ (KWd G (a 5) (f 1) K1 ++ (KWd G (a 6) (f 2) K2 ++ (ULd G 10 ua ub Us ++ (PLd G (aNp A) pa pb Ps ++ (QLd G (aNq A) qa qb (fun j => pa (aQp A j)) Zs)))))))) C (kX1_init G q_20) ykX1_init kw1_143 rfl nw_8 dX4_program_24 rfl rfl rfl (by decide) (Nat.le_of_ble_eq_true rfl) (by decide) rfl (Rv_kk (fun u_24 h_24 => ?_))
    refine V.same (ws' := (CWd G o a RP RQ RU S ++ (KWd G (a 4) (f 0) K0 ++ (KWd G (a 5) (f 1) K1 ++ (KWd G (a 6) (f 2) K2 ++ (ULd G 10 ua ub Us ++ (PLd G (aNp A) pa pb Ps ++ (QLd G (aNq A) qa qb (fun j => pa (aQp A j)) Zs ++ (PWd G q_20 u_24 mZ))))))))) (by simp only [List.append_assoc]) ?_
    refine V.perm (ws' := (CWd G o a RP RQ RU S ++ (KWd G (a 4) (f 0) K0 ++ (KWd G (a 5) (f 1) K1 ++ (KWd G (a 6) (f 2) K2 ++ (PLd G (aNp A) pa pb Ps ++ (QLd G (aNq A) qa qb (fun j => pa (aQp A j)) Zs ++ (PWd G q_20 u_24 mZ ++ (ULd G 10 ua ub Us))))))))) ((List.Perm.append_left _ (List.Perm.append_left _ (List.Perm.append_left _ (List.Perm.append_left _ (List.perm_append_comm))))).trans (List.Perm.of_eq (by simp only [List.append_assoc]))) ?_
    refine V.perm (ws' := (CWd G o a RP RQ RU S ++ (KWd G (a 4) (f 0) K0 ++ (KWd G (a 5) (f 1) K1 ++ (KWd G (a 6) (f 2) K2 ++ (QLd G (aNq A) qa qb (fun j => pa (aQp A j)) Zs ++ (PWd G q_20 u_24 mZ ++ (ULd G 10 ua ub Us ++ (PLd G (aNp A) pa pb Ps))))))))) ((List.Perm.append_left _ (List.Perm.append_left _ (List.Perm.append_left _ (List.Perm.append_left _ (List.perm_append_comm))))).trans (List.Perm.of_eq (by simp only [List.append_assoc]))) ?_
    refine V.perm (ws' := (CWd G o a RP RQ RU S ++ (KWd G (a 4) (f 0) K0 ++ (KWd G (a 5) (f 1) K1 ++ (KWd G (a 6) (f 2) K2 ++ (PWd G q_20 u_24 mZ ++ (ULd G 10 ua ub Us ++ (PLd G (aNp A) pa pb Ps ++ (QLd G (aNq A) qa qb (fun j => pa (aQp A j)) Zs))))))))) ((List.Perm.append_left _ (List.Perm.append_left _ (List.Perm.append_left _ (List.Perm.append_left _ (List.perm_append_comm))))).trans (List.Perm.of_eq (by simp only [List.append_assoc]))) ?_
    refine v_aast (pc := 27) (i := (aNp A)) (f := RP) C 1 3 27 1 rfl rfl rfl rfl (by omega) (by decide) dX4_program_27 (ws' := (CWd G o a (va_up (RP) (aNp A) (some (q_20))) RQ RU S ++ (KWd G (a 4) (f 0) K0 ++ (KWd G (a 5) (f 1) K1 ++ (KWd G (a 6) (f 2) K2 ++ (PWd G q_20 u_24 mZ ++ (ULd G 10 ua ub Us ++ (PLd G (aNp A) pa pb Ps ++ (QLd G (aNq A) qa qb (fun j => pa (aQp A j)) Zs))))))))) rfl ?_
    refine v_aload_n (pc := 28) C dX4_program_28 rfl ?_
    refine v_dup (pc := 29) C dX4_program_29 rfl ?_
    refine v_get (pc := 30) (v := .int (mI S 11)) C inX4 0 rfl rfl 11 (by decide) kw1_93 rfl dX4_program_30 ?_
    refine v_cv (y := (nI (aNp A))) (hS.1.1) ?_
    refine v_dup_x1 (pc := 33) C dX4_program_33 rfl rfl ?_
    refine v_iconst (pc := 34) (v := 1) C dX4_program_34 (by decide) ?_
    refine v_iaddN (pc := 35) C (aNp A) 1 rfl rfl dX4_program_35 ?_
    refine v_put (pc := 36) C inX4 tyX4 tyX4_ok nmX4 0 rfl rfl 11 (by decide) kw1_93 rfl (rfl) rfl (Nat.le_of_ble_eq_true rfl) dX4_program_36 (ws' := (CWd G o a (va_up (RP) (aNp A) (some (q_20))) RQ RU (sI S 11 (nI ((aNp A) + 1))) ++ (KWd G (a 4) (f 0) K0 ++ (KWd G (a 5) (f 1) K1 ++ (KWd G (a 6) (f 2) K2 ++ (PWd G q_20 u_24 mZ ++ (ULd G 10 ua ub Us ++ (PLd G (aNp A) pa pb Ps ++ (QLd G (aNq A) qa qb (fun j => pa (aQp A j)) Zs))))))))) rfl ?_
    refine V.perm (ws' := (CWd G o a (va_up (RP) (aNp A) (some (q_20))) RQ RU (sI S 11 (nI ((aNp A) + 1))) ++ (KWd G (a 4) (f 0) K0 ++ (KWd G (a 5) (f 1) K1 ++ (KWd G (a 6) (f 2) K2 ++ (ULd G 10 ua ub Us ++ (PLd G (aNp A) pa pb Ps ++ (QLd G (aNq A) qa qb (fun j => pa (aQp A j)) Zs ++ (PWd G q_20 u_24 mZ))))))))) ((List.Perm.append_left _ (List.Perm.append_left _ (List.Perm.append_left _ (List.Perm.append_left _ (List.perm_append_comm))))).trans (List.Perm.of_eq (by simp only [List.append_assoc]))) ?_
    refine V.perm (ws' := (CWd G o a (va_up (RP) (aNp A) (some (q_20))) RQ RU (sI S 11 (nI ((aNp A) + 1))) ++ (KWd G (a 4) (f 0) K0 ++ (KWd G (a 5) (f 1) K1 ++ (KWd G (a 6) (f 2) K2 ++ (ULd G 10 ua ub Us ++ (PLd G (aNp A) pa pb Ps ++ (PWd G q_20 u_24 mZ ++ (QLd G (aNq A) qa qb (fun j => pa (aQp A j)) Zs))))))))) ((List.Perm.append_left _ (List.Perm.append_left _ (List.Perm.append_left _ (List.Perm.append_left _ (List.Perm.append_left _ (List.Perm.append_left _ (List.perm_append_comm))))))).trans (List.Perm.of_eq (by simp only [List.append_assoc]))) ?_
    have eP := PL_push (G := G) (n := aNp A) (pa := pa) (pb := pb) (Ps := Ps) q_20 u_24 mZ
    have eQ := QL_pr (G := G) (n := aNq A) (qa := qa) (qb := qb) (Zs := Zs) (pr := fun j => pa (aQp A j)) (pr2 := fun j => va_up pa (aNp A) q_20 (aQp A j)) (fun j hj => va_up_ne _ _ (by have := (hI.2.2.2.2.2.1 j hj).1; omega))
    refine V.same (ws' := (CWd G o a (va_up (RP) (aNp A) (some (q_20))) RQ RU (sI S 11 (nI ((aNp A) + 1))) ++ (KWd G (a 4) (f 0) K0 ++ (KWd G (a 5) (f 1) K1 ++ (KWd G (a 6) (f 2) K2 ++ (ULd G 10 ua ub Us ++ (PLd G (aNp A + 1) (va_up pa (aNp A) q_20) (va_up pb (aNp A) u_24) (va_up Ps (aNp A) mZ) ++ (QLd G (aNq A) qa qb (fun j => va_up pa (aNp A) q_20 (aQp A j)) Zs)))))))) (by rw [← eP, ← eQ]; simp only [List.append_assoc]) ?_
    subst hQ
    exact v_iret (pc := 39) C dX4_program_39 (rfl) (((addP A), ((sI S 11 (nI ((aNp A) + 1))), K0, K1, K2, Us, va_up Ps (aNp A) mZ, Zs, (va_up (RP) (aNp A) (some (q_20))), RQ, va_up pa (aNp A) q_20, va_up pb (aNp A) u_24, qa, qb))) rfl (⟨by unfold s_program; rw [if_neg (by omega)], by unfold s_program; rw [if_neg (by omega)]; rfl, CAll_program hI hC⟩)
  · refine v_bipush (pc := 9) (v := (-2)) C dX4_program_9 (by decide) ?_
    refine V.wide (k := 7) (n := 129) (by decide) (by decide) ?_
    subst hQ
    exact v_iret (pc := 11) C dX4_program_11 (rfl) ((A, (S, K0, K1, K2, Us, Ps, Zs, RP, RQ, pa, pb, qa, qb))) rfl (⟨by unfold s_program; rw [if_pos (by omega)], by unfold s_program; rw [if_pos (by omega)], hC⟩)
def rmX4_isAskable : Room := { frames := 1, cells := 0, slots := 0, locals := 21 }
set_option maxHeartbeats 4000000 in
set_option maxRecDepth 100000 in
theorem kX4_isAskable (G : TG) (o : Nat) (b : Nat → Nat) (S : MS) (n : Nat) (hn : n ≤ 20) (en : mI S 7 = nI n) (k w : Int32) : CT G yX4_isAskable cX4_isAskable 3 (some .boolean) rmX4_isAskable 0 0 [.ref (o), .int (k), .int (w)] (PWd G o b S) (fun S : MS => PWd G o b S) (Ri (fun r S' => S' = S ∧ r = if ((k < 0 ∨ 2 < k) ∨ (w < 0 ∨ wl n k < w)) then 0 else 1)) := by
  refine CT.enter (by decide) (Nat.le_of_ble_eq_true rfl) (fun X C hnm => ?_)
  refine V.less [(0, .ref (o)), (1, .int (k)), (2, .int (w))] ⟨rfl, rfl, rfl, trivial⟩ ?_
  generalize hQ : (QX G X (fun S : MS => PWd G o b S) (Ri (fun r S' => S' = S ∧ r = if ((k < 0 ∨ 2 < k) ∨ (w < 0 ∨ wl n k < w)) then 0 else 1)) 0 0) = Qq
  refine v_iload_n (pc := 0) C dX4_isAskable_0 rfl ?_
  by_cases sw_1_0 : (k) = 0
  · refine v_cv (y := 0) sw_1_0 ?_
    refine v_tableIn (pc := 1) (tgt := 28) C dX4_isAskable_1 (by decide) (by decide) rfl (by decide) ?_
    refine v_iload_n (pc := 28) C dX4_isAskable_28 rfl ?_
    refine v_callS0 (pc := 29) (st := []) C (kX4_isVariable G _ w) ykX4_isVariable kw1_196 kw1_195 dX4_isAskable_29 rfl rfl rfl (by decide) (Nat.le_of_ble_eq_true rfl) (by decide) rfl (Ri_kk (fun r_29 u_29 h_29 => ?_))
    rcases (lim4 h_29) with ⟨q_29, rfl⟩ | ⟨q_29, rfl⟩
    · subst hQ
      exact v_iret (pc := 32) C dX4_isAskable_32 (rfl) (S) rfl (⟨rfl, by rw [sw_1_0, show wl n 0 = 3 from rfl]; rw [if_pos (Or.inr q_29)]⟩)
    · subst hQ
      exact v_iret (pc := 32) C dX4_isAskable_32 (rfl) (S) rfl (⟨rfl, by rw [sw_1_0, show wl n 0 = 3 from rfl]; rw [if_neg (fun z => z.elim (by decide) q_29)]⟩)
  by_cases sw_1_1 : (k) = 1
  · refine v_cv (y := 1) sw_1_1 ?_
    refine v_tableIn (pc := 1) (tgt := 33) C dX4_isAskable_1 (by decide) (by decide) rfl (by decide) ?_
    refine v_aload_n (pc := 33) C dX4_isAskable_33 rfl ?_
    refine v_iload_n (pc := 34) C dX4_isAskable_34 rfl ?_
    refine v_callVN0 (pc := 35) (st := []) (q0 := 0) C (kX1_hasLine G o b S w) ykX1_hasLine cvX1_hasLine nw_22 dX4_isAskable_35 rfl rfl rfl rfl rfl (by decide) (Nat.le_of_ble_eq_true rfl) (by decide) rfl (Ri_kk (fun r_35 u_35 h_35 => ?_))
    obtain ⟨e_35, h_35⟩ := h_35
    rw [e_35]
    rw [en] at h_35
    refine V.same (ws' := (PWd G o b S)) rfl ?_
    rcases (w01b h_35) with ⟨b_w, rfl⟩ | ⟨nb_w, rfl⟩
    · subst hQ
      exact v_iret (pc := 38) C dX4_isAskable_38 (rfl) (S) rfl (⟨rfl, by rw [sw_1_1, show wl n 1 = nI n - 1 from rfl]; rw [if_pos (Or.inr (b_w.imp id (wl_1 hn).mp))]⟩)
    · subst hQ
      exact v_iret (pc := 38) C dX4_isAskable_38 (rfl) (S) rfl (⟨rfl, by rw [sw_1_1, show wl n 1 = nI n - 1 from rfl]; rw [if_neg (fun z => z.elim (by decide) (fun y => nb_w (y.imp id (wl_1 hn).mpr)))]⟩)
  by_cases sw_1_2 : (k) = 2
  · refine v_cv (y := 2) sw_1_2 ?_
    refine v_tableIn (pc := 1) (tgt := 39) C dX4_isAskable_1 (by decide) (by decide) rfl (by decide) ?_
    refine v_iload_n (pc := 39) C dX4_isAskable_39 rfl ?_
    refine v_callS0 (pc := 40) (st := []) C (kX4_isCell G _ w) ykX4_isCell kw1_199 kw1_198 dX4_isAskable_40 rfl rfl rfl (by decide) (Nat.le_of_ble_eq_true rfl) (by decide) rfl (Ri_kk (fun r_40 u_40 h_40 => ?_))
    rcases (lim8 h_40) with ⟨q_40, rfl⟩ | ⟨q_40, rfl⟩
    · subst hQ
      exact v_iret (pc := 43) C dX4_isAskable_43 (rfl) (S) rfl (⟨rfl, by rw [sw_1_2, show wl n 2 = 7 from rfl]; rw [if_pos (Or.inr q_40)]⟩)
    · subst hQ
      exact v_iret (pc := 43) C dX4_isAskable_43 (rfl) (S) rfl (⟨rfl, by rw [sw_1_2, show wl n 2 = 7 from rfl]; rw [if_neg (fun z => z.elim (by decide) q_40)]⟩)
  have so_1 : (k).toInt < 0 ∨ 2 < (k).toInt := by
    refine sw_out (fun v h1 h2 h3 => ?_)
    rcases (show v = 0 ∨ v = 1 ∨ v = 2 by omega) with rfl | rfl | rfl
    · exact sw_1_0 (Int32.toInt_inj.mp h3)
    · exact sw_1_1 (Int32.toInt_inj.mp h3)
    · exact sw_1_2 (Int32.toInt_inj.mp h3)
  refine v_tableOut (pc := 1) (tgt := 44) C dX4_isAskable_1 so_1 (by decide) ?_
  refine v_iconst (pc := 44) (v := 0) C dX4_isAskable_44 (by decide) ?_
  subst hQ
  exact v_iret (pc := 45) C dX4_isAskable_45 (rfl) (S) rfl (⟨rfl, by rw [if_pos (Or.inl (k02 sw_1_0 sw_1_1 sw_1_2))]⟩)
def rmX4_question : Room := { frames := 3, cells := 2, slots := 70, locals := 72 }
set_option maxHeartbeats 4000000 in
set_option maxRecDepth 100000 in
theorem kX4_question (G : TG) (o : Nat) (a : Nat → Nat) (f : Nat → Nat → Nat) (ua : Nat → Nat) (ub : Nat → Nat → Nat) (RP RQ RU : Nat → Option Nat) (S K0 K1 K2 : MS) (Us Ps Zs : Nat → MS) (pa qa : Nat → Nat) (pb qb : Nat → Nat → Nat) (A : AS) (hI : AInv A) (hC : CAll A RP RQ RU ua pa qa S K0 Us Ps Zs) (p n k w : Int32) : CT G yX4_question cX4_question 6 (some .int) rmX4_question 2 70 [.ref (o), .int (p), .int (n), .int (k), .int (w)] (CWd G o a RP RQ RU S ++ (KWd G (a 4) (f 0) K0 ++ (KWd G (a 5) (f 1) K1 ++ (KWd G (a 6) (f 2) K2 ++ (ULd G 10 ua ub Us ++ (PLd G (aNp A) pa pb Ps ++ (QLd G (aNq A) qa qb (fun j => pa (aQp A j)) Zs))))))) (fun u : AS × DS => DWd G o a f ua ub RU u.1 u.2) (Ri (fun r δ => r = (s_question A p n k w).1 ∧ δ.1 = (s_question A p n k w).2 ∧ CRel δ.1 RU ua δ.2)) := by
  refine CT.enter (by decide) (Nat.le_of_ble_eq_true rfl) (fun X C hnm => ?_)
  refine V.less [(0, .ref (o)), (1, .int (p)), (2, .int (n)), (3, .int (k)), (4, .int (w))] ⟨rfl, rfl, rfl, rfl, rfl, trivial⟩ ?_
  generalize hQ : (QX G X (fun u : AS × DS => DWd G o a f ua ub RU u.1 u.2) (Ri (fun r δ => r = (s_question A p n k w).1 ∧ δ.1 = (s_question A p n k w).2 ∧ CRel δ.1 RU ua δ.2)) 2 70) = Qq
  have hnp := hI.1
  have hnq := hI.2.2.2.2.1
  obtain ⟨hS, hP, hA, hU, hRP, hRQ, hRU⟩ := id hC
  refine v_aload_n (pc := 0) C dX4_question_0 rfl ?_
  refine v_iload_n (pc := 1) C dX4_question_1 rfl ?_
  refine V.perm (ws' := (KWd G (a 4) (f 0) K0 ++ (KWd G (a 5) (f 1) K1 ++ (KWd G (a 6) (f 2) K2 ++ (ULd G 10 ua ub Us ++ (PLd G (aNp A) pa pb Ps ++ (QLd G (aNq A) qa qb (fun j => pa (aQp A j)) Zs ++ (CWd G o a RP RQ RU S)))))))) ((List.perm_append_comm).trans (List.Perm.of_eq (by simp only [List.append_assoc]))) ?_
  refine V.same (ws' := (KWd G (a 4) (f 0) K0 ++ (KWd G (a 5) (f 1) K1 ++ (KWd G (a 6) (f 2) K2 ++ (ULd G 10 ua ub Us ++ (PLd G (aNp A) pa pb Ps ++ (QLd G (aNq A) qa qb (fun j => pa (aQp A j)) Zs)))))) ++ (CWd G o a RP RQ RU S)) (by simp only [List.append_assoc]) ?_
  refine v_callV (pc := 2) (st := []) (q0 := 0) (wr := (KWd G (a 4) (f 0) K0 ++ (KWd G (a 5) (f 1) K1 ++ (KWd G (a 6) (f 2) K2 ++ (ULd G 10 ua ub Us ++ (PLd G (aNp A) pa pb Ps ++ (QLd G (aNq A) qa qb (fun j => pa (aQp A j)) Zs))))))) C (kX4_programAt G o a RP RQ RU S p (aNp A) hI.1 hS.1.1) ykX4_programAt cvX4_programAt kw1_188 dX4_question_2 rfl rfl rfl rfl rfl (by decide) (Nat.le_of_ble_eq_true rfl) (by decide) rfl (Rq_kk (fun r_2 u_2 h_2 => ?_))
  obtain ⟨e_2, h_2⟩ := h_2
  rw [e_2]
  refine V.same (ws' := (KWd G (a 4) (f 0) K0 ++ (KWd G (a 5) (f 1) K1 ++ (KWd G (a 6) (f 2) K2 ++ (ULd G 10 ua ub Us ++ (PLd G (aNp A) pa pb Ps ++ (QLd G (aNq A) qa qb (fun j => pa (aQp A j)) Zs ++ (CWd G o a RP RQ RU S)))))))) (by simp only [List.append_assoc]) ?_
  refine V.perm (ws' := (KWd G (a 5) (f 1) K1 ++ (KWd G (a 6) (f 2) K2 ++ (ULd G 10 ua ub Us ++ (PLd G (aNp A) pa pb Ps ++ (QLd G (aNq A) qa qb (fun j => pa (aQp A j)) Zs ++ (CWd G o a RP RQ RU S ++ (KWd G (a 4) (f 0) K0)))))))) ((List.perm_append_comm).trans (List.Perm.of_eq (by simp only [List.append_assoc]))) ?_
  refine V.perm (ws' := (KWd G (a 6) (f 2) K2 ++ (ULd G 10 ua ub Us ++ (PLd G (aNp A) pa pb Ps ++ (QLd G (aNq A) qa qb (fun j => pa (aQp A j)) Zs ++ (CWd G o a RP RQ RU S ++ (KWd G (a 4) (f 0) K0 ++ (KWd G (a 5) (f 1) K1)))))))) ((List.perm_append_comm).trans (List.Perm.of_eq (by simp only [List.append_assoc]))) ?_
  refine V.perm (ws' := (ULd G 10 ua ub Us ++ (PLd G (aNp A) pa pb Ps ++ (QLd G (aNq A) qa qb (fun j => pa (aQp A j)) Zs ++ (CWd G o a RP RQ RU S ++ (KWd G (a 4) (f 0) K0 ++ (KWd G (a 5) (f 1) K1 ++ (KWd G (a 6) (f 2) K2)))))))) ((List.perm_append_comm).trans (List.Perm.of_eq (by simp only [List.append_assoc]))) ?_
  refine V.perm (ws' := (PLd G (aNp A) pa pb Ps ++ (QLd G (aNq A) qa qb (fun j => pa (aQp A j)) Zs ++ (CWd G o a RP RQ RU S ++ (KWd G (a 4) (f 0) K0 ++ (KWd G (a 5) (f 1) K1 ++ (KWd G (a 6) (f 2) K2 ++ (ULd G 10 ua ub Us)))))))) ((List.perm_append_comm).trans (List.Perm.of_eq (by simp only [List.append_assoc]))) ?_
  refine V.perm (ws' := (QLd G (aNq A) qa qb (fun j => pa (aQp A j)) Zs ++ (CWd G o a RP RQ RU S ++ (KWd G (a 4) (f 0) K0 ++ (KWd G (a 5) (f 1) K1 ++ (KWd G (a 6) (f 2) K2 ++ (ULd G 10 ua ub Us ++ (PLd G (aNp A) pa pb Ps)))))))) ((List.perm_append_comm).trans (List.Perm.of_eq (by simp only [List.append_assoc]))) ?_
  refine V.perm (ws' := (CWd G o a RP RQ RU S ++ (KWd G (a 4) (f 0) K0 ++ (KWd G (a 5) (f 1) K1 ++ (KWd G (a 6) (f 2) K2 ++ (ULd G 10 ua ub Us ++ (PLd G (aNp A) pa pb Ps ++ (QLd G (aNq A) qa qb (fun j => pa (aQp A j)) Zs)))))))) ((List.perm_append_comm).trans (List.Perm.of_eq (by simp only [List.append_assoc]))) ?_
  rcases h_2 with ⟨b_p, rfl⟩ | ⟨j, hj, rfl, rfl⟩
  · refine v_rfn rfl ?_
    refine v_astoreN (pc := 5) C dX4_question_5 (by decide) ?_
    refine v_aloadN (pc := 7) C dX4_question_7 rfl ?_
    refine v_ifnullN (pc := 9) (tgt := 30) C dX4_question_9 (by decide) ?_
    refine v_iconst (pc := 30) (v := (-1)) C dX4_question_30 (by decide) ?_
    refine V.wide (k := 2) (n := 70) (by decide) (by decide) ?_
    subst hQ
    exact v_iret (pc := 31) C dX4_question_31 (rfl) ((A, (S, K0, K1, K2, Us, Ps, Zs, RP, RQ, pa, pb, qa, qb))) rfl (⟨by unfold s_question; rw [if_pos b_p], by unfold s_question; rw [if_pos b_p], hC⟩)
  · refine v_rfs (hRP j hj) ?_
    refine V.perm (ws' := (CWd G o a RP RQ RU S ++ (KWd G (a 4) (f 0) K0 ++ (KWd G (a 5) (f 1) K1 ++ (KWd G (a 6) (f 2) K2 ++ (ULd G 10 ua ub Us ++ (PLx G (aNp A) pa pb Ps j ++ (PWd G (pa j) (pb j) (Ps j) ++ (QLd G (aNq A) qa qb (fun j => pa (aQp A j)) Zs))))))))) ((List.Perm.append_left _ (List.Perm.append_left _ (List.Perm.append_left _ (List.Perm.append_left _ (List.Perm.append_left _ (List.Perm.append_right _ (PL_focus hj))))))).trans (List.Perm.of_eq (by simp only [List.append_assoc]))) ?_
    refine V.perm (ws' := (CWd G o a RP RQ RU S ++ (KWd G (a 4) (f 0) K0 ++ (KWd G (a 5) (f 1) K1 ++ (KWd G (a 6) (f 2) K2 ++ (PLx G (aNp A) pa pb Ps j ++ (PWd G (pa j) (pb j) (Ps j) ++ (QLd G (aNq A) qa qb (fun j => pa (aQp A j)) Zs ++ (ULd G 10 ua ub Us))))))))) ((List.Perm.append_left _ (List.Perm.append_left _ (List.Perm.append_left _ (List.Perm.append_left _ (List.perm_append_comm))))).trans (List.Perm.of_eq (by simp only [List.append_assoc]))) ?_
    refine V.perm (ws' := (CWd G o a RP RQ RU S ++ (KWd G (a 4) (f 0) K0 ++ (KWd G (a 5) (f 1) K1 ++ (KWd G (a 6) (f 2) K2 ++ (PWd G (pa j) (pb j) (Ps j) ++ (QLd G (aNq A) qa qb (fun j => pa (aQp A j)) Zs ++ (ULd G 10 ua ub Us ++ (PLx G (aNp A) pa pb Ps j))))))))) ((List.Perm.append_left _ (List.Perm.append_left _ (List.Perm.append_left _ (List.Perm.append_left _ (List.perm_append_comm))))).trans (List.Perm.of_eq (by simp only [List.append_assoc]))) ?_
    refine V.perm (ws' := (CWd G o a RP RQ RU S ++ (KWd G (a 4) (f 0) K0 ++ (KWd G (a 5) (f 1) K1 ++ (KWd G (a 6) (f 2) K2 ++ (PWd G (pa j) (pb j) (Ps j) ++ (ULd G 10 ua ub Us ++ (PLx G (aNp A) pa pb Ps j ++ (QLd G (aNq A) qa qb (fun j => pa (aQp A j)) Zs))))))))) ((List.Perm.append_left _ (List.Perm.append_left _ (List.Perm.append_left _ (List.Perm.append_left _ (List.Perm.append_left _ (List.perm_append_comm)))))).trans (List.Perm.of_eq (by simp only [List.append_assoc]))) ?_
    refine v_astore (pc := 5) C dX4_question_5 (by decide) ?_
    refine v_aload (pc := 7) C dX4_question_7 rfl ?_
    refine v_ifnull (pc := 9) C dX4_question_9 ?_
    refine v_iload_n (pc := 12) C dX4_question_12 rfl ?_
    refine v_callS0 (pc := 13) (st := []) C (kX4_isInput G _ n) ykX4_isInput kw1_230 kw1_229 dX4_question_13 rfl rfl rfl (by decide) (Nat.le_of_ble_eq_true rfl) (by decide) rfl (Ri_kk (fun r_13 u_13 h_13 => ?_))
    rcases (lim10 h_13) with ⟨q_13, rfl⟩ | ⟨q_13, rfl⟩
    · refine v_if_eqT (pc := 16) (tgt := 30) C (by decide) dX4_question_16 (by decide) ?_
      refine v_iconst (pc := 30) (v := (-1)) C dX4_question_30 (by decide) ?_
      refine V.perm (ws' := (CWd G o a RP RQ RU S ++ (KWd G (a 4) (f 0) K0 ++ (KWd G (a 5) (f 1) K1 ++ (KWd G (a 6) (f 2) K2 ++ (PWd G (pa j) (pb j) (Ps j) ++ (ULd G 10 ua ub Us ++ (QLd G (aNq A) qa qb (fun j => pa (aQp A j)) Zs ++ (PLx G (aNp A) pa pb Ps j))))))))) ((List.Perm.append_left _ (List.Perm.append_left _ (List.Perm.append_left _ (List.Perm.append_left _ (List.Perm.append_left _ (List.Perm.append_left _ (List.perm_append_comm))))))).trans (List.Perm.of_eq (by simp only [List.append_assoc]))) ?_
      refine V.perm (ws' := (CWd G o a RP RQ RU S ++ (KWd G (a 4) (f 0) K0 ++ (KWd G (a 5) (f 1) K1 ++ (KWd G (a 6) (f 2) K2 ++ (ULd G 10 ua ub Us ++ (QLd G (aNq A) qa qb (fun j => pa (aQp A j)) Zs ++ (PLx G (aNp A) pa pb Ps j ++ (PWd G (pa j) (pb j) (Ps j)))))))))) ((List.Perm.append_left _ (List.Perm.append_left _ (List.Perm.append_left _ (List.Perm.append_left _ (List.perm_append_comm))))).trans (List.Perm.of_eq (by simp only [List.append_assoc]))) ?_
      refine V.perm (ws' := (CWd G o a RP RQ RU S ++ (KWd G (a 4) (f 0) K0 ++ (KWd G (a 5) (f 1) K1 ++ (KWd G (a 6) (f 2) K2 ++ (ULd G 10 ua ub Us ++ (QLd G (aNq A) qa qb (fun j => pa (aQp A j)) Zs ++ (PLd G (aNp A) pa pb Ps)))))))) (List.Perm.append_left _ (List.Perm.append_left _ (List.Perm.append_left _ (List.Perm.append_left _ (List.Perm.append_left _ (List.Perm.append_left _ (PL_same hj))))))) ?_
      refine V.perm (ws' := (CWd G o a RP RQ RU S ++ (KWd G (a 4) (f 0) K0 ++ (KWd G (a 5) (f 1) K1 ++ (KWd G (a 6) (f 2) K2 ++ (ULd G 10 ua ub Us ++ (PLd G (aNp A) pa pb Ps ++ (QLd G (aNq A) qa qb (fun j => pa (aQp A j)) Zs)))))))) ((List.Perm.append_left _ (List.Perm.append_left _ (List.Perm.append_left _ (List.Perm.append_left _ (List.Perm.append_left _ (List.perm_append_comm)))))).trans (List.Perm.of_eq (by simp only [List.append_assoc]))) ?_
      refine V.wide (k := 2) (n := 70) (by decide) (by decide) ?_
      subst hQ
      exact v_iret (pc := 31) C dX4_question_31 (rfl) ((A, (S, K0, K1, K2, Us, Ps, Zs, RP, RQ, pa, pb, qa, qb))) rfl (⟨by unfold s_question; rw [if_neg (nbad hj (by omega)), if_pos q_13], by unfold s_question; rw [if_neg (nbad hj (by omega)), if_pos q_13], hC⟩)
    · refine v_if_eqF (pc := 16) (tgt := 30) C (by decide) dX4_question_16 (by decide) ?_
      refine v_aload (pc := 19) C dX4_question_19 rfl ?_
      refine v_iload_n (pc := 21) C dX4_question_21 rfl ?_
      refine v_iload (pc := 22) C dX4_question_22 rfl ?_
      refine V.perm (ws' := (CWd G o a RP RQ RU S ++ (KWd G (a 4) (f 0) K0 ++ (KWd G (a 5) (f 1) K1 ++ (KWd G (a 6) (f 2) K2 ++ (ULd G 10 ua ub Us ++ (PLx G (aNp A) pa pb Ps j ++ (QLd G (aNq A) qa qb (fun j => pa (aQp A j)) Zs ++ (PWd G (pa j) (pb j) (Ps j)))))))))) ((List.Perm.append_left _ (List.Perm.append_left _ (List.Perm.append_left _ (List.Perm.append_left _ (List.perm_append_comm))))).trans (List.Perm.of_eq (by simp only [List.append_assoc]))) ?_
      refine V.same (ws' := (CWd G o a RP RQ RU S ++ (KWd G (a 4) (f 0) K0 ++ (KWd G (a 5) (f 1) K1 ++ (KWd G (a 6) (f 2) K2 ++ (ULd G 10 ua ub Us ++ (PLx G (aNp A) pa pb Ps j ++ (QLd G (aNq A) qa qb (fun j => pa (aQp A j)) Zs))))))) ++ (PWd G (pa j) (pb j) (Ps j))) (by simp only [List.append_assoc]) ?_
      refine v_callS (pc := 24) (st := []) (wr := (CWd G o a RP RQ RU S ++ (KWd G (a 4) (f 0) K0 ++ (KWd G (a 5) (f 1) K1 ++ (KWd G (a 6) (f 2) K2 ++ (ULd G 10 ua ub Us ++ (PLx G (aNp A) pa pb Ps j ++ (QLd G (aNq A) qa qb (fun j => pa (aQp A j)) Zs)))))))) C (kX4_isAskable G (pa j) (pb j) (Ps j) (aN A j) (hI.2.1 j) (hP j hj).1.1.1 k w) ykX4_isAskable kw2_53 kw2_52 dX4_question_24 rfl rfl rfl (by decide) (Nat.le_of_ble_eq_true rfl) (by decide) rfl (Ri_kk (fun r_24 u_24 h_24 => ?_))
      obtain ⟨e_24, h_24⟩ := h_24
      rw [e_24]
      have h_24 : r_24 = if ((k < 0 ∨ 2 < k) ∨ (w < 0 ∨ wlim A j k < w)) then 0 else 1 := h_24
      refine V.same (ws' := (CWd G o a RP RQ RU S ++ (KWd G (a 4) (f 0) K0 ++ (KWd G (a 5) (f 1) K1 ++ (KWd G (a 6) (f 2) K2 ++ (ULd G 10 ua ub Us ++ (PLx G (aNp A) pa pb Ps j ++ (QLd G (aNq A) qa qb (fun j => pa (aQp A j)) Zs ++ (PWd G (pa j) (pb j) (Ps j)))))))))) (by simp only [List.append_assoc]) ?_
      refine V.perm (ws' := (CWd G o a RP RQ RU S ++ (KWd G (a 4) (f 0) K0 ++ (KWd G (a 5) (f 1) K1 ++ (KWd G (a 6) (f 2) K2 ++ (PLx G (aNp A) pa pb Ps j ++ (QLd G (aNq A) qa qb (fun j => pa (aQp A j)) Zs ++ (PWd G (pa j) (pb j) (Ps j) ++ (ULd G 10 ua ub Us))))))))) ((List.Perm.append_left _ (List.Perm.append_left _ (List.Perm.append_left _ (List.Perm.append_left _ (List.perm_append_comm))))).trans (List.Perm.of_eq (by simp only [List.append_assoc]))) ?_
      refine V.perm (ws' := (CWd G o a RP RQ RU S ++ (KWd G (a 4) (f 0) K0 ++ (KWd G (a 5) (f 1) K1 ++ (KWd G (a 6) (f 2) K2 ++ (QLd G (aNq A) qa qb (fun j => pa (aQp A j)) Zs ++ (PWd G (pa j) (pb j) (Ps j) ++ (ULd G 10 ua ub Us ++ (PLx G (aNp A) pa pb Ps j))))))))) ((List.Perm.append_left _ (List.Perm.append_left _ (List.Perm.append_left _ (List.Perm.append_left _ (List.perm_append_comm))))).trans (List.Perm.of_eq (by simp only [List.append_assoc]))) ?_
      refine V.perm (ws' := (CWd G o a RP RQ RU S ++ (KWd G (a 4) (f 0) K0 ++ (KWd G (a 5) (f 1) K1 ++ (KWd G (a 6) (f 2) K2 ++ (PWd G (pa j) (pb j) (Ps j) ++ (ULd G 10 ua ub Us ++ (PLx G (aNp A) pa pb Ps j ++ (QLd G (aNq A) qa qb (fun j => pa (aQp A j)) Zs))))))))) ((List.Perm.append_left _ (List.Perm.append_left _ (List.Perm.append_left _ (List.Perm.append_left _ (List.perm_append_comm))))).trans (List.Perm.of_eq (by simp only [List.append_assoc]))) ?_
      rcases (ask01 h_24) with ⟨q_24, rfl⟩ | ⟨q_24, rfl⟩
      · refine v_if_neF (pc := 27) (tgt := 32) C (by decide) dX4_question_27 (by decide) ?_
        refine v_iconst (pc := 30) (v := (-1)) C dX4_question_30 (by decide) ?_
        refine V.perm (ws' := (CWd G o a RP RQ RU S ++ (KWd G (a 4) (f 0) K0 ++ (KWd G (a 5) (f 1) K1 ++ (KWd G (a 6) (f 2) K2 ++ (PWd G (pa j) (pb j) (Ps j) ++ (ULd G 10 ua ub Us ++ (QLd G (aNq A) qa qb (fun j => pa (aQp A j)) Zs ++ (PLx G (aNp A) pa pb Ps j))))))))) ((List.Perm.append_left _ (List.Perm.append_left _ (List.Perm.append_left _ (List.Perm.append_left _ (List.Perm.append_left _ (List.Perm.append_left _ (List.perm_append_comm))))))).trans (List.Perm.of_eq (by simp only [List.append_assoc]))) ?_
        refine V.perm (ws' := (CWd G o a RP RQ RU S ++ (KWd G (a 4) (f 0) K0 ++ (KWd G (a 5) (f 1) K1 ++ (KWd G (a 6) (f 2) K2 ++ (ULd G 10 ua ub Us ++ (QLd G (aNq A) qa qb (fun j => pa (aQp A j)) Zs ++ (PLx G (aNp A) pa pb Ps j ++ (PWd G (pa j) (pb j) (Ps j)))))))))) ((List.Perm.append_left _ (List.Perm.append_left _ (List.Perm.append_left _ (List.Perm.append_left _ (List.perm_append_comm))))).trans (List.Perm.of_eq (by simp only [List.append_assoc]))) ?_
        refine V.perm (ws' := (CWd G o a RP RQ RU S ++ (KWd G (a 4) (f 0) K0 ++ (KWd G (a 5) (f 1) K1 ++ (KWd G (a 6) (f 2) K2 ++ (ULd G 10 ua ub Us ++ (QLd G (aNq A) qa qb (fun j => pa (aQp A j)) Zs ++ (PLd G (aNp A) pa pb Ps)))))))) (List.Perm.append_left _ (List.Perm.append_left _ (List.Perm.append_left _ (List.Perm.append_left _ (List.Perm.append_left _ (List.Perm.append_left _ (PL_same hj))))))) ?_
        refine V.perm (ws' := (CWd G o a RP RQ RU S ++ (KWd G (a 4) (f 0) K0 ++ (KWd G (a 5) (f 1) K1 ++ (KWd G (a 6) (f 2) K2 ++ (ULd G 10 ua ub Us ++ (PLd G (aNp A) pa pb Ps ++ (QLd G (aNq A) qa qb (fun j => pa (aQp A j)) Zs)))))))) ((List.Perm.append_left _ (List.Perm.append_left _ (List.Perm.append_left _ (List.Perm.append_left _ (List.Perm.append_left _ (List.perm_append_comm)))))).trans (List.Perm.of_eq (by simp only [List.append_assoc]))) ?_
        refine V.wide (k := 2) (n := 70) (by decide) (by decide) ?_
        subst hQ
        exact v_iret (pc := 31) C dX4_question_31 (rfl) ((A, (S, K0, K1, K2, Us, Ps, Zs, RP, RQ, pa, pb, qa, qb))) rfl (⟨by rw [q_bad hj hI.1 rfl q_13 q_24], by rw [q_bad hj hI.1 rfl q_13 q_24], hC⟩)
      · refine v_if_neT (pc := 27) (tgt := 32) C (by decide) dX4_question_27 (by decide) ?_
        refine v_aload (pc := 32) C dX4_question_32 rfl ?_
        refine V.perm (ws' := (CWd G o a RP RQ RU S ++ (KWd G (a 4) (f 0) K0 ++ (KWd G (a 5) (f 1) K1 ++ (KWd G (a 6) (f 2) K2 ++ (ULd G 10 ua ub Us ++ (PLx G (aNp A) pa pb Ps j ++ (QLd G (aNq A) qa qb (fun j => pa (aQp A j)) Zs ++ (PWd G (pa j) (pb j) (Ps j)))))))))) ((List.Perm.append_left _ (List.Perm.append_left _ (List.Perm.append_left _ (List.Perm.append_left _ (List.perm_append_comm))))).trans (List.Perm.of_eq (by simp only [List.append_assoc]))) ?_
        refine V.same (ws' := (CWd G o a RP RQ RU S ++ (KWd G (a 4) (f 0) K0 ++ (KWd G (a 5) (f 1) K1 ++ (KWd G (a 6) (f 2) K2 ++ (ULd G 10 ua ub Us ++ (PLx G (aNp A) pa pb Ps j ++ (QLd G (aNq A) qa qb (fun j => pa (aQp A j)) Zs))))))) ++ (PWd G (pa j) (pb j) (Ps j))) (by simp only [List.append_assoc]) ?_
        refine v_callVN (pc := 34) (st := []) (q0 := 0) (wr := (CWd G o a RP RQ RU S ++ (KWd G (a 4) (f 0) K0 ++ (KWd G (a 5) (f 1) K1 ++ (KWd G (a 6) (f 2) K2 ++ (ULd G 10 ua ub Us ++ (PLx G (aNp A) pa pb Ps j ++ (QLd G (aNq A) qa qb (fun j => pa (aQp A j)) Zs)))))))) C (kX1_isWhole G (pa j) (pb j) (Ps j)) ykX1_isWhole cvX1_isWhole nw_20 dX4_question_34 rfl rfl rfl rfl rfl (by decide) (Nat.le_of_ble_eq_true rfl) (by decide) rfl (Ri_kk (fun r_34 u_34 h_34 => ?_))
        obtain ⟨e_34, h_34⟩ := h_34
        rw [e_34]
        rw [(hP j hj).1.2.2.1] at h_34
        refine V.same (ws' := (CWd G o a RP RQ RU S ++ (KWd G (a 4) (f 0) K0 ++ (KWd G (a 5) (f 1) K1 ++ (KWd G (a 6) (f 2) K2 ++ (ULd G 10 ua ub Us ++ (PLx G (aNp A) pa pb Ps j ++ (QLd G (aNq A) qa qb (fun j => pa (aQp A j)) Zs ++ (PWd G (pa j) (pb j) (Ps j)))))))))) (by simp only [List.append_assoc]) ?_
        refine V.perm (ws' := (CWd G o a RP RQ RU S ++ (KWd G (a 4) (f 0) K0 ++ (KWd G (a 5) (f 1) K1 ++ (KWd G (a 6) (f 2) K2 ++ (PLx G (aNp A) pa pb Ps j ++ (QLd G (aNq A) qa qb (fun j => pa (aQp A j)) Zs ++ (PWd G (pa j) (pb j) (Ps j) ++ (ULd G 10 ua ub Us))))))))) ((List.Perm.append_left _ (List.Perm.append_left _ (List.Perm.append_left _ (List.Perm.append_left _ (List.perm_append_comm))))).trans (List.Perm.of_eq (by simp only [List.append_assoc]))) ?_
        refine V.perm (ws' := (CWd G o a RP RQ RU S ++ (KWd G (a 4) (f 0) K0 ++ (KWd G (a 5) (f 1) K1 ++ (KWd G (a 6) (f 2) K2 ++ (QLd G (aNq A) qa qb (fun j => pa (aQp A j)) Zs ++ (PWd G (pa j) (pb j) (Ps j) ++ (ULd G 10 ua ub Us ++ (PLx G (aNp A) pa pb Ps j))))))))) ((List.Perm.append_left _ (List.Perm.append_left _ (List.Perm.append_left _ (List.Perm.append_left _ (List.perm_append_comm))))).trans (List.Perm.of_eq (by simp only [List.append_assoc]))) ?_
        refine V.perm (ws' := (CWd G o a RP RQ RU S ++ (KWd G (a 4) (f 0) K0 ++ (KWd G (a 5) (f 1) K1 ++ (KWd G (a 6) (f 2) K2 ++ (PWd G (pa j) (pb j) (Ps j) ++ (ULd G 10 ua ub Us ++ (PLx G (aNp A) pa pb Ps j ++ (QLd G (aNq A) qa qb (fun j => pa (aQp A j)) Zs))))))))) ((List.Perm.append_left _ (List.Perm.append_left _ (List.Perm.append_left _ (List.Perm.append_left _ (List.perm_append_comm))))).trans (List.Perm.of_eq (by simp only [List.append_assoc]))) ?_
        rcases (wh01 (dp_le20 hI hj) h_34) with ⟨q_34, rfl⟩ | ⟨q_34, rfl⟩
        · refine v_if_neF (pc := 37) (tgt := 43) C (by decide) dX4_question_37 (by decide) ?_
          refine v_bipush (pc := 40) (v := (-3)) C dX4_question_40 (by decide) ?_
          refine V.perm (ws' := (CWd G o a RP RQ RU S ++ (KWd G (a 4) (f 0) K0 ++ (KWd G (a 5) (f 1) K1 ++ (KWd G (a 6) (f 2) K2 ++ (PWd G (pa j) (pb j) (Ps j) ++ (ULd G 10 ua ub Us ++ (QLd G (aNq A) qa qb (fun j => pa (aQp A j)) Zs ++ (PLx G (aNp A) pa pb Ps j))))))))) ((List.Perm.append_left _ (List.Perm.append_left _ (List.Perm.append_left _ (List.Perm.append_left _ (List.Perm.append_left _ (List.Perm.append_left _ (List.perm_append_comm))))))).trans (List.Perm.of_eq (by simp only [List.append_assoc]))) ?_
          refine V.perm (ws' := (CWd G o a RP RQ RU S ++ (KWd G (a 4) (f 0) K0 ++ (KWd G (a 5) (f 1) K1 ++ (KWd G (a 6) (f 2) K2 ++ (ULd G 10 ua ub Us ++ (QLd G (aNq A) qa qb (fun j => pa (aQp A j)) Zs ++ (PLx G (aNp A) pa pb Ps j ++ (PWd G (pa j) (pb j) (Ps j)))))))))) ((List.Perm.append_left _ (List.Perm.append_left _ (List.Perm.append_left _ (List.Perm.append_left _ (List.perm_append_comm))))).trans (List.Perm.of_eq (by simp only [List.append_assoc]))) ?_
          refine V.perm (ws' := (CWd G o a RP RQ RU S ++ (KWd G (a 4) (f 0) K0 ++ (KWd G (a 5) (f 1) K1 ++ (KWd G (a 6) (f 2) K2 ++ (ULd G 10 ua ub Us ++ (QLd G (aNq A) qa qb (fun j => pa (aQp A j)) Zs ++ (PLd G (aNp A) pa pb Ps)))))))) (List.Perm.append_left _ (List.Perm.append_left _ (List.Perm.append_left _ (List.Perm.append_left _ (List.Perm.append_left _ (List.Perm.append_left _ (PL_same hj))))))) ?_
          refine V.perm (ws' := (CWd G o a RP RQ RU S ++ (KWd G (a 4) (f 0) K0 ++ (KWd G (a 5) (f 1) K1 ++ (KWd G (a 6) (f 2) K2 ++ (ULd G 10 ua ub Us ++ (PLd G (aNp A) pa pb Ps ++ (QLd G (aNq A) qa qb (fun j => pa (aQp A j)) Zs)))))))) ((List.Perm.append_left _ (List.Perm.append_left _ (List.Perm.append_left _ (List.Perm.append_left _ (List.Perm.append_left _ (List.perm_append_comm)))))).trans (List.Perm.of_eq (by simp only [List.append_assoc]))) ?_
          refine V.wide (k := 2) (n := 70) (by decide) (by decide) ?_
          subst hQ
          exact v_iret (pc := 42) C dX4_question_42 (rfl) ((A, (S, K0, K1, K2, Us, Ps, Zs, RP, RQ, pa, pb, qa, qb))) rfl (⟨by unfold s_question; rw [if_neg (nbad hj (by omega)), if_neg q_13, tn_nI (n := j) (by omega), if_neg (fun z => q_24 (Or.inl z)), if_neg (fun z => q_24 (Or.inr z)), if_pos q_34], by unfold s_question; rw [if_neg (nbad hj (by omega)), if_neg q_13, tn_nI (n := j) (by omega), if_neg (fun z => q_24 (Or.inl z)), if_neg (fun z => q_24 (Or.inr z)), if_pos q_34], hC⟩)
        · refine v_if_neT (pc := 37) (tgt := 43) C (by decide) dX4_question_37 (by decide) ?_
          refine v_aload_n (pc := 43) C dX4_question_43 rfl ?_
          refine v_get (pc := 44) (v := .ref ((a 5))) C inX4 0 rfl rfl 5 (by decide) kw1_87 rfl dX4_question_44 ?_
          refine v_aload (pc := 47) C dX4_question_47 rfl ?_
          refine v_iload_n (pc := 49) C dX4_question_49 rfl ?_
          refine v_iconst (pc := 50) (v := 0) C dX4_question_50 (by decide) ?_
          refine V.perm (ws' := (CWd G o a RP RQ RU S ++ (KWd G (a 4) (f 0) K0 ++ (KWd G (a 5) (f 1) K1 ++ (KWd G (a 6) (f 2) K2 ++ (ULd G 10 ua ub Us ++ (PLx G (aNp A) pa pb Ps j ++ (QLd G (aNq A) qa qb (fun j => pa (aQp A j)) Zs ++ (PWd G (pa j) (pb j) (Ps j)))))))))) ((List.Perm.append_left _ (List.Perm.append_left _ (List.Perm.append_left _ (List.Perm.append_left _ (List.perm_append_comm))))).trans (List.Perm.of_eq (by simp only [List.append_assoc]))) ?_
          refine V.perm (ws' := (CWd G o a RP RQ RU S ++ (KWd G (a 4) (f 0) K0 ++ (KWd G (a 6) (f 2) K2 ++ (ULd G 10 ua ub Us ++ (PLx G (aNp A) pa pb Ps j ++ (QLd G (aNq A) qa qb (fun j => pa (aQp A j)) Zs ++ (PWd G (pa j) (pb j) (Ps j) ++ (KWd G (a 5) (f 1) K1))))))))) ((List.Perm.append_left _ (List.Perm.append_left _ (List.perm_append_comm))).trans (List.Perm.of_eq (by simp only [List.append_assoc]))) ?_
          refine V.same (ws' := (CWd G o a RP RQ RU S ++ (KWd G (a 4) (f 0) K0 ++ (KWd G (a 6) (f 2) K2 ++ (ULd G 10 ua ub Us ++ (PLx G (aNp A) pa pb Ps j ++ (QLd G (aNq A) qa qb (fun j => pa (aQp A j)) Zs)))))) ++ (PWd G (pa j) (pb j) (Ps j) ++ (KWd G (a 5) (f 1) K1))) (by simp only [List.append_assoc]) ?_
          refine v_callVN (pc := 51) (st := []) (q0 := 7) (wr := (CWd G o a RP RQ RU S ++ (KWd G (a 4) (f 0) K0 ++ (KWd G (a 6) (f 2) K2 ++ (ULd G 10 ua ub Us ++ (PLx G (aNp A) pa pb Ps j ++ (QLd G (aNq A) qa qb (fun j => pa (aQp A j)) Zs))))))) C (kX0_perform G (pa j) (a 5) (pb j) (f 1) (Ps j) K1 (aO A j) (aX A j) (aY A j) (aN A j) n 0 (hP j hj).1.1 (okp_of hI hj q_34)) ykX0_perform cvX0_perform nw_23 dX4_question_51 rfl rfl rfl rfl rfl (by decide) (Nat.le_of_ble_eq_true rfl) (by decide) rfl (Rv_kk (fun u_51 h_51 => ?_))
          obtain ⟨hF, -⟩ := h_51
          refine V.same (ws' := (CWd G o a RP RQ RU S ++ (KWd G (a 4) (f 0) K0 ++ (KWd G (a 6) (f 2) K2 ++ (ULd G 10 ua ub Us ++ (PLx G (aNp A) pa pb Ps j ++ (QLd G (aNq A) qa qb (fun j => pa (aQp A j)) Zs ++ (PWd G (pa j) (pb j) (Ps j) ++ (KWd G (a 5) (f 1) u_51))))))))) (by simp only [List.append_assoc]) ?_
          refine V.perm (ws' := (CWd G o a RP RQ RU S ++ (KWd G (a 4) (f 0) K0 ++ (ULd G 10 ua ub Us ++ (PLx G (aNp A) pa pb Ps j ++ (QLd G (aNq A) qa qb (fun j => pa (aQp A j)) Zs ++ (PWd G (pa j) (pb j) (Ps j) ++ (KWd G (a 5) (f 1) u_51 ++ (KWd G (a 6) (f 2) K2))))))))) ((List.Perm.append_left _ (List.Perm.append_left _ (List.perm_append_comm))).trans (List.Perm.of_eq (by simp only [List.append_assoc]))) ?_
          refine V.perm (ws' := (CWd G o a RP RQ RU S ++ (KWd G (a 4) (f 0) K0 ++ (ULd G 10 ua ub Us ++ (PLx G (aNp A) pa pb Ps j ++ (QLd G (aNq A) qa qb (fun j => pa (aQp A j)) Zs ++ (KWd G (a 5) (f 1) u_51 ++ (KWd G (a 6) (f 2) K2 ++ (PWd G (pa j) (pb j) (Ps j)))))))))) ((List.Perm.append_left _ (List.Perm.append_left _ (List.Perm.append_left _ (List.Perm.append_left _ (List.Perm.append_left _ (List.perm_append_comm)))))).trans (List.Perm.of_eq (by simp only [List.append_assoc]))) ?_
          refine V.perm (ws' := (CWd G o a RP RQ RU S ++ (KWd G (a 4) (f 0) K0 ++ (PLx G (aNp A) pa pb Ps j ++ (QLd G (aNq A) qa qb (fun j => pa (aQp A j)) Zs ++ (KWd G (a 5) (f 1) u_51 ++ (KWd G (a 6) (f 2) K2 ++ (PWd G (pa j) (pb j) (Ps j) ++ (ULd G 10 ua ub Us))))))))) ((List.Perm.append_left _ (List.Perm.append_left _ (List.perm_append_comm))).trans (List.Perm.of_eq (by simp only [List.append_assoc]))) ?_
          refine V.perm (ws' := (CWd G o a RP RQ RU S ++ (KWd G (a 4) (f 0) K0 ++ (QLd G (aNq A) qa qb (fun j => pa (aQp A j)) Zs ++ (KWd G (a 5) (f 1) u_51 ++ (KWd G (a 6) (f 2) K2 ++ (PWd G (pa j) (pb j) (Ps j) ++ (ULd G 10 ua ub Us ++ (PLx G (aNp A) pa pb Ps j))))))))) ((List.Perm.append_left _ (List.Perm.append_left _ (List.perm_append_comm))).trans (List.Perm.of_eq (by simp only [List.append_assoc]))) ?_
          refine V.perm (ws' := (CWd G o a RP RQ RU S ++ (KWd G (a 4) (f 0) K0 ++ (KWd G (a 5) (f 1) u_51 ++ (KWd G (a 6) (f 2) K2 ++ (PWd G (pa j) (pb j) (Ps j) ++ (ULd G 10 ua ub Us ++ (PLx G (aNp A) pa pb Ps j ++ (QLd G (aNq A) qa qb (fun j => pa (aQp A j)) Zs))))))))) ((List.Perm.append_left _ (List.Perm.append_left _ (List.perm_append_comm))).trans (List.Perm.of_eq (by simp only [List.append_assoc]))) ?_
          refine v_aload_n (pc := 54) C dX4_question_54 rfl ?_
          refine v_get (pc := 55) (v := .ref ((a 5))) C inX4 0 rfl rfl 5 (by decide) kw1_87 rfl dX4_question_55 ?_
          refine v_getN (pc := 58) (v := .int (mI u_51 8)) C inX0 15 rfl rfl 8 (by decide) nw_5 rfl dX4_question_58 ?_
          refine v_cv (y := (if (aRun A j 0 n).2.2.1 < aN A j then (1 : Int32) else 0)) (hF.2.2.2.2.2.2.1) ?_
          refine v_if_eq (pc := 61) (tgt := 67) C dX4_question_61 (by decide) (fun c_61 => ?_) (fun c_61 => ?_)
          · refine v_aload_n (pc := 67) C dX4_question_67 rfl ?_
            refine v_get (pc := 68) (v := .int (mI S 12)) C inX4 0 rfl rfl 12 (by decide) kw1_94 rfl dX4_question_68 ?_
            refine v_cv (y := (nI (aNq A))) (hS.1.2.1) ?_
            refine v_bipush (pc := 71) (v := 60) C dX4_question_71 (by decide) ?_
            refine v_icmp_ltN (pc := 73) (tgt := 79) C (aNq A) 60 rfl rfl (by omega) (by omega) dX4_question_73 (by decide) (fun c_73 => ?_) (fun c_73 => ?_)
            · refine v_aload (pc := 79) C dX4_question_79 rfl ?_
              refine v_iconst (pc := 81) (v := 1) C dX4_question_81 (by decide) ?_
              refine v_putN (pc := 82) C inX1 tyX1 tyX1_ok nmX1 27 rfl rfl 8 (by decide) nw_19 rfl (rfl) rfl (Nat.le_of_ble_eq_true rfl) dX4_question_82 (ws' := (CWd G o a RP RQ RU S ++ (KWd G (a 4) (f 0) K0 ++ (KWd G (a 5) (f 1) u_51 ++ (KWd G (a 6) (f 2) K2 ++ (PWd G (pa j) (pb j) (sI (Ps j) 8 (1 : Int32)) ++ (ULd G 10 ua ub Us ++ (PLx G (aNp A) pa pb Ps j ++ (QLd G (aNq A) qa qb (fun j => pa (aQp A j)) Zs))))))))) rfl ?_
              refine v_aload_n (pc := 85) C dX4_question_85 rfl ?_
              refine v_get (pc := 86) (v := .ref (a 1)) C inX4 0 rfl rfl 1 (by decide) kw1_83 rfl dX4_question_86 ?_
              refine v_aload_n (pc := 89) C dX4_question_89 rfl ?_
              refine v_get (pc := 90) (v := .int (mI S 12)) C inX4 0 rfl rfl 12 (by decide) kw1_94 rfl dX4_question_90 ?_
              refine v_cv (y := (nI (aNq A))) (hS.1.2.1) ?_
              refine v_new (pc := 93) (ci := 3) (fs := [.null, .int 0, .int 0, .int 0, .null, .long ((0 : Int64))]) C inX3 tyX3 tyX3_ok kw1_21 kw2_55 kw1_7 rfl (by decide) (Nat.le_of_ble_eq_true rfl) (Nat.le_of_ble_eq_true rfl) dX4_question_93 (fun q_93 => ?_)
              refine V.same (ws' := (CWd G o a RP RQ RU S ++ (KWd G (a 4) (f 0) K0 ++ (KWd G (a 5) (f 1) u_51 ++ (KWd G (a 6) (f 2) K2 ++ (PWd G (pa j) (pb j) (sI (Ps j) 8 (1 : Int32)) ++ (ULd G 10 ua ub Us ++ (PLx G (aNp A) pa pb Ps j ++ (QLd G (aNq A) qa qb (fun j => pa (aQp A j)) Zs ++ ([(q_93, .inr (3, [.null, .int 0, .int 0, .int 0, .null, .long ((0 : Int64))]))])))))))))) (by simp only [List.append_assoc]) ?_
              refine v_dup (pc := 96) C dX4_question_96 rfl ?_
              refine v_aload (pc := 97) C dX4_question_97 rfl ?_
              refine v_iload_n (pc := 99) C dX4_question_99 rfl ?_
              refine v_iload_n (pc := 100) C dX4_question_100 rfl ?_
              refine v_iload (pc := 101) C dX4_question_101 rfl ?_
              refine V.same (ws' := (CWd G o a RP RQ RU S ++ (KWd G (a 4) (f 0) K0 ++ (KWd G (a 5) (f 1) u_51 ++ (KWd G (a 6) (f 2) K2 ++ (PWd G (pa j) (pb j) (sI (Ps j) 8 (1 : Int32)) ++ (ULd G 10 ua ub Us ++ (PLx G (aNp A) pa pb Ps j ++ (QLd G (aNq A) qa qb (fun j => pa (aQp A j)) Zs)))))))) ++ ([(q_93, .inr (3, [.null, .int 0, .int 0, .int 0, .null, .long ((0 : Int64))]))])) (by simp only [List.append_assoc]) ?_
              refine v_callIN (pc := 103) (st := [.ref (q_93), .int (nI (aNq A)), .ref (a 1)]) (wr := (CWd G o a RP RQ RU S ++ (KWd G (a 4) (f 0) K0 ++ (KWd G (a 5) (f 1) u_51 ++ (KWd G (a 6) (f 2) K2 ++ (PWd G (pa j) (pb j) (sI (Ps j) 8 (1 : Int32)) ++ (ULd G 10 ua ub Us ++ (PLx G (aNp A) pa pb Ps j ++ (QLd G (aNq A) qa qb (fun j => pa (aQp A j)) Zs))))))))) C (kX3_init G q_93 (pa j) n k w) ykX3_init kw2_57 rfl nw_26 dX4_question_103 rfl rfl rfl (by decide) (Nat.le_of_ble_eq_true rfl) (by decide) rfl (Rv_kk (fun u_103 h_103 => ?_))
              refine V.same (ws' := (CWd G o a RP RQ RU S ++ (KWd G (a 4) (f 0) K0 ++ (KWd G (a 5) (f 1) u_51 ++ (KWd G (a 6) (f 2) K2 ++ (PWd G (pa j) (pb j) (sI (Ps j) 8 (1 : Int32)) ++ (ULd G 10 ua ub Us ++ (PLx G (aNp A) pa pb Ps j ++ (QLd G (aNq A) qa qb (fun j => pa (aQp A j)) Zs ++ (QWd G q_93 u_103 (pa j) ((fun i => if i = 1 then n else if i = 2 then k else w), (fun _ _ => 0), (fun _ => 0)))))))))))) (by simp only [List.append_assoc]) ?_
              refine V.perm (ws' := (CWd G o a RP RQ RU S ++ (KWd G (a 4) (f 0) K0 ++ (KWd G (a 5) (f 1) u_51 ++ (KWd G (a 6) (f 2) K2 ++ (PWd G (pa j) (pb j) (sI (Ps j) 8 (1 : Int32)) ++ (PLx G (aNp A) pa pb Ps j ++ (QLd G (aNq A) qa qb (fun j => pa (aQp A j)) Zs ++ (QWd G q_93 u_103 (pa j) ((fun i => if i = 1 then n else if i = 2 then k else w), (fun _ _ => 0), (fun _ => 0)) ++ (ULd G 10 ua ub Us)))))))))) ((List.Perm.append_left _ (List.Perm.append_left _ (List.Perm.append_left _ (List.Perm.append_left _ (List.Perm.append_left _ (List.perm_append_comm)))))).trans (List.Perm.of_eq (by simp only [List.append_assoc]))) ?_
              refine V.perm (ws' := (CWd G o a RP RQ RU S ++ (KWd G (a 4) (f 0) K0 ++ (KWd G (a 5) (f 1) u_51 ++ (KWd G (a 6) (f 2) K2 ++ (PWd G (pa j) (pb j) (sI (Ps j) 8 (1 : Int32)) ++ (QLd G (aNq A) qa qb (fun j => pa (aQp A j)) Zs ++ (QWd G q_93 u_103 (pa j) ((fun i => if i = 1 then n else if i = 2 then k else w), (fun _ _ => 0), (fun _ => 0)) ++ (ULd G 10 ua ub Us ++ (PLx G (aNp A) pa pb Ps j)))))))))) ((List.Perm.append_left _ (List.Perm.append_left _ (List.Perm.append_left _ (List.Perm.append_left _ (List.Perm.append_left _ (List.perm_append_comm)))))).trans (List.Perm.of_eq (by simp only [List.append_assoc]))) ?_
              refine V.perm (ws' := (CWd G o a RP RQ RU S ++ (KWd G (a 4) (f 0) K0 ++ (KWd G (a 5) (f 1) u_51 ++ (KWd G (a 6) (f 2) K2 ++ (PWd G (pa j) (pb j) (sI (Ps j) 8 (1 : Int32)) ++ (QWd G q_93 u_103 (pa j) ((fun i => if i = 1 then n else if i = 2 then k else w), (fun _ _ => 0), (fun _ => 0)) ++ (ULd G 10 ua ub Us ++ (PLx G (aNp A) pa pb Ps j ++ (QLd G (aNq A) qa qb (fun j => pa (aQp A j)) Zs)))))))))) ((List.Perm.append_left _ (List.Perm.append_left _ (List.Perm.append_left _ (List.Perm.append_left _ (List.Perm.append_left _ (List.perm_append_comm)))))).trans (List.Perm.of_eq (by simp only [List.append_assoc]))) ?_
              refine v_aast (pc := 106) (i := (aNq A)) (f := RQ) C 2 4 34 3 rfl rfl rfl rfl (by omega) (by decide) dX4_question_106 (ws' := (CWd G o a RP (va_up (RQ) (aNq A) (some (q_93))) RU S ++ (KWd G (a 4) (f 0) K0 ++ (KWd G (a 5) (f 1) u_51 ++ (KWd G (a 6) (f 2) K2 ++ (PWd G (pa j) (pb j) (sI (Ps j) 8 (1 : Int32)) ++ (QWd G q_93 u_103 (pa j) ((fun i => if i = 1 then n else if i = 2 then k else w), (fun _ _ => 0), (fun _ => 0)) ++ (ULd G 10 ua ub Us ++ (PLx G (aNp A) pa pb Ps j ++ (QLd G (aNq A) qa qb (fun j => pa (aQp A j)) Zs)))))))))) rfl ?_
              refine v_aload_n (pc := 107) C dX4_question_107 rfl ?_
              refine v_dup (pc := 108) C dX4_question_108 rfl ?_
              refine v_get (pc := 109) (v := .int (mI S 12)) C inX4 0 rfl rfl 12 (by decide) kw1_94 rfl dX4_question_109 ?_
              refine v_cv (y := (nI (aNq A))) (hS.1.2.1) ?_
              refine v_dup_x1 (pc := 112) C dX4_question_112 rfl rfl ?_
              refine v_iconst (pc := 113) (v := 1) C dX4_question_113 (by decide) ?_
              refine v_iaddN (pc := 114) C (aNq A) 1 rfl rfl dX4_question_114 ?_
              refine v_put (pc := 115) C inX4 tyX4 tyX4_ok nmX4 0 rfl rfl 12 (by decide) kw1_94 rfl (rfl) rfl (Nat.le_of_ble_eq_true rfl) dX4_question_115 (ws' := (CWd G o a RP (va_up (RQ) (aNq A) (some (q_93))) RU (sI S 12 (nI ((aNq A) + 1))) ++ (KWd G (a 4) (f 0) K0 ++ (KWd G (a 5) (f 1) u_51 ++ (KWd G (a 6) (f 2) K2 ++ (PWd G (pa j) (pb j) (sI (Ps j) 8 (1 : Int32)) ++ (QWd G q_93 u_103 (pa j) ((fun i => if i = 1 then n else if i = 2 then k else w), (fun _ _ => 0), (fun _ => 0)) ++ (ULd G 10 ua ub Us ++ (PLx G (aNp A) pa pb Ps j ++ (QLd G (aNq A) qa qb (fun j => pa (aQp A j)) Zs)))))))))) rfl ?_
              refine V.perm (ws' := (CWd G o a RP (va_up (RQ) (aNq A) (some (q_93))) RU (sI S 12 (nI ((aNq A) + 1))) ++ (KWd G (a 4) (f 0) K0 ++ (KWd G (a 5) (f 1) u_51 ++ (KWd G (a 6) (f 2) K2 ++ (PWd G (pa j) (pb j) (sI (Ps j) 8 (1 : Int32)) ++ (QWd G q_93 u_103 (pa j) ((fun i => if i = 1 then n else if i = 2 then k else w), (fun _ _ => 0), (fun _ => 0)) ++ (ULd G 10 ua ub Us ++ (QLd G (aNq A) qa qb (fun j => pa (aQp A j)) Zs ++ (PLx G (aNp A) pa pb Ps j)))))))))) ((List.Perm.append_left _ (List.Perm.append_left _ (List.Perm.append_left _ (List.Perm.append_left _ (List.Perm.append_left _ (List.Perm.append_left _ (List.Perm.append_left _ (List.perm_append_comm)))))))).trans (List.Perm.of_eq (by simp only [List.append_assoc]))) ?_
              refine V.perm (ws' := (CWd G o a RP (va_up (RQ) (aNq A) (some (q_93))) RU (sI S 12 (nI ((aNq A) + 1))) ++ (KWd G (a 4) (f 0) K0 ++ (KWd G (a 5) (f 1) u_51 ++ (KWd G (a 6) (f 2) K2 ++ (QWd G q_93 u_103 (pa j) ((fun i => if i = 1 then n else if i = 2 then k else w), (fun _ _ => 0), (fun _ => 0)) ++ (ULd G 10 ua ub Us ++ (QLd G (aNq A) qa qb (fun j => pa (aQp A j)) Zs ++ (PLx G (aNp A) pa pb Ps j ++ (PWd G (pa j) (pb j) (sI (Ps j) 8 (1 : Int32)))))))))))) ((List.Perm.append_left _ (List.Perm.append_left _ (List.Perm.append_left _ (List.Perm.append_left _ (List.perm_append_comm))))).trans (List.Perm.of_eq (by simp only [List.append_assoc]))) ?_
              refine V.perm (ws' := (CWd G o a RP (va_up (RQ) (aNq A) (some (q_93))) RU (sI S 12 (nI ((aNq A) + 1))) ++ (KWd G (a 4) (f 0) K0 ++ (KWd G (a 5) (f 1) u_51 ++ (KWd G (a 6) (f 2) K2 ++ (QWd G q_93 u_103 (pa j) ((fun i => if i = 1 then n else if i = 2 then k else w), (fun _ _ => 0), (fun _ => 0)) ++ (ULd G 10 ua ub Us ++ (QLd G (aNq A) qa qb (fun j => pa (aQp A j)) Zs ++ (PLd G (aNp A) pa pb (va_up Ps j (sI (Ps j) 8 (1 : Int32)))))))))))) (List.Perm.append_left _ (List.Perm.append_left _ (List.Perm.append_left _ (List.Perm.append_left _ (List.Perm.append_left _ (List.Perm.append_left _ (List.Perm.append_left _ (PL_back hj (sI (Ps j) 8 (1 : Int32)))))))))) ?_
              refine V.perm (ws' := (CWd G o a RP (va_up (RQ) (aNq A) (some (q_93))) RU (sI S 12 (nI ((aNq A) + 1))) ++ (KWd G (a 4) (f 0) K0 ++ (KWd G (a 5) (f 1) u_51 ++ (KWd G (a 6) (f 2) K2 ++ (QWd G q_93 u_103 (pa j) ((fun i => if i = 1 then n else if i = 2 then k else w), (fun _ _ => 0), (fun _ => 0)) ++ (ULd G 10 ua ub Us ++ (PLd G (aNp A) pa pb (va_up Ps j (sI (Ps j) 8 (1 : Int32))) ++ (QLd G (aNq A) qa qb (fun j => pa (aQp A j)) Zs))))))))) ((List.Perm.append_left _ (List.Perm.append_left _ (List.Perm.append_left _ (List.Perm.append_left _ (List.Perm.append_left _ (List.Perm.append_left _ (List.perm_append_comm))))))).trans (List.Perm.of_eq (by simp only [List.append_assoc]))) ?_
              refine V.perm (ws' := (CWd G o a RP (va_up (RQ) (aNq A) (some (q_93))) RU (sI S 12 (nI ((aNq A) + 1))) ++ (KWd G (a 4) (f 0) K0 ++ (KWd G (a 5) (f 1) u_51 ++ (KWd G (a 6) (f 2) K2 ++ (ULd G 10 ua ub Us ++ (PLd G (aNp A) pa pb (va_up Ps j (sI (Ps j) 8 (1 : Int32))) ++ (QLd G (aNq A) qa qb (fun j => pa (aQp A j)) Zs ++ (QWd G q_93 u_103 (pa j) ((fun i => if i = 1 then n else if i = 2 then k else w), (fun _ _ => 0), (fun _ => 0))))))))))) ((List.Perm.append_left _ (List.Perm.append_left _ (List.Perm.append_left _ (List.Perm.append_left _ (List.perm_append_comm))))).trans (List.Perm.of_eq (by simp only [List.append_assoc]))) ?_
              have eQ := QL_push (G := G) (n := aNq A) (qa := qa) (qb := qb) (Zs := Zs) (pr := fun j => pa (aQp A j)) (pr2 := fun i => pa (aQp (addQ A j n k w) i)) q_93 u_103 (pa j) ((fun i => if i = 1 then n else if i = 2 then k else w), (fun _ _ => 0), (fun _ => 0)) (congrArg pa aQ_new.1) (fun i hi => congrArg pa (aQ_old hi).1)
              refine V.same (ws' := (CWd G o a RP (va_up (RQ) (aNq A) (some (q_93))) RU (sI S 12 (nI ((aNq A) + 1))) ++ (KWd G (a 4) (f 0) K0 ++ (KWd G (a 5) (f 1) u_51 ++ (KWd G (a 6) (f 2) K2 ++ (ULd G 10 ua ub Us ++ (PLd G (aNp A) pa pb (va_up Ps j (sI (Ps j) 8 (1 : Int32))) ++ (QLd G (aNq A + 1) (va_up qa (aNq A) q_93) (va_up qb (aNq A) u_103) (fun i => pa (aQp (addQ A j n k w) i)) (va_up Zs (aNq A) ((fun i => if i = 1 then n else if i = 2 then k else w), (fun _ _ => 0), (fun _ => 0))))))))))) (by rw [← eQ]) ?_
              subst hQ
              exact v_iret (pc := 118) C dX4_question_118 (rfl) (((addQ A j n k w), ((sI S 12 (nI ((aNq A) + 1))), K0, u_51, K2, Us, (va_up Ps j (sI (Ps j) 8 (1 : Int32))), va_up Zs (aNq A) ((fun i => if i = 1 then n else if i = 2 then k else w), (fun _ _ => 0), (fun _ => 0)), RP, (va_up (RQ) (aNq A) (some (q_93))), pa, pb, va_up qa (aNq A) q_93, va_up qb (aNq A) u_103))) rfl (⟨by unfold s_question; rw [if_neg (nbad hj (by omega)), if_neg q_13, tn_nI (n := j) (by omega), if_neg (fun z => q_24 (Or.inl z)), if_neg (fun z => q_24 (Or.inr z)), if_neg (fun z => z q_34), if_neg (sp_f c_61), if_neg (by omega)], by unfold s_question; rw [if_neg (nbad hj (by omega)), if_neg q_13, tn_nI (n := j) (by omega), if_neg (fun z => q_24 (Or.inl z)), if_neg (fun z => q_24 (Or.inr z)), if_neg (fun z => z q_34), if_neg (sp_f c_61), if_neg (by omega)], CAll_question hI hj q_34 (fun z => q_13 (Or.inl z)) (fun z => q_24 (Or.inl z)) (fun z => q_24 (Or.inr z)) hC⟩)
            · refine v_bipush (pc := 76) (v := (-2)) C dX4_question_76 (by decide) ?_
              refine V.perm (ws' := (CWd G o a RP RQ RU S ++ (KWd G (a 4) (f 0) K0 ++ (KWd G (a 5) (f 1) u_51 ++ (KWd G (a 6) (f 2) K2 ++ (PWd G (pa j) (pb j) (Ps j) ++ (ULd G 10 ua ub Us ++ (QLd G (aNq A) qa qb (fun j => pa (aQp A j)) Zs ++ (PLx G (aNp A) pa pb Ps j))))))))) ((List.Perm.append_left _ (List.Perm.append_left _ (List.Perm.append_left _ (List.Perm.append_left _ (List.Perm.append_left _ (List.Perm.append_left _ (List.perm_append_comm))))))).trans (List.Perm.of_eq (by simp only [List.append_assoc]))) ?_
              refine V.perm (ws' := (CWd G o a RP RQ RU S ++ (KWd G (a 4) (f 0) K0 ++ (KWd G (a 5) (f 1) u_51 ++ (KWd G (a 6) (f 2) K2 ++ (ULd G 10 ua ub Us ++ (QLd G (aNq A) qa qb (fun j => pa (aQp A j)) Zs ++ (PLx G (aNp A) pa pb Ps j ++ (PWd G (pa j) (pb j) (Ps j)))))))))) ((List.Perm.append_left _ (List.Perm.append_left _ (List.Perm.append_left _ (List.Perm.append_left _ (List.perm_append_comm))))).trans (List.Perm.of_eq (by simp only [List.append_assoc]))) ?_
              refine V.perm (ws' := (CWd G o a RP RQ RU S ++ (KWd G (a 4) (f 0) K0 ++ (KWd G (a 5) (f 1) u_51 ++ (KWd G (a 6) (f 2) K2 ++ (ULd G 10 ua ub Us ++ (QLd G (aNq A) qa qb (fun j => pa (aQp A j)) Zs ++ (PLd G (aNp A) pa pb Ps)))))))) (List.Perm.append_left _ (List.Perm.append_left _ (List.Perm.append_left _ (List.Perm.append_left _ (List.Perm.append_left _ (List.Perm.append_left _ (PL_same hj))))))) ?_
              refine V.perm (ws' := (CWd G o a RP RQ RU S ++ (KWd G (a 4) (f 0) K0 ++ (KWd G (a 5) (f 1) u_51 ++ (KWd G (a 6) (f 2) K2 ++ (ULd G 10 ua ub Us ++ (PLd G (aNp A) pa pb Ps ++ (QLd G (aNq A) qa qb (fun j => pa (aQp A j)) Zs)))))))) ((List.Perm.append_left _ (List.Perm.append_left _ (List.Perm.append_left _ (List.Perm.append_left _ (List.Perm.append_left _ (List.perm_append_comm)))))).trans (List.Perm.of_eq (by simp only [List.append_assoc]))) ?_
              refine V.wide (k := 2) (n := 70) (by decide) (by decide) ?_
              subst hQ
              exact v_iret (pc := 78) C dX4_question_78 (rfl) ((A, (S, K0, u_51, K2, Us, Ps, Zs, RP, RQ, pa, pb, qa, qb))) rfl (⟨by unfold s_question; rw [if_neg (nbad hj (by omega)), if_neg q_13, tn_nI (n := j) (by omega), if_neg (fun z => q_24 (Or.inl z)), if_neg (fun z => q_24 (Or.inr z)), if_neg (fun z => z q_34), if_neg (sp_f c_61), if_pos (by omega)], by unfold s_question; rw [if_neg (nbad hj (by omega)), if_neg q_13, tn_nI (n := j) (by omega), if_neg (fun z => q_24 (Or.inl z)), if_neg (fun z => q_24 (Or.inr z)), if_neg (fun z => z q_34), if_neg (sp_f c_61), if_pos (by omega)], hC⟩)
          · refine v_bipush (pc := 64) (v := (-3)) C dX4_question_64 (by decide) ?_
            refine V.perm (ws' := (CWd G o a RP RQ RU S ++ (KWd G (a 4) (f 0) K0 ++ (KWd G (a 5) (f 1) u_51 ++ (KWd G (a 6) (f 2) K2 ++ (PWd G (pa j) (pb j) (Ps j) ++ (ULd G 10 ua ub Us ++ (QLd G (aNq A) qa qb (fun j => pa (aQp A j)) Zs ++ (PLx G (aNp A) pa pb Ps j))))))))) ((List.Perm.append_left _ (List.Perm.append_left _ (List.Perm.append_left _ (List.Perm.append_left _ (List.Perm.append_left _ (List.Perm.append_left _ (List.perm_append_comm))))))).trans (List.Perm.of_eq (by simp only [List.append_assoc]))) ?_
            refine V.perm (ws' := (CWd G o a RP RQ RU S ++ (KWd G (a 4) (f 0) K0 ++ (KWd G (a 5) (f 1) u_51 ++ (KWd G (a 6) (f 2) K2 ++ (ULd G 10 ua ub Us ++ (QLd G (aNq A) qa qb (fun j => pa (aQp A j)) Zs ++ (PLx G (aNp A) pa pb Ps j ++ (PWd G (pa j) (pb j) (Ps j)))))))))) ((List.Perm.append_left _ (List.Perm.append_left _ (List.Perm.append_left _ (List.Perm.append_left _ (List.perm_append_comm))))).trans (List.Perm.of_eq (by simp only [List.append_assoc]))) ?_
            refine V.perm (ws' := (CWd G o a RP RQ RU S ++ (KWd G (a 4) (f 0) K0 ++ (KWd G (a 5) (f 1) u_51 ++ (KWd G (a 6) (f 2) K2 ++ (ULd G 10 ua ub Us ++ (QLd G (aNq A) qa qb (fun j => pa (aQp A j)) Zs ++ (PLd G (aNp A) pa pb Ps)))))))) (List.Perm.append_left _ (List.Perm.append_left _ (List.Perm.append_left _ (List.Perm.append_left _ (List.Perm.append_left _ (List.Perm.append_left _ (PL_same hj))))))) ?_
            refine V.perm (ws' := (CWd G o a RP RQ RU S ++ (KWd G (a 4) (f 0) K0 ++ (KWd G (a 5) (f 1) u_51 ++ (KWd G (a 6) (f 2) K2 ++ (ULd G 10 ua ub Us ++ (PLd G (aNp A) pa pb Ps ++ (QLd G (aNq A) qa qb (fun j => pa (aQp A j)) Zs)))))))) ((List.Perm.append_left _ (List.Perm.append_left _ (List.Perm.append_left _ (List.Perm.append_left _ (List.Perm.append_left _ (List.perm_append_comm)))))).trans (List.Perm.of_eq (by simp only [List.append_assoc]))) ?_
            refine V.wide (k := 2) (n := 70) (by decide) (by decide) ?_
            subst hQ
            exact v_iret (pc := 66) C dX4_question_66 (rfl) ((A, (S, K0, u_51, K2, Us, Ps, Zs, RP, RQ, pa, pb, qa, qb))) rfl (⟨by unfold s_question; rw [if_neg (nbad hj (by omega)), if_neg q_13, tn_nI (n := j) (by omega), if_neg (fun z => q_24 (Or.inl z)), if_neg (fun z => q_24 (Or.inr z)), if_neg (fun z => z q_34), if_pos (sp_t c_61)], by unfold s_question; rw [if_neg (nbad hj (by omega)), if_neg q_13, tn_nI (n := j) (by omega), if_neg (fun z => q_24 (Or.inl z)), if_neg (fun z => q_24 (Or.inr z)), if_neg (fun z => z q_34), if_pos (sp_t c_61)], hC⟩)
