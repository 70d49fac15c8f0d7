/-! the desk: line -/
theorem upd_if {f : Nat → Int32} {n : Nat} {v : Int32} (k : Nat) : upd f n v k = if k = n then v else f k := by
  by_cases e : k = n
  · subst e; rw [pk_us, if_pos rfl]
  · rw [pk_un e, if_neg e]
section AP
variable {O X Y : Nat → Int32} {n : Nat} {T T' : MS} {c x y : Int32}
theorem ap_lo : ∀ k, k < n → upd O n c k = O k := fun k hk => pk_un (by omega)
theorem ap_dp : ∀ k, k ≤ n → dp (upd O n c) k = dp O k := fun k hk => dp_cong (n := n) (fun k hk => ap_lo k hk) k hk
theorem ap_rows (h : PRC O X Y n T) (h0 : mA T' 0 = upd (mA T 0) n c) (h1 : mA T' 1 = upd (mA T 1) n x) (h2 : mA T' 2 = upd (mA T 2) n y) : ∀ k, k < n + 1 → mA T' 0 k = upd O n c k ∧ mA T' 1 k = upd X n x k ∧ mA T' 2 k = upd Y n y k := by
  intro k hk
  rw [h0, h1, h2]
  by_cases e : k = n
  · subst e; rw [pk_us, pk_us, pk_us, pk_us, pk_us, pk_us]; exact ⟨rfl, rfl, rfl⟩
  · rw [pk_un e, pk_un e, pk_un e, pk_un e, pk_un e, pk_un e]; exact h.1.2.1 k (by omega)
theorem ap_depth (h : PRC O X Y n T) (h3 : mA T' 3 = upd (mA T 3) n (nI (dp O n))) : ∀ k, k < n + 1 → mA T' 3 k = nI (dp (upd O n c) k) := by
  intro k hk
  rw [h3, ap_dp k (by omega)]
  by_cases e : k = n
  · subst e; exact pk_us
  · rw [pk_un e]; exact h.2.1 k (by omega)
theorem ap_old {i e : Nat} (he : e < n) (hm : Mt (upd O n c) i e) : Mt O i e := Mt_cong (n := n) (fun k hk => ap_lo k hk) he hm
theorem ap_mates (h : PRC O X Y n T) (hc : ¬ c = 6) (h4 : mA T' 4 = mA T 4) : ∀ i e, Mt (upd O n c) i e → e < n + 1 → mA T' 4 i = nI e ∧ mA T' 4 e = nI i := by
  intro i e hm he
  rcases Nat.lt_or_ge e n with q | q
  · rw [h4]; exact h.1.2.2 i e (ap_old q hm) q
  · have e1 : e = n := by omega
    subst e1
    have := hm.2.2.1
    rw [pk_us] at this
    exact absurd this hc
theorem ap_open (h : PRC O X Y n T) (ho : c = 4 ∨ c = 5) (h0 : mA T' 0 = upd (mA T 0) n c) (h1 : mA T' 1 = upd (mA T 1) n x) (h2 : mA T' 2 = upd (mA T 2) n y) (h3 : mA T' 3 = upd (mA T 3) n (nI (dp O n))) (h4 : mA T' 4 = mA T 4) (h5 : mA T' 5 = upd (mA T 5) (dp O n) (nI n)) (i6 : mI T' 6 = nI (dp O n + 1)) (i7 : mI T' 7 = nI (n + 1)) : PRC (upd O n c) (upd X n x) (upd Y n y) (n + 1) T' := by
  have hd : dp (upd O n c) (n + 1) = dp O n + 1 := by rw [dp_open (by rw [pk_us]; exact ho), ap_dp n (Nat.le_refl n)]
  refine ⟨⟨i7, ap_rows h h0 h1 h2, ap_mates h (fun z => by rcases ho with q | q <;> rw [q] at z <;> exact absurd z (by decide)) h4⟩, ap_depth h h3, by rw [hd]; exact i6, fun i hi => ?_⟩
  rw [hd] at hi
  rw [h5]
  by_cases e : i = dp O n
  · subst e
    refine ⟨n, by omega, pk_us, by rw [pk_us]; exact ho, ap_dp n (Nat.le_refl n), fun j g1 g2 => ?_⟩
    rw [show j = n + 1 by omega, hd]; omega
  · obtain ⟨m, a1, a2, a3, a4, a5⟩ := h.2.2.2 i (by omega)
    refine ⟨m, by omega, by rw [pk_un e]; exact a2, by rw [pk_un (by omega)]; exact a3, by rw [ap_dp m (by omega)]; exact a4, fun j g1 g2 => ?_⟩
    rcases Nat.lt_or_ge j (n + 1) with z | z
    · rw [ap_dp j (by omega)]; exact a5 j g1 (by omega)
    · rw [show j = n + 1 by omega, hd]; omega
theorem ap_plain (h : PRC O X Y n T) (c4 : ¬ c = 4) (c5 : ¬ c = 5) (c6 : ¬ c = 6) (h0 : mA T' 0 = upd (mA T 0) n c) (h1 : mA T' 1 = upd (mA T 1) n x) (h2 : mA T' 2 = upd (mA T 2) n y) (h3 : mA T' 3 = upd (mA T 3) n (nI (dp O n))) (h4 : mA T' 4 = mA T 4) (h5 : mA T' 5 = mA T 5) (i6 : mI T' 6 = mI T 6) (i7 : mI T' 7 = nI (n + 1)) : PRC (upd O n c) (upd X n x) (upd Y n y) (n + 1) T' := by
  have hd : dp (upd O n c) (n + 1) = dp O n := by rw [dp_else (by rw [pk_us]; exact fun z => z.elim c4 c5) (by rw [pk_us]; exact c6), ap_dp n (Nat.le_refl n)]
  refine ⟨⟨i7, ap_rows h h0 h1 h2, ap_mates h c6 h4⟩, ap_depth h h3, by rw [hd, i6]; exact h.2.2.1, fun i hi => ?_⟩
  rw [hd] at hi
  rw [h5]
  obtain ⟨m, a1, a2, a3, a4, a5⟩ := h.2.2.2 i hi
  refine ⟨m, by omega, a2, by rw [pk_un (by omega)]; exact a3, by rw [ap_dp m (by omega)]; exact a4, fun j g1 g2 => ?_⟩
  rcases Nat.lt_or_ge j (n + 1) with z | z
  · rw [ap_dp j (by omega)]; exact a5 j g1 (by omega)
  · rw [show j = n + 1 by omega, hd]; exact hi
theorem ap_end {m : Nat} (h : PRC O X Y n T) (c6 : c = 6) (hd0 : 0 < dp O n) (b1 : m < n) (b3 : O m = 4 ∨ O m = 5) (b4 : dp O m = dp O n - 1) (b5 : ∀ j, m < j → j ≤ n → dp O n - 1 < dp O j) (h0 : mA T' 0 = upd (mA T 0) n c) (h1 : mA T' 1 = upd (mA T 1) n x) (h2 : mA T' 2 = upd (mA T 2) n y) (h3 : mA T' 3 = upd (mA T 3) n (nI (dp O n))) (h4 : mA T' 4 = upd (upd (mA T 4) n (nI m)) m (nI n)) (h5 : mA T' 5 = mA T 5) (i6 : mI T' 6 = nI (dp O n - 1)) (i7 : mI T' 7 = nI (n + 1)) : PRC (upd O n c) (upd X n x) (upd Y n y) (n + 1) T' := by
  have hd : dp (upd O n c) (n + 1) = dp O n - 1 := by rw [dp_end (by rw [pk_us]; exact c6), ap_dp n (Nat.le_refl n)]
  have hM : Mt (upd O n c) m n := by
    refine ⟨b1, by rw [pk_un (by omega)]; exact b3, by rw [pk_us]; exact c6, by rw [hd, ap_dp m (by omega)]; exact b4.symm, fun j g1 g2 => ?_⟩
    rw [ap_dp j g2, ap_dp m (by omega), b4]; exact b5 j g1 g2
  refine ⟨⟨i7, ap_rows h h0 h1 h2, fun i e hm he => ?_⟩, ap_depth h h3, by rw [hd]; exact i6, fun i hi => ?_⟩
  · rw [h4]
    rcases Nat.lt_or_ge e n with q | q
    · have ho := ap_old q hm
      obtain ⟨g1, g2⟩ := h.1.2.2 i e ho q
      have hi := ho.1
      have n1 : i ≠ m := by
        intro z
        subst z
        have w1 := ho.2.2.2.1
        have w2 := b5 (e + 1) (by omega) (by omega)
        omega
      have n2 : e ≠ m := by
        intro z
        subst z
        have w1 := ho.2.2.1
        rw [w1] at b3
        exact absurd b3 (by decide)
      rw [pk_un n1, pk_un (by omega), pk_un n2, pk_un (by omega)]
      exact ⟨g1, g2⟩
    · have e1 : e = n := by omega
      subst e1
      have e2 : i = m := hm.uniqI hM
      subst e2
      rw [pk_us, pk_un (by omega), pk_us]
      exact ⟨rfl, rfl⟩
  · rw [hd] at hi
    rw [h5]
    obtain ⟨k, a1, a2, a3, a4, a5⟩ := h.2.2.2 i (by omega)
    refine ⟨k, by omega, a2, by rw [pk_un (by omega)]; exact a3, by rw [ap_dp k (by omega)]; exact a4, fun j g1 g2 => ?_⟩
    rcases Nat.lt_or_ge j (n + 1) with z | z
    · rw [ap_dp j (by omega)]; exact a5 j g1 (by omega)
    · rw [show j = n + 1 by omega, hd]; exact hi
end AP
theorem kX1_append (G : TG) (o : Nat) (b : Nat → Nat) (S : MS) (O X Y : Nat → Int32) (n : Nat) (c x y : Int32) (hP : PRC O X Y n S) (hn : n < 20) (h6 : c = 6 → 0 < dp O n) : CT G yX1_append cX1_append 4 (some .int) rmX1_append 0 0 [.ref o, .int c, .int x, .int y] (PWd G o b S) (fun S : MS => PWd G o b S) (Ri (fun r S' => r = nI n ∧ PRC (upd O n c) (upd X n x) (upd Y n y) (n + 1) S' ∧ mI S' 8 = mI S 8)) := by
  have hd := dp_le O n
  by_cases ho : c = 4 ∨ c = 5
  · refine (kX1_append_o G o b S c x y n (dp O n) hn (by omega) hP.1.1 hP.2.2.1 ho).monoI (fun r S' h => ?_)
    obtain ⟨e1, e2⟩ := h
    subst e2
    exact ⟨e1, ap_open hP ho rfl rfl rfl rfl rfl rfl rfl rfl, rfl⟩
  · by_cases c6 : c = 6
    · have hd0 := h6 c6
      obtain ⟨m, a1, a2, a3, a4, a5⟩ := hP.2.2.2 (dp O n - 1) (by omega)
      refine (kX1_append_e G o b S c x y n (dp O n) hn (by omega) hP.1.1 hP.2.2.1 c6 hd0 m (by omega) a2).monoI (fun r S' h => ?_)
      obtain ⟨e1, e2⟩ := h
      subst e2
      exact ⟨e1, ap_end hP c6 hd0 a1 a3 a4 a5 rfl rfl rfl rfl rfl rfl rfl rfl, rfl⟩
    · refine (kX1_append_p G o b S c x y n (dp O n) hn (by omega) hP.1.1 hP.2.2.1 (fun z => ho (Or.inl z)) (fun z => ho (Or.inr z)) c6).monoI (fun r S' h => ?_)
      obtain ⟨e1, e2⟩ := h
      subst e2
      exact ⟨e1, ap_plain hP (fun z => ho (Or.inl z)) (fun z => ho (Or.inr z)) c6 rfl rfl rfl rfl rfl rfl rfl rfl, rfl⟩
section LN
variable {A : AS} {j : Nat} {c x y : Int32}
theorem aL_O : aO (addL A j c x y) j = upd (aO A j) (aN A j) c := by
  funext k
  show (if j = j ∧ k = aN A j then c else aO A j k) = _
  rw [upd_if]
  by_cases e : k = aN A j
  · rw [if_pos ⟨rfl, e⟩, if_pos e]
  · rw [if_neg (fun z => e z.2), if_neg e]
theorem aL_X : aX (addL A j c x y) j = upd (aX A j) (aN A j) x := by
  funext k
  show (if j = j ∧ k = aN A j then x else aX A j k) = _
  rw [upd_if]
  by_cases e : k = aN A j
  · rw [if_pos ⟨rfl, e⟩, if_pos e]
  · rw [if_neg (fun z => e z.2), if_neg e]
theorem aL_Y : aY (addL A j c x y) j = upd (aY A j) (aN A j) y := by
  funext k
  show (if j = j ∧ k = aN A j then y else aY A j k) = _
  rw [upd_if]
  by_cases e : k = aN A j
  · rw [if_pos ⟨rfl, e⟩, if_pos e]
  · rw [if_neg (fun z => e z.2), if_neg e]
theorem aL_N : aN (addL A j c x y) j = aN A j + 1 := if_pos rfl
theorem aL_ne {p : Nat} (h : p ≠ j) : aO (addL A j c x y) p = aO A p ∧ aX (addL A j c x y) p = aX A p ∧ aY (addL A j c x y) p = aY A p ∧ aN (addL A j c x y) p = aN A p := by
  refine ⟨funext fun k => ?_, funext fun k => ?_, funext fun k => ?_, if_neg h⟩
  · exact if_neg (fun z => h z.1)
  · exact if_neg (fun z => h z.1)
  · exact if_neg (fun z => h z.1)
theorem aL_ans {q : Nat} {m : Int32} (h : aQp A q ≠ j) : ansA (addL A j c x y) q m = ansA A q m := by
  obtain ⟨e1, e2, e3, e4⟩ := aL_ne (A := A) (c := c) (x := x) (y := y) h
  show (if aQk A q = 0 then (RUN (aO (addL A j c x y) (aQp A q)) (aX (addL A j c x y) (aQp A q)) (aY (addL A j c x y) (aQp A q)) (aN (addL A j c x y) (aQp A q)) m (nI (aQi A q))).2.2.2.1 (aQw A q) else if aQk A q = 1 then (RUN (aO (addL A j c x y) (aQp A q)) (aX (addL A j c x y) (aQp A q)) (aY (addL A j c x y) (aQp A q)) (aN (addL A j c x y) (aQp A q)) m (nI (aQi A q))).2.1 (aQw A q) else endR (aN (addL A j c x y) (aQp A q)) (RUN (aO (addL A j c x y) (aQp A q)) (aX (addL A j c x y) (aQp A q)) (aY (addL A j c x y) (aQp A q)) (aN (addL A j c x y) (aQp A q)) m (nI (aQi A q))) (4 + aQw A q)) = _
  rw [e1, e2, e3, e4]; rfl
theorem aL_lines (n : Nat) : linesA (addL A j c x y) n = linesA A n + (if j < n then 1 else 0) := by
  induction n with
  | zero => rfl
  | succ n ih =>
    show linesA (addL A j c x y) n + aN (addL A j c x y) n = linesA A n + aN A n + _
    rw [ih]
    by_cases e : n = j
    · subst e; rw [aL_N, if_neg (by omega), if_pos (by omega)]; omega
    · rw [(aL_ne e).2.2.2]
      by_cases z : j < n
      · rw [if_pos z, if_pos (by omega)]; omega
      · rw [if_neg z, if_neg (by omega)]; omega
theorem CAll_line {RP RQ RU : Nat → Option Nat} {ua pa qa : Nat → Nat} {S K0 : MS} {Us Ps Zs : Nat → MS} {T : MS} (hI : AInv A) (hj : j < aNp A) (hna : ¬ askedA A j = true) (hC : CAll A RP RQ RU ua pa qa S K0 Us Ps Zs) (hT : PRC (upd (aO A j) (aN A j) c) (upd (aX A j) (aN A j) x) (upd (aY A j) (aN A j) y) (aN A j + 1) T) (h8 : mI T 8 = mI (Ps j) 8) : CAll (addL A j c x y) RP RQ RU ua pa qa (sI S 13 (nI (linesA A (aNp A) + 1))) K0 Us (va_up Ps j T) Zs := by
  obtain ⟨hS, hP, hA, hU, hRP, hRQ, hRU⟩ := hC
  have hq : ∀ q, q < aNq A → aQp A q ≠ j := fun q hq z => hna (asked_t hq z)
  refine ⟨⟨hS.1, hS.2.1, ?_, hS.2.2.2.1, ?_⟩, fun p hp => ?_, fun q hq2 => ?_, hU, hRP, hRQ, hRU⟩
  · obtain ⟨γ, ξ, a1, a2, a3, a4, a5, a6⟩ := hS.2.2.1
    refine ⟨γ, ξ, a1, a2, a3, a4, a5, ?_⟩
    rcases a6 with z | ⟨z, w⟩
    · exact Or.inl z
    · exact Or.inr ⟨z, by rw [ch_cong (A := A) (fun m => aL_ans (hq ξ z))]; exact w⟩
  · show nI (linesA A (aNp A) + 1) = nI (linesA (addL A j c x y) (aNp A))
    rw [aL_lines, if_pos hj]
  · by_cases e : p = j
    · subst e
      rw [va_up_self, aL_O, aL_X, aL_Y, aL_N]
      exact ⟨hT, h8.trans (hP p hj).2⟩
    · rw [va_up_ne _ _ e, (aL_ne e).1, (aL_ne e).2.1, (aL_ne e).2.2.1, (aL_ne e).2.2.2]
      exact hP p hp
  · have e := hq q hq2
    have e2 : (fun m => ansA (addL A j c x y) q (nI m)) = (fun m => ansA A q (nI m)) := funext fun m => aL_ans e
    rw [e2]
    show QOK _ (qZ A q) (va_up Ps j T (aQp A q)) (Zs q)
    rw [va_up_ne _ _ e]
    exact hA q hq2
end LN
def rmX4_line : Room := { frames := 2, cells := 0, slots := 0, locals := 42 }
set_option maxHeartbeats 4000000 in
set_option maxRecDepth 100000 in
theorem kX4_line (G : TG) (o : Nat) (a : Nat → Nat) (f : Nat → Nat → Nat) (ua : Nat → Nat) (ub : Nat → Nat → Nat) (RP RQ RU : Nat → Option Nat) (S K0 K1 K2 : MS) (Us Ps Zs : Nat → MS) (pa qa : Nat → Nat) (pb qb : Nat → Nat → Nat) (A : AS) (hI : AInv A) (hC : CAll A RP RQ RU ua pa qa S K0 Us Ps Zs) (p c x y : Int32) : CT G yX4_line cX4_line 6 (some .int) rmX4_line 0 0 [.ref (o), .int (p), .int (c), .int (x), .int (y)] (CWd G o a RP RQ RU S ++ (KWd G (a 4) (f 0) K0 ++ (KWd G (a 5) (f 1) K1 ++ (KWd G (a 6) (f 2) K2 ++ (ULd G 10 ua ub Us ++ (PLd G (aNp A) pa pb Ps ++ (QLd G (aNq A) qa qb (fun j => pa (aQp A j)) Zs))))))) (fun u : AS × DS => DWd G o a f ua ub RU u.1 u.2) (Ri (fun r δ => r = (s_line A p c x y).1 ∧ δ.1 = (s_line A p c x y).2 ∧ CRel δ.1 RU ua δ.2)) := by
  refine CT.enter (by decide) (Nat.le_of_ble_eq_true rfl) (fun X C hnm => ?_)
  refine V.less [(0, .ref (o)), (1, .int (p)), (2, .int (c)), (3, .int (x)), (4, .int (y))] ⟨rfl, rfl, rfl, rfl, rfl, trivial⟩ ?_
  generalize hQ : (QX G X (fun u : AS × DS => DWd G o a f ua ub RU u.1 u.2) (Ri (fun r δ => r = (s_line A p c x y).1 ∧ δ.1 = (s_line A p c x y).2 ∧ CRel δ.1 RU ua δ.2)) 0 0) = Qq
  have hnp := hI.1
  have hnq := hI.2.2.2.2.1
  obtain ⟨hS, hP, hA, hU, hRP, hRQ, hRU⟩ := id hC
  refine v_aload_n (pc := 0) C dX4_line_0 rfl ?_
  refine v_iload_n (pc := 1) C dX4_line_1 rfl ?_
  refine V.perm (ws' := (KWd G (a 4) (f 0) K0 ++ (KWd G (a 5) (f 1) K1 ++ (KWd G (a 6) (f 2) K2 ++ (ULd G 10 ua ub Us ++ (PLd G (aNp A) pa pb Ps ++ (QLd G (aNq A) qa qb (fun j => pa (aQp A j)) Zs ++ (CWd G o a RP RQ RU S)))))))) ((List.perm_append_comm).trans (List.Perm.of_eq (by simp only [List.append_assoc]))) ?_
  refine V.same (ws' := (KWd G (a 4) (f 0) K0 ++ (KWd G (a 5) (f 1) K1 ++ (KWd G (a 6) (f 2) K2 ++ (ULd G 10 ua ub Us ++ (PLd G (aNp A) pa pb Ps ++ (QLd G (aNq A) qa qb (fun j => pa (aQp A j)) Zs)))))) ++ (CWd G o a RP RQ RU S)) (by simp only [List.append_assoc]) ?_
  refine v_callV (pc := 2) (st := []) (q0 := 0) (wr := (KWd G (a 4) (f 0) K0 ++ (KWd G (a 5) (f 1) K1 ++ (KWd G (a 6) (f 2) K2 ++ (ULd G 10 ua ub Us ++ (PLd G (aNp A) pa pb Ps ++ (QLd G (aNq A) qa qb (fun j => pa (aQp A j)) Zs))))))) C (kX4_programAt G o a RP RQ RU S p (aNp A) hI.1 hS.1.1) ykX4_programAt cvX4_programAt kw1_188 dX4_line_2 rfl rfl rfl rfl rfl (by decide) (Nat.le_of_ble_eq_true rfl) (by decide) rfl (Rq_kk (fun r_2 u_2 h_2 => ?_))
  obtain ⟨e_2, h_2⟩ := h_2
  rw [e_2]
  refine V.same (ws' := (KWd G (a 4) (f 0) K0 ++ (KWd G (a 5) (f 1) K1 ++ (KWd G (a 6) (f 2) K2 ++ (ULd G 10 ua ub Us ++ (PLd G (aNp A) pa pb Ps ++ (QLd G (aNq A) qa qb (fun j => pa (aQp A j)) Zs ++ (CWd G o a RP RQ RU S)))))))) (by simp only [List.append_assoc]) ?_
  refine V.perm (ws' := (KWd G (a 5) (f 1) K1 ++ (KWd G (a 6) (f 2) K2 ++ (ULd G 10 ua ub Us ++ (PLd G (aNp A) pa pb Ps ++ (QLd G (aNq A) qa qb (fun j => pa (aQp A j)) Zs ++ (CWd G o a RP RQ RU S ++ (KWd G (a 4) (f 0) K0)))))))) ((List.perm_append_comm).trans (List.Perm.of_eq (by simp only [List.append_assoc]))) ?_
  refine V.perm (ws' := (KWd G (a 6) (f 2) K2 ++ (ULd G 10 ua ub Us ++ (PLd G (aNp A) pa pb Ps ++ (QLd G (aNq A) qa qb (fun j => pa (aQp A j)) Zs ++ (CWd G o a RP RQ RU S ++ (KWd G (a 4) (f 0) K0 ++ (KWd G (a 5) (f 1) K1)))))))) ((List.perm_append_comm).trans (List.Perm.of_eq (by simp only [List.append_assoc]))) ?_
  refine V.perm (ws' := (ULd G 10 ua ub Us ++ (PLd G (aNp A) pa pb Ps ++ (QLd G (aNq A) qa qb (fun j => pa (aQp A j)) Zs ++ (CWd G o a RP RQ RU S ++ (KWd G (a 4) (f 0) K0 ++ (KWd G (a 5) (f 1) K1 ++ (KWd G (a 6) (f 2) K2)))))))) ((List.perm_append_comm).trans (List.Perm.of_eq (by simp only [List.append_assoc]))) ?_
  refine V.perm (ws' := (PLd G (aNp A) pa pb Ps ++ (QLd G (aNq A) qa qb (fun j => pa (aQp A j)) Zs ++ (CWd G o a RP RQ RU S ++ (KWd G (a 4) (f 0) K0 ++ (KWd G (a 5) (f 1) K1 ++ (KWd G (a 6) (f 2) K2 ++ (ULd G 10 ua ub Us)))))))) ((List.perm_append_comm).trans (List.Perm.of_eq (by simp only [List.append_assoc]))) ?_
  refine V.perm (ws' := (QLd G (aNq A) qa qb (fun j => pa (aQp A j)) Zs ++ (CWd G o a RP RQ RU S ++ (KWd G (a 4) (f 0) K0 ++ (KWd G (a 5) (f 1) K1 ++ (KWd G (a 6) (f 2) K2 ++ (ULd G 10 ua ub Us ++ (PLd G (aNp A) pa pb Ps)))))))) ((List.perm_append_comm).trans (List.Perm.of_eq (by simp only [List.append_assoc]))) ?_
  refine V.perm (ws' := (CWd G o a RP RQ RU S ++ (KWd G (a 4) (f 0) K0 ++ (KWd G (a 5) (f 1) K1 ++ (KWd G (a 6) (f 2) K2 ++ (ULd G 10 ua ub Us ++ (PLd G (aNp A) pa pb Ps ++ (QLd G (aNq A) qa qb (fun j => pa (aQp A j)) Zs)))))))) ((List.perm_append_comm).trans (List.Perm.of_eq (by simp only [List.append_assoc]))) ?_
  rcases h_2 with ⟨b_p, rfl⟩ | ⟨j, hj, rfl, rfl⟩
  · refine v_rfn rfl ?_
    refine v_astoreN (pc := 5) C dX4_line_5 (by decide) ?_
    refine v_aloadN (pc := 7) C dX4_line_7 rfl ?_
    refine v_ifnullN (pc := 9) (tgt := 22) C dX4_line_9 (by decide) ?_
    refine v_iconst (pc := 22) (v := (-1)) C dX4_line_22 (by decide) ?_
    subst hQ
    exact v_iret (pc := 23) C dX4_line_23 (rfl) ((A, (S, K0, K1, K2, Us, Ps, Zs, RP, RQ, pa, pb, qa, qb))) rfl (⟨by unfold s_line; rw [if_pos b_p], by unfold s_line; rw [if_pos b_p], hC⟩)
  · refine v_rfs (hRP j hj) ?_
    refine V.perm (ws' := (CWd G o a RP RQ RU S ++ (KWd G (a 4) (f 0) K0 ++ (KWd G (a 5) (f 1) K1 ++ (KWd G (a 6) (f 2) K2 ++ (ULd G 10 ua ub Us ++ (PLx G (aNp A) pa pb Ps j ++ (PWd G (pa j) (pb j) (Ps j) ++ (QLd G (aNq A) qa qb (fun j => pa (aQp A j)) Zs))))))))) ((List.Perm.append_left _ (List.Perm.append_left _ (List.Perm.append_left _ (List.Perm.append_left _ (List.Perm.append_left _ (List.Perm.append_right _ (PL_focus hj))))))).trans (List.Perm.of_eq (by simp only [List.append_assoc]))) ?_
    refine V.perm (ws' := (CWd G o a RP RQ RU S ++ (KWd G (a 4) (f 0) K0 ++ (KWd G (a 5) (f 1) K1 ++ (KWd G (a 6) (f 2) K2 ++ (PLx G (aNp A) pa pb Ps j ++ (PWd G (pa j) (pb j) (Ps j) ++ (QLd G (aNq A) qa qb (fun j => pa (aQp A j)) Zs ++ (ULd G 10 ua ub Us))))))))) ((List.Perm.append_left _ (List.Perm.append_left _ (List.Perm.append_left _ (List.Perm.append_left _ (List.perm_append_comm))))).trans (List.Perm.of_eq (by simp only [List.append_assoc]))) ?_
    refine V.perm (ws' := (CWd G o a RP RQ RU S ++ (KWd G (a 4) (f 0) K0 ++ (KWd G (a 5) (f 1) K1 ++ (KWd G (a 6) (f 2) K2 ++ (PWd G (pa j) (pb j) (Ps j) ++ (QLd G (aNq A) qa qb (fun j => pa (aQp A j)) Zs ++ (ULd G 10 ua ub Us ++ (PLx G (aNp A) pa pb Ps j))))))))) ((List.Perm.append_left _ (List.Perm.append_left _ (List.Perm.append_left _ (List.Perm.append_left _ (List.perm_append_comm))))).trans (List.Perm.of_eq (by simp only [List.append_assoc]))) ?_
    refine V.perm (ws' := (CWd G o a RP RQ RU S ++ (KWd G (a 4) (f 0) K0 ++ (KWd G (a 5) (f 1) K1 ++ (KWd G (a 6) (f 2) K2 ++ (PWd G (pa j) (pb j) (Ps j) ++ (ULd G 10 ua ub Us ++ (PLx G (aNp A) pa pb Ps j ++ (QLd G (aNq A) qa qb (fun j => pa (aQp A j)) Zs))))))))) ((List.Perm.append_left _ (List.Perm.append_left _ (List.Perm.append_left _ (List.Perm.append_left _ (List.Perm.append_left _ (List.perm_append_comm)))))).trans (List.Perm.of_eq (by simp only [List.append_assoc]))) ?_
    refine v_astore (pc := 5) C dX4_line_5 (by decide) ?_
    refine v_aload (pc := 7) C dX4_line_7 rfl ?_
    refine v_ifnull (pc := 9) C dX4_line_9 ?_
    refine v_iload_n (pc := 12) C dX4_line_12 rfl ?_
    refine v_iload_n (pc := 13) C dX4_line_13 rfl ?_
    refine v_iload (pc := 14) C dX4_line_14 rfl ?_
    refine v_callS0 (pc := 16) (st := []) C (kX4_fitsOp G _ c x y) ykX4_fitsOp kw1_193 kw1_192 dX4_line_16 rfl rfl rfl (by decide) (Nat.le_of_ble_eq_true rfl) (by decide) rfl (Ri_kk (fun r_16 u_16 h_16 => ?_))
    rcases (mb01 h_16) with ⟨q_16, rfl⟩ | ⟨q_16, rfl⟩
    · refine v_if_neF (pc := 19) (tgt := 24) C (by decide) dX4_line_19 (by decide) ?_
      refine v_iconst (pc := 22) (v := (-1)) C dX4_line_22 (by decide) ?_
      refine V.perm (ws' := (CWd G o a RP RQ RU S ++ (KWd G (a 4) (f 0) K0 ++ (KWd G (a 5) (f 1) K1 ++ (KWd G (a 6) (f 2) K2 ++ (PWd G (pa j) (pb j) (Ps j) ++ (ULd G 10 ua ub Us ++ (QLd G (aNq A) qa qb (fun j => pa (aQp A j)) Zs ++ (PLx G (aNp A) pa pb Ps j))))))))) ((List.Perm.append_left _ (List.Perm.append_left _ (List.Perm.append_left _ (List.Perm.append_left _ (List.Perm.append_left _ (List.Perm.append_left _ (List.perm_append_comm))))))).trans (List.Perm.of_eq (by simp only [List.append_assoc]))) ?_
      refine V.perm (ws' := (CWd G o a RP RQ RU S ++ (KWd G (a 4) (f 0) K0 ++ (KWd G (a 5) (f 1) K1 ++ (KWd G (a 6) (f 2) K2 ++ (ULd G 10 ua ub Us ++ (QLd G (aNq A) qa qb (fun j => pa (aQp A j)) Zs ++ (PLx G (aNp A) pa pb Ps j ++ (PWd G (pa j) (pb j) (Ps j)))))))))) ((List.Perm.append_left _ (List.Perm.append_left _ (List.Perm.append_left _ (List.Perm.append_left _ (List.perm_append_comm))))).trans (List.Perm.of_eq (by simp only [List.append_assoc]))) ?_
      refine V.perm (ws' := (CWd G o a RP RQ RU S ++ (KWd G (a 4) (f 0) K0 ++ (KWd G (a 5) (f 1) K1 ++ (KWd G (a 6) (f 2) K2 ++ (ULd G 10 ua ub Us ++ (QLd G (aNq A) qa qb (fun j => pa (aQp A j)) Zs ++ (PLd G (aNp A) pa pb Ps)))))))) (List.Perm.append_left _ (List.Perm.append_left _ (List.Perm.append_left _ (List.Perm.append_left _ (List.Perm.append_left _ (List.Perm.append_left _ (PL_same hj))))))) ?_
      refine V.perm (ws' := (CWd G o a RP RQ RU S ++ (KWd G (a 4) (f 0) K0 ++ (KWd G (a 5) (f 1) K1 ++ (KWd G (a 6) (f 2) K2 ++ (ULd G 10 ua ub Us ++ (PLd G (aNp A) pa pb Ps ++ (QLd G (aNq A) qa qb (fun j => pa (aQp A j)) Zs)))))))) ((List.Perm.append_left _ (List.Perm.append_left _ (List.Perm.append_left _ (List.Perm.append_left _ (List.Perm.append_left _ (List.perm_append_comm)))))).trans (List.Perm.of_eq (by simp only [List.append_assoc]))) ?_
      subst hQ
      exact v_iret (pc := 23) C dX4_line_23 (rfl) ((A, (S, K0, K1, K2, Us, Ps, Zs, RP, RQ, pa, pb, qa, qb))) rfl (⟨by unfold s_line; rw [if_neg (nbad hj (by omega)), if_pos q_16], by unfold s_line; rw [if_neg (nbad hj (by omega)), if_pos q_16], hC⟩)
    · refine v_if_neT (pc := 19) (tgt := 24) C (by decide) dX4_line_19 (by decide) ?_
      have hn20 := hI.2.1 j
      refine v_aload (pc := 24) C dX4_line_24 rfl ?_
      refine v_getN (pc := 26) (v := .int (mI (Ps j) 8)) C inX1 27 rfl rfl 8 (by decide) nw_19 rfl dX4_line_26 ?_
      refine v_cv (y := (if askedA A j = true then (1 : Int32) else 0)) ((hP j hj).2) ?_
      refine v_if_ne (pc := 29) (tgt := 46) C dX4_line_29 (by decide) (fun c_29 => ?_) (fun c_29 => ?_)
      · refine v_bipush (pc := 46) (v := (-3)) C dX4_line_46 (by decide) ?_
        refine V.perm (ws' := (CWd G o a RP RQ RU S ++ (KWd G (a 4) (f 0) K0 ++ (KWd G (a 5) (f 1) K1 ++ (KWd G (a 6) (f 2) K2 ++ (PWd G (pa j) (pb j) (Ps j) ++ (ULd G 10 ua ub Us ++ (QLd G (aNq A) qa qb (fun j => pa (aQp A j)) Zs ++ (PLx G (aNp A) pa pb Ps j))))))))) ((List.Perm.append_left _ (List.Perm.append_left _ (List.Perm.append_left _ (List.Perm.append_left _ (List.Perm.append_left _ (List.Perm.append_left _ (List.perm_append_comm))))))).trans (List.Perm.of_eq (by simp only [List.append_assoc]))) ?_
        refine V.perm (ws' := (CWd G o a RP RQ RU S ++ (KWd G (a 4) (f 0) K0 ++ (KWd G (a 5) (f 1) K1 ++ (KWd G (a 6) (f 2) K2 ++ (ULd G 10 ua ub Us ++ (QLd G (aNq A) qa qb (fun j => pa (aQp A j)) Zs ++ (PLx G (aNp A) pa pb Ps j ++ (PWd G (pa j) (pb j) (Ps j)))))))))) ((List.Perm.append_left _ (List.Perm.append_left _ (List.Perm.append_left _ (List.Perm.append_left _ (List.perm_append_comm))))).trans (List.Perm.of_eq (by simp only [List.append_assoc]))) ?_
        refine V.perm (ws' := (CWd G o a RP RQ RU S ++ (KWd G (a 4) (f 0) K0 ++ (KWd G (a 5) (f 1) K1 ++ (KWd G (a 6) (f 2) K2 ++ (ULd G 10 ua ub Us ++ (QLd G (aNq A) qa qb (fun j => pa (aQp A j)) Zs ++ (PLd G (aNp A) pa pb Ps)))))))) (List.Perm.append_left _ (List.Perm.append_left _ (List.Perm.append_left _ (List.Perm.append_left _ (List.Perm.append_left _ (List.Perm.append_left _ (PL_same hj))))))) ?_
        refine V.perm (ws' := (CWd G o a RP RQ RU S ++ (KWd G (a 4) (f 0) K0 ++ (KWd G (a 5) (f 1) K1 ++ (KWd G (a 6) (f 2) K2 ++ (ULd G 10 ua ub Us ++ (PLd G (aNp A) pa pb Ps ++ (QLd G (aNq A) qa qb (fun j => pa (aQp A j)) Zs)))))))) ((List.Perm.append_left _ (List.Perm.append_left _ (List.Perm.append_left _ (List.Perm.append_left _ (List.Perm.append_left _ (List.perm_append_comm)))))).trans (List.Perm.of_eq (by simp only [List.append_assoc]))) ?_
        subst hQ
        exact v_iret (pc := 48) C dX4_line_48 (rfl) ((A, (S, K0, K1, K2, Us, Ps, Zs, RP, RQ, pa, pb, qa, qb))) rfl (⟨by unfold s_line; rw [if_neg (nbad hj (by omega)), if_neg q_16, tn_nI (n := j) (by omega), if_pos (sp_t c_29)], by unfold s_line; rw [if_neg (nbad hj (by omega)), if_neg q_16, tn_nI (n := j) (by omega), if_pos (sp_t c_29)], hC⟩)
      · refine v_iload_n (pc := 32) C dX4_line_32 rfl ?_
        refine v_bipush (pc := 33) (v := 6) C dX4_line_33 (by decide) ?_
        refine v_icmp_ne (pc := 35) (tgt := 49) C dX4_line_35 (by decide) (fun c_35 => ?_) (fun c_35 => ?_)
        · refine v_aload (pc := 49) C dX4_line_49 rfl ?_
          refine v_getN (pc := 51) (v := .int (mI (Ps j) 7)) C inX1 27 rfl rfl 7 (by decide) nw_18 rfl dX4_line_51 ?_
          refine v_cv (y := (nI (aN A j))) ((hP j hj).1.1.1) ?_
          refine v_bipush (pc := 54) (v := 20) C dX4_line_54 (by decide) ?_
          refine v_icmp_ltN (pc := 56) (tgt := 62) C (aN A j) 20 rfl rfl (by omega) (by omega) dX4_line_56 (by decide) (fun c_56 => ?_) (fun c_56 => ?_)
          · have h6 : c = 6 → 0 < dp (aO A j) (aN A j) := fun z => absurd z c_35
            refine v_aload_n (pc := 62) C dX4_line_62 rfl ?_
            refine v_dup (pc := 63) C dX4_line_63 rfl ?_
            refine v_get (pc := 64) (v := .int (mI S 13)) C inX4 0 rfl rfl 13 (by decide) kw1_95 rfl dX4_line_64 ?_
            refine v_cv (y := (nI (linesA A (aNp A)))) (hS.2.2.2.2) ?_
            refine v_iconst (pc := 67) (v := 1) C dX4_line_67 (by decide) ?_
            refine v_iaddN (pc := 68) C (linesA A (aNp A)) 1 rfl rfl dX4_line_68 ?_
            refine v_put (pc := 69) C inX4 tyX4 tyX4_ok nmX4 0 rfl rfl 13 (by decide) kw1_95 rfl (rfl) rfl (Nat.le_of_ble_eq_true rfl) dX4_line_69 (ws' := (CWd G o a RP RQ RU (sI S 13 (nI ((linesA A (aNp A)) + 1))) ++ (KWd G (a 4) (f 0) K0 ++ (KWd G (a 5) (f 1) K1 ++ (KWd G (a 6) (f 2) K2 ++ (PWd G (pa j) (pb j) (Ps j) ++ (ULd G 10 ua ub Us ++ (PLx G (aNp A) pa pb Ps j ++ (QLd G (aNq A) qa qb (fun j => pa (aQp A j)) Zs))))))))) rfl ?_
            refine v_aload (pc := 72) C dX4_line_72 rfl ?_
            refine v_iload_n (pc := 74) C dX4_line_74 rfl ?_
            refine v_iload_n (pc := 75) C dX4_line_75 rfl ?_
            refine v_iload (pc := 76) C dX4_line_76 rfl ?_
            refine V.perm (ws' := (CWd G o a RP RQ RU (sI S 13 (nI ((linesA A (aNp A)) + 1))) ++ (KWd G (a 4) (f 0) K0 ++ (KWd G (a 5) (f 1) K1 ++ (KWd G (a 6) (f 2) K2 ++ (ULd G 10 ua ub Us ++ (PLx G (aNp A) pa pb Ps j ++ (QLd G (aNq A) qa qb (fun j => pa (aQp A j)) Zs ++ (PWd G (pa j) (pb j) (Ps j)))))))))) ((List.Perm.append_left _ (List.Perm.append_left _ (List.Perm.append_left _ (List.Perm.append_left _ (List.perm_append_comm))))).trans (List.Perm.of_eq (by simp only [List.append_assoc]))) ?_
            refine V.same (ws' := (CWd G o a RP RQ RU (sI S 13 (nI ((linesA A (aNp A)) + 1))) ++ (KWd G (a 4) (f 0) K0 ++ (KWd G (a 5) (f 1) K1 ++ (KWd G (a 6) (f 2) K2 ++ (ULd G 10 ua ub Us ++ (PLx G (aNp A) pa pb Ps j ++ (QLd G (aNq A) qa qb (fun j => pa (aQp A j)) Zs))))))) ++ (PWd G (pa j) (pb j) (Ps j))) (by simp only [List.append_assoc]) ?_
            refine v_callVN (pc := 78) (st := []) (q0 := 0) (wr := (CWd G o a RP RQ RU (sI S 13 (nI ((linesA A (aNp A)) + 1))) ++ (KWd G (a 4) (f 0) K0 ++ (KWd G (a 5) (f 1) K1 ++ (KWd G (a 6) (f 2) K2 ++ (ULd G 10 ua ub Us ++ (PLx G (aNp A) pa pb Ps j ++ (QLd G (aNq A) qa qb (fun j => pa (aQp A j)) Zs)))))))) C (kX1_append G (pa j) (pb j) (Ps j) (aO A j) (aX A j) (aY A j) (aN A j) c x y (hP j hj).1 (by omega) h6) ykX1_append cvX1_append nw_21 dX4_line_78 rfl rfl rfl rfl rfl (by decide) (Nat.le_of_ble_eq_true rfl) (by decide) rfl (Ri_kk (fun r_78 u_78 h_78 => ?_))
            obtain ⟨er_78, hPC, h8⟩ := h_78
            subst er_78
            refine V.same (ws' := (CWd G o a RP RQ RU (sI S 13 (nI ((linesA A (aNp A)) + 1))) ++ (KWd G (a 4) (f 0) K0 ++ (KWd G (a 5) (f 1) K1 ++ (KWd G (a 6) (f 2) K2 ++ (ULd G 10 ua ub Us ++ (PLx G (aNp A) pa pb Ps j ++ (QLd G (aNq A) qa qb (fun j => pa (aQp A j)) Zs ++ (PWd G (pa j) (pb j) u_78))))))))) (by simp only [List.append_assoc]) ?_
            refine V.perm (ws' := (CWd G o a RP RQ RU (sI S 13 (nI ((linesA A (aNp A)) + 1))) ++ (KWd G (a 4) (f 0) K0 ++ (KWd G (a 5) (f 1) K1 ++ (KWd G (a 6) (f 2) K2 ++ (PLx G (aNp A) pa pb Ps j ++ (QLd G (aNq A) qa qb (fun j => pa (aQp A j)) Zs ++ (PWd G (pa j) (pb j) u_78 ++ (ULd G 10 ua ub Us))))))))) ((List.Perm.append_left _ (List.Perm.append_left _ (List.Perm.append_left _ (List.Perm.append_left _ (List.perm_append_comm))))).trans (List.Perm.of_eq (by simp only [List.append_assoc]))) ?_
            refine V.perm (ws' := (CWd G o a RP RQ RU (sI S 13 (nI ((linesA A (aNp A)) + 1))) ++ (KWd G (a 4) (f 0) K0 ++ (KWd G (a 5) (f 1) K1 ++ (KWd G (a 6) (f 2) K2 ++ (QLd G (aNq A) qa qb (fun j => pa (aQp A j)) Zs ++ (PWd G (pa j) (pb j) u_78 ++ (ULd G 10 ua ub Us ++ (PLx G (aNp A) pa pb Ps j))))))))) ((List.Perm.append_left _ (List.Perm.append_left _ (List.Perm.append_left _ (List.Perm.append_left _ (List.perm_append_comm))))).trans (List.Perm.of_eq (by simp only [List.append_assoc]))) ?_
            refine V.perm (ws' := (CWd G o a RP RQ RU (sI S 13 (nI ((linesA A (aNp A)) + 1))) ++ (KWd G (a 4) (f 0) K0 ++ (KWd G (a 5) (f 1) K1 ++ (KWd G (a 6) (f 2) K2 ++ (PWd G (pa j) (pb j) u_78 ++ (ULd G 10 ua ub Us ++ (PLx G (aNp A) pa pb Ps j ++ (QLd G (aNq A) qa qb (fun j => pa (aQp A j)) Zs))))))))) ((List.Perm.append_left _ (List.Perm.append_left _ (List.Perm.append_left _ (List.Perm.append_left _ (List.perm_append_comm))))).trans (List.Perm.of_eq (by simp only [List.append_assoc]))) ?_
            refine V.perm (ws' := (CWd G o a RP RQ RU (sI S 13 (nI ((linesA A (aNp A)) + 1))) ++ (KWd G (a 4) (f 0) K0 ++ (KWd G (a 5) (f 1) K1 ++ (KWd G (a 6) (f 2) K2 ++ (PWd G (pa j) (pb j) u_78 ++ (ULd G 10 ua ub Us ++ (QLd G (aNq A) qa qb (fun j => pa (aQp A j)) Zs ++ (PLx G (aNp A) pa pb Ps j))))))))) ((List.Perm.append_left _ (List.Perm.append_left _ (List.Perm.append_left _ (List.Perm.append_left _ (List.Perm.append_left _ (List.Perm.append_left _ (List.perm_append_comm))))))).trans (List.Perm.of_eq (by simp only [List.append_assoc]))) ?_
            refine V.perm (ws' := (CWd G o a RP RQ RU (sI S 13 (nI ((linesA A (aNp A)) + 1))) ++ (KWd G (a 4) (f 0) K0 ++ (KWd G (a 5) (f 1) K1 ++ (KWd G (a 6) (f 2) K2 ++ (ULd G 10 ua ub Us ++ (QLd G (aNq A) qa qb (fun j => pa (aQp A j)) Zs ++ (PLx G (aNp A) pa pb Ps j ++ (PWd G (pa j) (pb j) u_78))))))))) ((List.Perm.append_left _ (List.Perm.append_left _ (List.Perm.append_left _ (List.Perm.append_left _ (List.perm_append_comm))))).trans (List.Perm.of_eq (by simp only [List.append_assoc]))) ?_
            refine V.perm (ws' := (CWd G o a RP RQ RU (sI S 13 (nI ((linesA A (aNp A)) + 1))) ++ (KWd G (a 4) (f 0) K0 ++ (KWd G (a 5) (f 1) K1 ++ (KWd G (a 6) (f 2) K2 ++ (ULd G 10 ua ub Us ++ (QLd G (aNq A) qa qb (fun j => pa (aQp A j)) Zs ++ (PLd G (aNp A) pa pb (va_up Ps j u_78))))))))) (List.Perm.append_left _ (List.Perm.append_left _ (List.Perm.append_left _ (List.Perm.append_left _ (List.Perm.append_left _ (List.Perm.append_left _ (PL_back hj u_78))))))) ?_
            refine V.perm (ws' := (CWd G o a RP RQ RU (sI S 13 (nI ((linesA A (aNp A)) + 1))) ++ (KWd G (a 4) (f 0) K0 ++ (KWd G (a 5) (f 1) K1 ++ (KWd G (a 6) (f 2) K2 ++ (ULd G 10 ua ub Us ++ (PLd G (aNp A) pa pb (va_up Ps j u_78) ++ (QLd G (aNq A) qa qb (fun j => pa (aQp A j)) Zs)))))))) ((List.Perm.append_left _ (List.Perm.append_left _ (List.Perm.append_left _ (List.Perm.append_left _ (List.Perm.append_left _ (List.perm_append_comm)))))).trans (List.Perm.of_eq (by simp only [List.append_assoc]))) ?_
            subst hQ
            exact v_iret (pc := 81) C dX4_line_81 (rfl) (((addL A j c x y), ((sI S 13 (nI ((linesA A (aNp A)) + 1))), K0, K1, K2, Us, (va_up Ps j u_78), Zs, RP, RQ, pa, pb, qa, qb))) rfl (⟨by unfold s_line; rw [if_neg (nbad hj (by omega)), if_neg q_16, tn_nI (n := j) (by omega), if_neg (sp_f c_29), if_neg (fun z => c_35 z.1), if_neg (by omega)], by unfold s_line; rw [if_neg (nbad hj (by omega)), if_neg q_16, tn_nI (n := j) (by omega), if_neg (sp_f c_29), if_neg (fun z => c_35 z.1), if_neg (by omega)], CAll_line hI hj (sp_f c_29) hC hPC h8⟩)
          · refine v_bipush (pc := 59) (v := (-2)) C dX4_line_59 (by decide) ?_
            refine V.perm (ws' := (CWd G o a RP RQ RU S ++ (KWd G (a 4) (f 0) K0 ++ (KWd G (a 5) (f 1) K1 ++ (KWd G (a 6) (f 2) K2 ++ (PWd G (pa j) (pb j) (Ps j) ++ (ULd G 10 ua ub Us ++ (QLd G (aNq A) qa qb (fun j => pa (aQp A j)) Zs ++ (PLx G (aNp A) pa pb Ps j))))))))) ((List.Perm.append_left _ (List.Perm.append_left _ (List.Perm.append_left _ (List.Perm.append_left _ (List.Perm.append_left _ (List.Perm.append_left _ (List.perm_append_comm))))))).trans (List.Perm.of_eq (by simp only [List.append_assoc]))) ?_
            refine V.perm (ws' := (CWd G o a RP RQ RU S ++ (KWd G (a 4) (f 0) K0 ++ (KWd G (a 5) (f 1) K1 ++ (KWd G (a 6) (f 2) K2 ++ (ULd G 10 ua ub Us ++ (QLd G (aNq A) qa qb (fun j => pa (aQp A j)) Zs ++ (PLx G (aNp A) pa pb Ps j ++ (PWd G (pa j) (pb j) (Ps j)))))))))) ((List.Perm.append_left _ (List.Perm.append_left _ (List.Perm.append_left _ (List.Perm.append_left _ (List.perm_append_comm))))).trans (List.Perm.of_eq (by simp only [List.append_assoc]))) ?_
            refine V.perm (ws' := (CWd G o a RP RQ RU S ++ (KWd G (a 4) (f 0) K0 ++ (KWd G (a 5) (f 1) K1 ++ (KWd G (a 6) (f 2) K2 ++ (ULd G 10 ua ub Us ++ (QLd G (aNq A) qa qb (fun j => pa (aQp A j)) Zs ++ (PLd G (aNp A) pa pb Ps)))))))) (List.Perm.append_left _ (List.Perm.append_left _ (List.Perm.append_left _ (List.Perm.append_left _ (List.Perm.append_left _ (List.Perm.append_left _ (PL_same hj))))))) ?_
            refine V.perm (ws' := (CWd G o a RP RQ RU S ++ (KWd G (a 4) (f 0) K0 ++ (KWd G (a 5) (f 1) K1 ++ (KWd G (a 6) (f 2) K2 ++ (ULd G 10 ua ub Us ++ (PLd G (aNp A) pa pb Ps ++ (QLd G (aNq A) qa qb (fun j => pa (aQp A j)) Zs)))))))) ((List.Perm.append_left _ (List.Perm.append_left _ (List.Perm.append_left _ (List.Perm.append_left _ (List.Perm.append_left _ (List.perm_append_comm)))))).trans (List.Perm.of_eq (by simp only [List.append_assoc]))) ?_
            subst hQ
            exact v_iret (pc := 61) C dX4_line_61 (rfl) ((A, (S, K0, K1, K2, Us, Ps, Zs, RP, RQ, pa, pb, qa, qb))) rfl (⟨by unfold s_line; rw [if_neg (nbad hj (by omega)), if_neg q_16, tn_nI (n := j) (by omega), if_neg (sp_f c_29), if_neg (fun z => c_35 z.1), if_pos (by omega)], by unfold s_line; rw [if_neg (nbad hj (by omega)), if_neg q_16, tn_nI (n := j) (by omega), if_neg (sp_f c_29), if_neg (fun z => c_35 z.1), if_pos (by omega)], hC⟩)
        · refine v_aload (pc := 38) C dX4_line_38 rfl ?_
          refine V.perm (ws' := (CWd G o a RP RQ RU S ++ (KWd G (a 4) (f 0) K0 ++ (KWd G (a 5) (f 1) K1 ++ (KWd G (a 6) (f 2) K2 ++ (ULd G 10 ua ub Us ++ (PLx G (aNp A) pa pb Ps j ++ (QLd G (aNq A) qa qb (fun j => pa (aQp A j)) Zs ++ (PWd G (pa j) (pb j) (Ps j)))))))))) ((List.Perm.append_left _ (List.Perm.append_left _ (List.Perm.append_left _ (List.Perm.append_left _ (List.perm_append_comm))))).trans (List.Perm.of_eq (by simp only [List.append_assoc]))) ?_
          refine V.same (ws' := (CWd G o a RP RQ RU S ++ (KWd G (a 4) (f 0) K0 ++ (KWd G (a 5) (f 1) K1 ++ (KWd G (a 6) (f 2) K2 ++ (ULd G 10 ua ub Us ++ (PLx G (aNp A) pa pb Ps j ++ (QLd G (aNq A) qa qb (fun j => pa (aQp A j)) Zs))))))) ++ (PWd G (pa j) (pb j) (Ps j))) (by simp only [List.append_assoc]) ?_
          refine v_callVN (pc := 40) (st := []) (q0 := 0) (wr := (CWd G o a RP RQ RU S ++ (KWd G (a 4) (f 0) K0 ++ (KWd G (a 5) (f 1) K1 ++ (KWd G (a 6) (f 2) K2 ++ (ULd G 10 ua ub Us ++ (PLx G (aNp A) pa pb Ps j ++ (QLd G (aNq A) qa qb (fun j => pa (aQp A j)) Zs)))))))) C (kX1_isWhole G (pa j) (pb j) (Ps j)) ykX1_isWhole cvX1_isWhole nw_20 dX4_line_40 rfl rfl rfl rfl rfl (by decide) (Nat.le_of_ble_eq_true rfl) (by decide) rfl (Ri_kk (fun r_40 u_40 h_40 => ?_))
          obtain ⟨e_40, h_40⟩ := h_40
          rw [e_40]
          rw [(hP j hj).1.2.2.1] at h_40
          refine V.same (ws' := (CWd G o a RP RQ RU S ++ (KWd G (a 4) (f 0) K0 ++ (KWd G (a 5) (f 1) K1 ++ (KWd G (a 6) (f 2) K2 ++ (ULd G 10 ua ub Us ++ (PLx G (aNp A) pa pb Ps j ++ (QLd G (aNq A) qa qb (fun j => pa (aQp A j)) Zs ++ (PWd G (pa j) (pb j) (Ps j)))))))))) (by simp only [List.append_assoc]) ?_
          refine V.perm (ws' := (CWd G o a RP RQ RU S ++ (KWd G (a 4) (f 0) K0 ++ (KWd G (a 5) (f 1) K1 ++ (KWd G (a 6) (f 2) K2 ++ (PLx G (aNp A) pa pb Ps j ++ (QLd G (aNq A) qa qb (fun j => pa (aQp A j)) Zs ++ (PWd G (pa j) (pb j) (Ps j) ++ (ULd G 10 ua ub Us))))))))) ((List.Perm.append_left _ (List.Perm.append_left _ (List.Perm.append_left _ (List.Perm.append_left _ (List.perm_append_comm))))).trans (List.Perm.of_eq (by simp only [List.append_assoc]))) ?_
          refine V.perm (ws' := (CWd G o a RP RQ RU S ++ (KWd G (a 4) (f 0) K0 ++ (KWd G (a 5) (f 1) K1 ++ (KWd G (a 6) (f 2) K2 ++ (QLd G (aNq A) qa qb (fun j => pa (aQp A j)) Zs ++ (PWd G (pa j) (pb j) (Ps j) ++ (ULd G 10 ua ub Us ++ (PLx G (aNp A) pa pb Ps j))))))))) ((List.Perm.append_left _ (List.Perm.append_left _ (List.Perm.append_left _ (List.Perm.append_left _ (List.perm_append_comm))))).trans (List.Perm.of_eq (by simp only [List.append_assoc]))) ?_
          refine V.perm (ws' := (CWd G o a RP RQ RU S ++ (KWd G (a 4) (f 0) K0 ++ (KWd G (a 5) (f 1) K1 ++ (KWd G (a 6) (f 2) K2 ++ (PWd G (pa j) (pb j) (Ps j) ++ (ULd G 10 ua ub Us ++ (PLx G (aNp A) pa pb Ps j ++ (QLd G (aNq A) qa qb (fun j => pa (aQp A j)) Zs))))))))) ((List.Perm.append_left _ (List.Perm.append_left _ (List.Perm.append_left _ (List.Perm.append_left _ (List.perm_append_comm))))).trans (List.Perm.of_eq (by simp only [List.append_assoc]))) ?_
          rcases (wh01 (dp_le20 hI hj) h_40) with ⟨q_40, rfl⟩ | ⟨q_40, rfl⟩
          · refine v_if_eqT (pc := 43) (tgt := 49) C (by decide) dX4_line_43 (by decide) ?_
            refine v_aload (pc := 49) C dX4_line_49 rfl ?_
            refine v_getN (pc := 51) (v := .int (mI (Ps j) 7)) C inX1 27 rfl rfl 7 (by decide) nw_18 rfl dX4_line_51 ?_
            refine v_cv (y := (nI (aN A j))) ((hP j hj).1.1.1) ?_
            refine v_bipush (pc := 54) (v := 20) C dX4_line_54 (by decide) ?_
            refine v_icmp_ltN (pc := 56) (tgt := 62) C (aN A j) 20 rfl rfl (by omega) (by omega) dX4_line_56 (by decide) (fun c_56 => ?_) (fun c_56 => ?_)
            · have h6 : c = 6 → 0 < dp (aO A j) (aN A j) := fun _ => by omega
              refine v_aload_n (pc := 62) C dX4_line_62 rfl ?_
              refine v_dup (pc := 63) C dX4_line_63 rfl ?_
              refine v_get (pc := 64) (v := .int (mI S 13)) C inX4 0 rfl rfl 13 (by decide) kw1_95 rfl dX4_line_64 ?_
              refine v_cv (y := (nI (linesA A (aNp A)))) (hS.2.2.2.2) ?_
              refine v_iconst (pc := 67) (v := 1) C dX4_line_67 (by decide) ?_
              refine v_iaddN (pc := 68) C (linesA A (aNp A)) 1 rfl rfl dX4_line_68 ?_
              refine v_put (pc := 69) C inX4 tyX4 tyX4_ok nmX4 0 rfl rfl 13 (by decide) kw1_95 rfl (rfl) rfl (Nat.le_of_ble_eq_true rfl) dX4_line_69 (ws' := (CWd G o a RP RQ RU (sI S 13 (nI ((linesA A (aNp A)) + 1))) ++ (KWd G (a 4) (f 0) K0 ++ (KWd G (a 5) (f 1) K1 ++ (KWd G (a 6) (f 2) K2 ++ (PWd G (pa j) (pb j) (Ps j) ++ (ULd G 10 ua ub Us ++ (PLx G (aNp A) pa pb Ps j ++ (QLd G (aNq A) qa qb (fun j => pa (aQp A j)) Zs))))))))) rfl ?_
              refine v_aload (pc := 72) C dX4_line_72 rfl ?_
              refine v_iload_n (pc := 74) C dX4_line_74 rfl ?_
              refine v_iload_n (pc := 75) C dX4_line_75 rfl ?_
              refine v_iload (pc := 76) C dX4_line_76 rfl ?_
              refine V.perm (ws' := (CWd G o a RP RQ RU (sI S 13 (nI ((linesA A (aNp A)) + 1))) ++ (KWd G (a 4) (f 0) K0 ++ (KWd G (a 5) (f 1) K1 ++ (KWd G (a 6) (f 2) K2 ++ (ULd G 10 ua ub Us ++ (PLx G (aNp A) pa pb Ps j ++ (QLd G (aNq A) qa qb (fun j => pa (aQp A j)) Zs ++ (PWd G (pa j) (pb j) (Ps j)))))))))) ((List.Perm.append_left _ (List.Perm.append_left _ (List.Perm.append_left _ (List.Perm.append_left _ (List.perm_append_comm))))).trans (List.Perm.of_eq (by simp only [List.append_assoc]))) ?_
              refine V.same (ws' := (CWd G o a RP RQ RU (sI S 13 (nI ((linesA A (aNp A)) + 1))) ++ (KWd G (a 4) (f 0) K0 ++ (KWd G (a 5) (f 1) K1 ++ (KWd G (a 6) (f 2) K2 ++ (ULd G 10 ua ub Us ++ (PLx G (aNp A) pa pb Ps j ++ (QLd G (aNq A) qa qb (fun j => pa (aQp A j)) Zs))))))) ++ (PWd G (pa j) (pb j) (Ps j))) (by simp only [List.append_assoc]) ?_
              refine v_callVN (pc := 78) (st := []) (q0 := 0) (wr := (CWd G o a RP RQ RU (sI S 13 (nI ((linesA A (aNp A)) + 1))) ++ (KWd G (a 4) (f 0) K0 ++ (KWd G (a 5) (f 1) K1 ++ (KWd G (a 6) (f 2) K2 ++ (ULd G 10 ua ub Us ++ (PLx G (aNp A) pa pb Ps j ++ (QLd G (aNq A) qa qb (fun j => pa (aQp A j)) Zs)))))))) C (kX1_append G (pa j) (pb j) (Ps j) (aO A j) (aX A j) (aY A j) (aN A j) c x y (hP j hj).1 (by omega) h6) ykX1_append cvX1_append nw_21 dX4_line_78 rfl rfl rfl rfl rfl (by decide) (Nat.le_of_ble_eq_true rfl) (by decide) rfl (Ri_kk (fun r_78 u_78 h_78 => ?_))
              obtain ⟨er_78, hPC, h8⟩ := h_78
              subst er_78
              refine V.same (ws' := (CWd G o a RP RQ RU (sI S 13 (nI ((linesA A (aNp A)) + 1))) ++ (KWd G (a 4) (f 0) K0 ++ (KWd G (a 5) (f 1) K1 ++ (KWd G (a 6) (f 2) K2 ++ (ULd G 10 ua ub Us ++ (PLx G (aNp A) pa pb Ps j ++ (QLd G (aNq A) qa qb (fun j => pa (aQp A j)) Zs ++ (PWd G (pa j) (pb j) u_78))))))))) (by simp only [List.append_assoc]) ?_
              refine V.perm (ws' := (CWd G o a RP RQ RU (sI S 13 (nI ((linesA A (aNp A)) + 1))) ++ (KWd G (a 4) (f 0) K0 ++ (KWd G (a 5) (f 1) K1 ++ (KWd G (a 6) (f 2) K2 ++ (PLx G (aNp A) pa pb Ps j ++ (QLd G (aNq A) qa qb (fun j => pa (aQp A j)) Zs ++ (PWd G (pa j) (pb j) u_78 ++ (ULd G 10 ua ub Us))))))))) ((List.Perm.append_left _ (List.Perm.append_left _ (List.Perm.append_left _ (List.Perm.append_left _ (List.perm_append_comm))))).trans (List.Perm.of_eq (by simp only [List.append_assoc]))) ?_
              refine V.perm (ws' := (CWd G o a RP RQ RU (sI S 13 (nI ((linesA A (aNp A)) + 1))) ++ (KWd G (a 4) (f 0) K0 ++ (KWd G (a 5) (f 1) K1 ++ (KWd G (a 6) (f 2) K2 ++ (QLd G (aNq A) qa qb (fun j => pa (aQp A j)) Zs ++ (PWd G (pa j) (pb j) u_78 ++ (ULd G 10 ua ub Us ++ (PLx G (aNp A) pa pb Ps j))))))))) ((List.Perm.append_left _ (List.Perm.append_left _ (List.Perm.append_left _ (List.Perm.append_left _ (List.perm_append_comm))))).trans (List.Perm.of_eq (by simp only [List.append_assoc]))) ?_
              refine V.perm (ws' := (CWd G o a RP RQ RU (sI S 13 (nI ((linesA A (aNp A)) + 1))) ++ (KWd G (a 4) (f 0) K0 ++ (KWd G (a 5) (f 1) K1 ++ (KWd G (a 6) (f 2) K2 ++ (PWd G (pa j) (pb j) u_78 ++ (ULd G 10 ua ub Us ++ (PLx G (aNp A) pa pb Ps j ++ (QLd G (aNq A) qa qb (fun j => pa (aQp A j)) Zs))))))))) ((List.Perm.append_left _ (List.Perm.append_left _ (List.Perm.append_left _ (List.Perm.append_left _ (List.perm_append_comm))))).trans (List.Perm.of_eq (by simp only [List.append_assoc]))) ?_
              refine V.perm (ws' := (CWd G o a RP RQ RU (sI S 13 (nI ((linesA A (aNp A)) + 1))) ++ (KWd G (a 4) (f 0) K0 ++ (KWd G (a 5) (f 1) K1 ++ (KWd G (a 6) (f 2) K2 ++ (PWd G (pa j) (pb j) u_78 ++ (ULd G 10 ua ub Us ++ (QLd G (aNq A) qa qb (fun j => pa (aQp A j)) Zs ++ (PLx G (aNp A) pa pb Ps j))))))))) ((List.Perm.append_left _ (List.Perm.append_left _ (List.Perm.append_left _ (List.Perm.append_left _ (List.Perm.append_left _ (List.Perm.append_left _ (List.perm_append_comm))))))).trans (List.Perm.of_eq (by simp only [List.append_assoc]))) ?_
              refine V.perm (ws' := (CWd G o a RP RQ RU (sI S 13 (nI ((linesA A (aNp A)) + 1))) ++ (KWd G (a 4) (f 0) K0 ++ (KWd G (a 5) (f 1) K1 ++ (KWd G (a 6) (f 2) K2 ++ (ULd G 10 ua ub Us ++ (QLd G (aNq A) qa qb (fun j => pa (aQp A j)) Zs ++ (PLx G (aNp A) pa pb Ps j ++ (PWd G (pa j) (pb j) u_78))))))))) ((List.Perm.append_left _ (List.Perm.append_left _ (List.Perm.append_left _ (List.Perm.append_left _ (List.perm_append_comm))))).trans (List.Perm.of_eq (by simp only [List.append_assoc]))) ?_
              refine V.perm (ws' := (CWd G o a RP RQ RU (sI S 13 (nI ((linesA A (aNp A)) + 1))) ++ (KWd G (a 4) (f 0) K0 ++ (KWd G (a 5) (f 1) K1 ++ (KWd G (a 6) (f 2) K2 ++ (ULd G 10 ua ub Us ++ (QLd G (aNq A) qa qb (fun j => pa (aQp A j)) Zs ++ (PLd G (aNp A) pa pb (va_up Ps j u_78))))))))) (List.Perm.append_left _ (List.Perm.append_left _ (List.Perm.append_left _ (List.Perm.append_left _ (List.Perm.append_left _ (List.Perm.append_left _ (PL_back hj u_78))))))) ?_
              refine V.perm (ws' := (CWd G o a RP RQ RU (sI S 13 (nI ((linesA A (aNp A)) + 1))) ++ (KWd G (a 4) (f 0) K0 ++ (KWd G (a 5) (f 1) K1 ++ (KWd G (a 6) (f 2) K2 ++ (ULd G 10 ua ub Us ++ (PLd G (aNp A) pa pb (va_up Ps j u_78) ++ (QLd G (aNq A) qa qb (fun j => pa (aQp A j)) Zs)))))))) ((List.Perm.append_left _ (List.Perm.append_left _ (List.Perm.append_left _ (List.Perm.append_left _ (List.Perm.append_left _ (List.perm_append_comm)))))).trans (List.Perm.of_eq (by simp only [List.append_assoc]))) ?_
              subst hQ
              exact v_iret (pc := 81) C dX4_line_81 (rfl) (((addL A j c x y), ((sI S 13 (nI ((linesA A (aNp A)) + 1))), K0, K1, K2, Us, (va_up Ps j u_78), Zs, RP, RQ, pa, pb, qa, qb))) rfl (⟨by unfold s_line; rw [if_neg (nbad hj (by omega)), if_neg q_16, tn_nI (n := j) (by omega), if_neg (sp_f c_29), if_neg (fun z => q_40 z.2), if_neg (by omega)], by unfold s_line; rw [if_neg (nbad hj (by omega)), if_neg q_16, tn_nI (n := j) (by omega), if_neg (sp_f c_29), if_neg (fun z => q_40 z.2), if_neg (by omega)], CAll_line hI hj (sp_f c_29) hC hPC h8⟩)
            · refine v_bipush (pc := 59) (v := (-2)) C dX4_line_59 (by decide) ?_
              refine V.perm (ws' := (CWd G o a RP RQ RU S ++ (KWd G (a 4) (f 0) K0 ++ (KWd G (a 5) (f 1) K1 ++ (KWd G (a 6) (f 2) K2 ++ (PWd G (pa j) (pb j) (Ps j) ++ (ULd G 10 ua ub Us ++ (QLd G (aNq A) qa qb (fun j => pa (aQp A j)) Zs ++ (PLx G (aNp A) pa pb Ps j))))))))) ((List.Perm.append_left _ (List.Perm.append_left _ (List.Perm.append_left _ (List.Perm.append_left _ (List.Perm.append_left _ (List.Perm.append_left _ (List.perm_append_comm))))))).trans (List.Perm.of_eq (by simp only [List.append_assoc]))) ?_
              refine V.perm (ws' := (CWd G o a RP RQ RU S ++ (KWd G (a 4) (f 0) K0 ++ (KWd G (a 5) (f 1) K1 ++ (KWd G (a 6) (f 2) K2 ++ (ULd G 10 ua ub Us ++ (QLd G (aNq A) qa qb (fun j => pa (aQp A j)) Zs ++ (PLx G (aNp A) pa pb Ps j ++ (PWd G (pa j) (pb j) (Ps j)))))))))) ((List.Perm.append_left _ (List.Perm.append_left _ (List.Perm.append_left _ (List.Perm.append_left _ (List.perm_append_comm))))).trans (List.Perm.of_eq (by simp only [List.append_assoc]))) ?_
              refine V.perm (ws' := (CWd G o a RP RQ RU S ++ (KWd G (a 4) (f 0) K0 ++ (KWd G (a 5) (f 1) K1 ++ (KWd G (a 6) (f 2) K2 ++ (ULd G 10 ua ub Us ++ (QLd G (aNq A) qa qb (fun j => pa (aQp A j)) Zs ++ (PLd G (aNp A) pa pb Ps)))))))) (List.Perm.append_left _ (List.Perm.append_left _ (List.Perm.append_left _ (List.Perm.append_left _ (List.Perm.append_left _ (List.Perm.append_left _ (PL_same hj))))))) ?_
              refine V.perm (ws' := (CWd G o a RP RQ RU S ++ (KWd G (a 4) (f 0) K0 ++ (KWd G (a 5) (f 1) K1 ++ (KWd G (a 6) (f 2) K2 ++ (ULd G 10 ua ub Us ++ (PLd G (aNp A) pa pb Ps ++ (QLd G (aNq A) qa qb (fun j => pa (aQp A j)) Zs)))))))) ((List.Perm.append_left _ (List.Perm.append_left _ (List.Perm.append_left _ (List.Perm.append_left _ (List.Perm.append_left _ (List.perm_append_comm)))))).trans (List.Perm.of_eq (by simp only [List.append_assoc]))) ?_
              subst hQ
              exact v_iret (pc := 61) C dX4_line_61 (rfl) ((A, (S, K0, K1, K2, Us, Ps, Zs, RP, RQ, pa, pb, qa, qb))) rfl (⟨by unfold s_line; rw [if_neg (nbad hj (by omega)), if_neg q_16, tn_nI (n := j) (by omega), if_neg (sp_f c_29), if_neg (fun z => q_40 z.2), if_pos (by omega)], by unfold s_line; rw [if_neg (nbad hj (by omega)), if_neg q_16, tn_nI (n := j) (by omega), if_neg (sp_f c_29), if_neg (fun z => q_40 z.2), if_pos (by omega)], hC⟩)
          · refine v_if_eqF (pc := 43) (tgt := 49) C (by decide) dX4_line_43 (by decide) ?_
            refine v_bipush (pc := 46) (v := (-3)) C dX4_line_46 (by decide) ?_
            refine V.perm (ws' := (CWd G o a RP RQ RU S ++ (KWd G (a 4) (f 0) K0 ++ (KWd G (a 5) (f 1) K1 ++ (KWd G (a 6) (f 2) K2 ++ (PWd G (pa j) (pb j) (Ps j) ++ (ULd G 10 ua ub Us ++ (QLd G (aNq A) qa qb (fun j => pa (aQp A j)) Zs ++ (PLx G (aNp A) pa pb Ps j))))))))) ((List.Perm.append_left _ (List.Perm.append_left _ (List.Perm.append_left _ (List.Perm.append_left _ (List.Perm.append_left _ (List.Perm.append_left _ (List.perm_append_comm))))))).trans (List.Perm.of_eq (by simp only [List.append_assoc]))) ?_
            refine V.perm (ws' := (CWd G o a RP RQ RU S ++ (KWd G (a 4) (f 0) K0 ++ (KWd G (a 5) (f 1) K1 ++ (KWd G (a 6) (f 2) K2 ++ (ULd G 10 ua ub Us ++ (QLd G (aNq A) qa qb (fun j => pa (aQp A j)) Zs ++ (PLx G (aNp A) pa pb Ps j ++ (PWd G (pa j) (pb j) (Ps j)))))))))) ((List.Perm.append_left _ (List.Perm.append_left _ (List.Perm.append_left _ (List.Perm.append_left _ (List.perm_append_comm))))).trans (List.Perm.of_eq (by simp only [List.append_assoc]))) ?_
            refine V.perm (ws' := (CWd G o a RP RQ RU S ++ (KWd G (a 4) (f 0) K0 ++ (KWd G (a 5) (f 1) K1 ++ (KWd G (a 6) (f 2) K2 ++ (ULd G 10 ua ub Us ++ (QLd G (aNq A) qa qb (fun j => pa (aQp A j)) Zs ++ (PLd G (aNp A) pa pb Ps)))))))) (List.Perm.append_left _ (List.Perm.append_left _ (List.Perm.append_left _ (List.Perm.append_left _ (List.Perm.append_left _ (List.Perm.append_left _ (PL_same hj))))))) ?_
            refine V.perm (ws' := (CWd G o a RP RQ RU S ++ (KWd G (a 4) (f 0) K0 ++ (KWd G (a 5) (f 1) K1 ++ (KWd G (a 6) (f 2) K2 ++ (ULd G 10 ua ub Us ++ (PLd G (aNp A) pa pb Ps ++ (QLd G (aNq A) qa qb (fun j => pa (aQp A j)) Zs)))))))) ((List.Perm.append_left _ (List.Perm.append_left _ (List.Perm.append_left _ (List.Perm.append_left _ (List.Perm.append_left _ (List.perm_append_comm)))))).trans (List.Perm.of_eq (by simp only [List.append_assoc]))) ?_
            subst hQ
            exact v_iret (pc := 48) C dX4_line_48 (rfl) ((A, (S, K0, K1, K2, Us, Ps, Zs, RP, RQ, pa, pb, qa, qb))) rfl (⟨by unfold s_line; rw [if_neg (nbad hj (by omega)), if_neg q_16, tn_nI (n := j) (by omega), if_neg (sp_f c_29), if_pos ⟨c_35, q_40⟩], by unfold s_line; rw [if_neg (nbad hj (by omega)), if_neg q_16, tn_nI (n := j) (by omega), if_neg (sp_f c_29), if_pos ⟨c_35, q_40⟩], hC⟩)
