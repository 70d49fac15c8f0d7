/-! the machine: a line as both sides mean it -/
/-- a program as the machine reads it -/
def PR (O X Y : Nat → Int32) (n : Nat) (T : MS) : Prop := mI T 7 = nI n ∧ (∀ k, k < n → mA T 0 k = O k ∧ mA T 1 k = X k ∧ mA T 2 k = Y k) ∧ ∀ i e, Mt O i e → e < n → mA T 4 i = nI e ∧ mA T 4 e = nI i
/-- a run's state as the machine holds it -/
def KRel (O : Nat → Int32) (s : RS) (S : MS) : Prop := (∀ k, k < 4 → mA S 0 k = s.2.1 k) ∧ (∀ k, k < 8 → mA S 1 k = s.2.2.1 k) ∧ (∀ k, k < 2 → mA S 2 k = nI (4 * tn (s.2.2.2.1 k))) ∧ ∀ k, act O k s.1 → mL S k = s.2.2.2.2 k
/-- with the slip of rows no two names share -/
def sl1 (mk : Int32) (rw : Nat → Int32) : Prop := ¬ mk &&& 1 = 0 → rw 0 = nI 0 ∧ rw 1 = nI 1
theorem upd_ag {f g : Nat → Int32} {m x : Nat} {v w : Int32} (h : ∀ k, k < m → f k = g k) (hv : v = w) : ∀ k, k < m → upd f x v k = upd g x w k := by
  intro k hk
  by_cases e : k = x
  · subst e; rw [pk_us, pk_us, hv]
  · rw [pk_un e, pk_un e]; exact h k hk
theorem act_un {O : Nat → Int32} {l k : Nat} (h4 : ¬ O l = 4) (h : act O k (l + 1)) : act O k l := by
  rcases act_next h with q | q
  · subst q
    obtain ⟨e, -, b, -⟩ := h
    exact absurd b h4
  · exact q
theorem tn_lt {rw : Nat → Int32} (h : okr rw) {k : Nat} (hk : k < 2) : tn (rw k) < 2 := by
  rcases h k hk with q | q <;> rw [q] <;> decide
theorem okK_of {O : Nat → Int32} {s : RS} {S : MS} (hK : KRel O s S) (hr : okr s.2.2.2.1) : okK S := by
  intro k hk
  rw [hK.2.2.1 k hk]
  rcases hr k hk with q | q
  · rw [q]; exact Or.inl rfl
  · rw [q]; exact Or.inr rfl
theorem row4 {O : Nat → Int32} {s : RS} {S : MS} (hK : KRel O s S) (hr : okr s.2.2.2.1) {k : Nat} (hk : k < 2) : tn (mA S 2 k) = 4 * tn (s.2.2.2.1 k) := by
  rw [hK.2.2.1 k hk]
  have := tn_lt hr hk
  exact tn_nI (by omega)
theorem and3_lt (x : Int32) : tn (x &&& 3) < 4 := by
  obtain ⟨κ, hκ, eκ⟩ := pk_andE x (m := 3) 2 (by decide)
  rw [eκ, tn_nI (by omega)]
  exact hκ
theorem cpk_ag {f g : Nat → Int32} {a t : Nat} (ha : a < 2) (ht : t < 2) (h : ∀ k, k < 8 → f k = g k) : ∀ j, j ≤ 4 → ∀ k, k < 8 → cpk f a t j k = cpk g a t j k := by
  intro j
  induction j with
  | zero => intro _; exact h
  | succ j ih =>
    intro hj
    have i2 := ih (by omega)
    exact upd_ag i2 (i2 (4 * a + j) (by omega))
theorem pos64 {x : Int32} : 0 < x.toInt64 ↔ 0 < x := by
  rw [Int64.lt_iff_toInt_lt, Int32.lt_iff_toInt_lt]
  have e : x.toInt64.toInt = x.toInt := by simp
  rw [e]; rfl
theorem sl1_st {O X Y : Nat → Int32} {mk : Int32} {s : RS} (h : sl1 mk s.2.2.2.1) (hl : okl (O s.1) (X s.1) (Y s.1)) : sl1 mk (stS O X Y mk s).2.2.2.1 := by
  rcases hl with ⟨ho, -⟩ | ⟨ho, -⟩ | ⟨ho, -⟩ | ⟨ho, -⟩ | ⟨ho, -⟩ | ⟨ho, -⟩ | ho | ⟨ho, -⟩ | ⟨ho, -⟩ | ⟨ho, ⟨x, hx, ex⟩, y, hy, ey⟩
  · rw [st_0 ho]; exact h
  · rw [st_1 ho]; exact h
  · rw [st_2 ho]; exact h
  · rw [st_3 ho]; exact h
  · rw [st_4 ho]; exact h
  · rw [st_5 ho]; exact h
  · rw [st_6 ho]; split <;> exact h
  · rw [st_7 ho]; exact h
  · rw [st_8 ho]; exact h
  · intro hm
    obtain ⟨a0, a1⟩ := h hm
    rw [st_9 ho, if_neg hm]
    have ne : ¬ s.2.2.2.1 0 = s.2.2.2.1 1 := by rw [a0, a1]; decide
    have tx : tn (X s.1) = x := by rw [ex]; exact tn_nI (by omega)
    show upd s.2.2.2.1 (tn (X s.1)) (nI (if s.2.2.2.1 0 = s.2.2.2.1 1 then 1 - tn (s.2.2.2.1 (tn (Y s.1))) else tn (s.2.2.2.1 (tn (X s.1))))) 0 = nI 0 ∧ upd s.2.2.2.1 (tn (X s.1)) (nI (if s.2.2.2.1 0 = s.2.2.2.1 1 then 1 - tn (s.2.2.2.1 (tn (Y s.1))) else tn (s.2.2.2.1 (tn (X s.1))))) 1 = nI 1
    rw [if_neg ne, tx]
    rcases (show x = 0 ∨ x = 1 by omega) with rfl | rfl
    · rw [pk_us, pk_un (by decide), a0]; exact ⟨rfl, a1⟩
    · rw [pk_us, pk_un (by decide), a1]; exact ⟨a0, rfl⟩
section KD
variable (G : TG) (p o : Nat) (c b : Nat → Nat) (T S : MS) {O X Y : Nat → Int32} {n : Nat} {mk : Int32}
theorem kX0_doLine (s : RS) (hP : PR O X Y n T) (hok : okp O X Y n) (hs : s.1 < n) (hK : KRel O s S) (hr : okr s.2.2.2.1) (h1 : sl1 mk s.2.2.2.1) (hmk : mI S 5 = mk) : CT G yX0_doLine cX0_doLine 5 (some .int) rmX0_doLine 0 0 [.ref o, .ref p, .int (nI s.1)] (PWd G p c T ++ KWd G o b S) (fun S : MS => PWd G p c T ++ KWd G o b S) (Ri (fun r S' => r = nI (stS O X Y mk s).1 ∧ KRel O (stS O X Y mk s) S' ∧ (∀ k, mI S' k = mI S k) ∧ mA S' 3 = mA S 3)) := by
  obtain ⟨hn, hw, h0, hlines⟩ := hok
  have hl20 : s.1 < 20 := by omega
  obtain ⟨tO, tX, tY⟩ := hP.2.1 s.1 hs
  have hkK := okK_of hK hr
  obtain ⟨K0, K1, K2, K3⟩ := id hK
  rcases hlines s.1 hs with ⟨ho, x, hx, ex⟩ | ⟨ho, ⟨x, hx, ex⟩, y, hy, ey⟩ | ⟨ho, ⟨x, hx, ex⟩, y, hy, ey⟩ | ⟨ho, ⟨x, hx, ex⟩, y, hy, ey⟩ | ⟨ho, x, hx, ex⟩ | ⟨ho, ⟨x, hx, ex⟩, y, hy, ey⟩ | ho | ⟨ho, ⟨x, hx, ex⟩, y, hy, ey⟩ | ⟨ho, ⟨x, hx, ex⟩, y, hy, ey⟩ | ⟨ho, ⟨x, hx, ex⟩, y, hy, ey⟩
  · have tx : tn (X s.1) = x := by rw [ex]; exact tn_nI (by omega)
    have hu : ¬ O s.1 = 4 := by rw [ho]; decide
    refine (kX0_doLine_0 G p o c b T S s.1 hl20 (tO.trans ho) x (tX.trans ex) hx).monoI (fun r S' h => ?_)
    obtain ⟨e1, e2⟩ := h
    subst e2
    rw [st_0 ho, tx]
    exact ⟨e1, ⟨upd_ag K0 tY, K1, K2, fun k hk => K3 k (act_un hu hk)⟩, fun _ => rfl, rfl⟩
  · have tx : tn (X s.1) = x := by rw [ex]; exact tn_nI (by omega)
    have ty : tn (Y s.1) = y := by rw [ey]; exact tn_nI (by omega)
    have hu : ¬ O s.1 = 4 := by rw [ho]; decide
    refine (kX0_doLine_1 G p o c b T S s.1 hl20 (tO.trans ho) x (tX.trans ex) y (tY.trans ey) hx hy).monoI (fun r S' h => ?_)
    obtain ⟨e1, e2⟩ := h
    subst e2
    rw [st_1 ho, tx, ty, hmk]
    refine ⟨e1, ⟨?_, K1, K2, fun k hk => K3 k (act_un hu hk)⟩, fun _ => rfl, rfl⟩
    show ∀ k, k < 4 → (if mk &&& 4 = 0 then upd (mA S 0) x (mA S 0 y) else upd (mA S 0) y (mA S 0 x)) k = _
    by_cases q : mk &&& 4 = 0
    · rw [if_pos q, if_pos q]; exact upd_ag K0 (K0 y hy)
    · rw [if_neg q, if_neg q]; exact upd_ag K0 (K0 x hx)
  · have tx : tn (X s.1) = x := by rw [ex]; exact tn_nI (by omega)
    have ty : tn (Y s.1) = y := by rw [ey]; exact tn_nI (by omega)
    have hu : ¬ O s.1 = 4 := by rw [ho]; decide
    refine (kX0_doLine_2 G p o c b T S s.1 hl20 (tO.trans ho) x (tX.trans ex) y (tY.trans ey) hx hy).monoI (fun r S' h => ?_)
    obtain ⟨e1, e2⟩ := h
    subst e2
    rw [st_2 ho, tx, ty]
    exact ⟨e1, ⟨upd_ag K0 (by rw [K0 x hx, K0 y hy]), K1, K2, fun k hk => K3 k (act_un hu hk)⟩, fun _ => rfl, rfl⟩
  · have tx : tn (X s.1) = x := by rw [ex]; exact tn_nI (by omega)
    have ty : tn (Y s.1) = y := by rw [ey]; exact tn_nI (by omega)
    have hu : ¬ O s.1 = 4 := by rw [ho]; decide
    refine (kX0_doLine_3 G p o c b T S s.1 hl20 (tO.trans ho) x (tX.trans ex) y (tY.trans ey) hx hy).monoI (fun r S' h => ?_)
    obtain ⟨e1, e2⟩ := h
    subst e2
    rw [st_3 ho, tx, ty]
    exact ⟨e1, ⟨upd_ag K0 (by rw [K0 x hx, K0 y hy, hmk]), K1, K2, fun k hk => K3 k (act_un hu hk)⟩, fun _ => rfl, rfl⟩
  · have tx : tn (X s.1) = x := by rw [ex]; exact tn_nI (by omega)
    obtain ⟨e, hm, he⟩ := mt_of_open hw h0 hs (Or.inl ho)
    refine (kX0_doLine_4 G p o c b T S s.1 hl20 (tO.trans ho) x (tX.trans ex) hx e (by omega) (hP.2.2 s.1 e hm he).1).monoI (fun r S' h => ?_)
    obtain ⟨e1, e2⟩ := h
    rw [st_4 ho, tx, hm.E]
    rw [K0 x hx] at e1 e2
    by_cases q : 0 < s.2.1 x
    · have q2 := pos64.mpr q
      rw [if_pos q] at e1 e2
      subst e2
      rw [if_pos q2]
      refine ⟨e1, ⟨K0, K1, K2, fun k hk => ?_⟩, fun _ => rfl, rfl⟩
      show vp_updL (mL S) s.1 _ k = vp_updL s.2.2.2.2 s.1 _ k
      by_cases z : k = s.1
      · subst z
        simp only [vp_updL, if_true]
        rw [hmk]
        by_cases w : mk &&& 2 = 0
        · rw [if_pos w, if_neg (fun y => y.2 w)]
        · rw [if_neg w, if_pos ⟨q2, w⟩]
      · simp only [vp_updL, z, if_false]
        exact K3 k ((act_next hk).elim (fun y => absurd y z) id)
    · have q2 : ¬ 0 < (s.2.1 x).toInt64 := fun y => q (pos64.mp y)
      rw [if_neg q] at e1 e2
      subst e2
      rw [if_neg q2]
      refine ⟨e1, ⟨K0, K1, K2, fun k hk => ?_⟩, fun _ => rfl, rfl⟩
      obtain ⟨z, hz⟩ := act_jump hm hk
      show mL _ k = vp_updL s.2.2.2.2 s.1 _ k
      simp only [vp_updL, z, if_false]
      exact K3 k hz
  · have tx : tn (X s.1) = x := by rw [ex]; exact tn_nI (by omega)
    have ty : tn (Y s.1) = y := by rw [ey]; exact tn_nI (by omega)
    have hu : ¬ O s.1 = 4 := by rw [ho]; decide
    obtain ⟨e, hm, he⟩ := mt_of_open hw h0 hs (Or.inr ho)
    refine (kX0_doLine_5 G p o c b T S s.1 hl20 (tO.trans ho) x (tX.trans ex) y (tY.trans ey) hx hy e (by omega) (hP.2.2 s.1 e hm he).1).monoI (fun r S' h => ?_)
    obtain ⟨e1, e2⟩ := h
    subst e2
    rw [K0 x hx, K0 y hy, hmk] at e1
    rw [st_5 ho, tx, ty, hm.E]
    refine ⟨e1, ⟨K0, K1, K2, fun k hk => ?_⟩, fun _ => rfl, rfl⟩
    by_cases z : s.2.1 x < s.2.1 y ∨ (¬ mk &&& 8 = 0 ∧ s.2.1 x = s.2.1 y)
    · rw [if_pos z] at hk; exact K3 k (act_un hu hk)
    · rw [if_neg z] at hk; exact K3 k (act_jump hm hk).2
  · have hu : ¬ O s.1 = 4 := by rw [ho]; decide
    obtain ⟨i, hm⟩ := mt_of_end ho (hw s.1 hs ho)
    have hi : i < n := Nat.lt_trans hm.1 hs
    refine (kX0_doLine_6 G p o c b T S s.1 hl20 (tO.trans ho) i (by omega) (hP.2.2 i s.1 hm hs).2).monoI (fun r S' h => ?_)
    have tOi := (hP.2.1 i hi).1
    rw [tOi] at h
    rw [st_6 ho, hm.I]
    by_cases h5 : O i = 5
    · obtain ⟨e1, e2⟩ := h.1 (by rw [h5]; decide)
      subst e2
      rw [if_pos h5]
      exact ⟨e1, ⟨K0, K1, K2, fun k hk => K3 k (act_un hu hk)⟩, fun _ => rfl, rfl⟩
    · have h4 : O i = 4 := hm.2.1.elim id (fun z => absurd z h5)
      obtain ⟨e1, e2⟩ := h.2 h4
      subst e2
      have ei : mL S i = s.2.2.2.2 i := K3 i ⟨s.1, hm, h4, hm.1, Nat.le_refl _⟩
      rw [ei] at e1
      rw [if_neg h5]
      refine ⟨e1, ⟨K0, K1, K2, fun k hk => ?_⟩, fun _ => rfl, rfl⟩
      show vp_updL (mL S) i _ k = vp_updL s.2.2.2.2 i _ k
      by_cases z : k = i
      · subst z; simp only [vp_updL, if_true]; rw [ei]
      · simp only [vp_updL, z, if_false]
        have hk : act O k (if 0 < s.2.2.2.2 i - 1 then i + 1 else s.1 + 1) := hk
        by_cases w : 0 < s.2.2.2.2 i - 1
        · rw [if_pos w] at hk; exact K3 k ((act_back hm hk).elim (fun y => absurd y z) id)
        · rw [if_neg w] at hk; exact K3 k (act_un hu hk)
  · have tx : tn (X s.1) = x := by rw [ex]; exact tn_nI (by omega)
    have ty : tn (Y s.1) = y := by rw [ey]; exact tn_nI (by omega)
    have hu : ¬ O s.1 = 4 := by rw [ho]; decide
    refine (kX0_doLine_7 G p o c b T S s.1 hl20 (tO.trans ho) x (tX.trans ex) y (tY.trans ey) hx hy hkK).monoI (fun r S' h => ?_)
    obtain ⟨e1, e2⟩ := h
    subst e2
    rw [st_7 ho, tx, ty, row4 hK hr (show x / 4 < 2 by omega), Int32.add_zero, K0 (x % 4) (by omega)]
    exact ⟨e1, ⟨K0, upd_ag K1 (K0 y hy), K2, fun k hk => K3 k (act_un hu hk)⟩, fun _ => rfl, rfl⟩
  · have tx : tn (X s.1) = x := by rw [ex]; exact tn_nI (by omega)
    have ty : tn (Y s.1) = y := by rw [ey]; exact tn_nI (by omega)
    have hu : ¬ O s.1 = 4 := by rw [ho]; decide
    refine (kX0_doLine_8 G p o c b T S s.1 hl20 (tO.trans ho) x (tX.trans ex) y (tY.trans ey) hx hy hkK).monoI (fun r S' h => ?_)
    obtain ⟨e1, e2⟩ := h
    subst e2
    have l1 := tn_lt hr (show y / 4 < 2 by omega)
    have l2 := and3_lt (s.2.1 (y % 4) + (if mk &&& 32 = 0 then 0 else 1))
    rw [st_8 ho, tx, ty, row4 hK hr (show y / 4 < 2 by omega), K0 (y % 4) (by omega), hmk]
    exact ⟨e1, ⟨upd_ag K0 (K1 _ (by omega)), K1, K2, fun k hk => K3 k (act_un hu hk)⟩, fun _ => rfl, rfl⟩
  · have tx : tn (X s.1) = x := by rw [ex]; exact tn_nI (by omega)
    have ty : tn (Y s.1) = y := by rw [ey]; exact tn_nI (by omega)
    have hu : ¬ O s.1 = 4 := by rw [ho]; decide
    rw [st_9 ho, tx, ty]
    by_cases q : mk &&& 1 = 0
    · refine (kX0_doLine_9 G p o c b T S s.1 hl20 (tO.trans ho) x (tX.trans ex) y (tY.trans ey) hx hy (by rw [hmk]; exact q)).monoI (fun r S' h => ?_)
      obtain ⟨e1, e2⟩ := h
      subst e2
      rw [if_pos q]
      refine ⟨e1, ⟨K0, K1, fun k hk => ?_, fun k hk => K3 k (act_un hu hk)⟩, fun _ => rfl, rfl⟩
      show upd (mA S 2) x (mA S 2 y) k = nI (4 * tn (upd s.2.2.2.1 x (s.2.2.2.1 y) k))
      by_cases z : k = x
      · subst z; rw [pk_us, pk_us]; exact K2 y hy
      · rw [pk_un z, pk_un z]; exact K2 k hk
    · obtain ⟨a0, a1⟩ := h1 q
      have ne : ¬ s.2.2.2.1 0 = s.2.2.2.1 1 := by rw [a0, a1]; decide
      have lx := tn_lt hr hx
      have ly := tn_lt hr hy
      refine (kX0_doLine_9s G p o c b T S s.1 hl20 (tO.trans ho) x (tX.trans ex) y (tY.trans ey) hx hy (by rw [hmk]; exact q) (tn (s.2.2.2.1 x)) (tn (s.2.2.2.1 y)) lx ly (K2 x hx) (K2 y hy)).monoI (fun r S' h => ?_)
      obtain ⟨e1, e2⟩ := h
      subst e2
      rw [if_neg q, if_neg ne]
      refine ⟨e1, ⟨K0, cpk_ag ly lx K1 4 (Nat.le_refl 4), fun k hk => ?_, fun k hk => K3 k (act_un hu hk)⟩, fun _ => rfl, rfl⟩
      show mA S 2 k = nI (4 * tn (upd s.2.2.2.1 x (nI (tn (s.2.2.2.1 x))) k))
      by_cases z : k = x
      · subst z; rw [pk_us, tn_nI (by omega)]; exact K2 k hk
      · rw [pk_un z]; exact K2 k hk
end KD
/-- a run's end as the machine holds it -/
def KFin (n : Nat) (R : Nat × (Nat → Int32) × RS) (S : MS) : Prop := (∀ k, k < 4 → mA S 0 k = R.2.2.2.1 k) ∧ (∀ k, k < 8 → mA S 1 k = R.2.2.2.2.1 k) ∧ (∀ k, k < 2 → mA S 2 k = nI (4 * tn (R.2.2.2.2.2.1 k))) ∧ (∀ k, k < 20 → mA S 3 k = R.2.1 k) ∧ mI S 6 = nI n ∧ mI S 7 = nI R.1 ∧ mI S 8 = (if R.2.2.1 < n then 1 else 0) ∧ okr R.2.2.2.2.2.1
