/-! Arrays.fill, and the machine's small methods -/
def rmJ7_fill_53178 : Room := { frames := 0, cells := 0, slots := 0, locals := 0 }
set_option maxHeartbeats 4000000 in
theorem kJ7_fill (G : TG) (ws : va_W) (q0 a n : Nat) (f : Nat → Int32) (v : Int32) (he : ws[q0]? = some (a, .inl (gy G 0, n, .inl f))) (hn : n < 2 ^ 31) : CT G yJ7_fill_53178 cJ7_fill_53178 4 none rmJ7_fill_53178 0 0 [.ref a, .int v] ws (fun _ : Unit => ws.set q0 (a, .inl (gy G 0, n, .inl (fun _ => v)))) (Rv (fun _ => True)) := by
  have hlen : q0 < ws.length := (List.getElem?_eq_some_iff.mp he).1
  have hg : ∀ t : Nat → Int32, (ws.set q0 (a, .inl (gy G 0, n, .inl t)))[q0]? = some (a, .inl (gy G 0, n, .inl t)) := fun t => by rw [List.getElem?_set_self hlen]
  have h0 : ws = ws.set q0 (a, .inl (gy G 0, n, .inl f)) := by
    obtain ⟨h1, h2⟩ := List.getElem?_eq_some_iff.mp he
    rw [← h2, List.set_getElem_self]
  refine CT.enter (by decide) (Nat.le_of_ble_eq_true rfl) (fun X C hnm => ?_)
  refine V.less [(0, .ref a), (1, .int v)] ⟨rfl, rfl, trivial⟩ ?_
  generalize hQ : (QX G X (fun _ : Unit => ws.set q0 (a, .inl (gy G 0, n, .inl (fun _ => v)))) (Rv (fun _ => True)) 0 0) = Qq
  refine v_iconst (pc := 0) (v := 0) C dJ7_fill_53178_0 (by decide) ?_
  refine v_istore_n (pc := 1) C dJ7_fill_53178_1 (by decide) ?_
  refine v_aload_n (pc := 2) C dJ7_fill_53178_2 rfl ?_
  refine v_alen (pc := 3) C q0 0 he rfl dJ7_fill_53178_3 ?_
  refine v_istore_n (pc := 4) C dJ7_fill_53178_4 (by decide) ?_
  have L5 : ∀ (fu κ : Nat) (t : Nat → Int32), n < κ + fu → κ ≤ n → (∀ z, z < κ → t z = v) → V G X cJ7_fill_53178 4 rmJ7_fill_53178 Qq 0 0 5 (lvo [(0, .ref a), (1, .int v), (2, .int (nI κ)), (3, .int (nI n))]) [] (ws.set q0 (a, .inl (gy G 0, n, .inl t))) := by
    intro fu
    induction fu with
    | zero => intro κ t hf hκ hτ; exfalso; omega
    | succ fu ih5 =>
      intro κ t hf hκ hτ
      refine v_iload_n (pc := 5) C dJ7_fill_53178_5 rfl ?_
      refine v_iload_n (pc := 6) C dJ7_fill_53178_6 rfl ?_
      refine v_icmp_geN (pc := 7) (tgt := 20) C κ n rfl rfl (by omega) (by omega) dJ7_fill_53178_7 (by decide) (fun c_7 => ?_) (fun c_7 => ?_)
      · subst hQ
        refine V.funI (q0 := q0) (f := t) (g := fun _ => v) (hg t) (fun k hk => hτ k (by omega)) (ws' := ws.set q0 (a, .inl (gy G 0, n, .inl (fun _ => v)))) (List.set_set ..) ?_
        exact v_vret (pc := 20) C dJ7_fill_53178_20 () rfl trivial
      · refine v_aload_n (pc := 10) C dJ7_fill_53178_10 rfl ?_
        refine v_iload_n (pc := 11) C dJ7_fill_53178_11 rfl ?_
        refine v_iload_n (pc := 12) C dJ7_fill_53178_12 rfl ?_
        refine v_iastN (pc := 13) (i := κ) (f := t) C q0 (hg t) c_7 hn dJ7_fill_53178_13 (ws' := ws.set q0 (a, .inl (gy G 0, n, .inl (upd t κ v)))) (List.set_set ..) ?_
        refine v_iinc1 (pc := 14) C κ rfl dJ7_fill_53178_14 rfl ?_
        refine v_goto (pc := 17) (tgt := 5) C dJ7_fill_53178_17 (by decide) ?_
        exact V.lessE (ih5 (κ + 1) (upd t κ v) (by omega) (by omega) (upd_in (g := fun _ => v) hτ rfl)) ⟨rfl, rfl, rfl, rfl, trivial⟩
  exact V.same h0 (V.lessE (L5 (n + 1) 0 f (by omega) (by omega) (fun z hz => absurd hz (Nat.not_lt_zero z))) ⟨rfl, rfl, rfl, rfl, trivial⟩)
/-- rows of the two names -/
def okK (S : MS) : Prop := ∀ k, k < 2 → mA S 2 k = nI 0 ∨ mA S 2 k = nI 4
theorem okK_at {S : MS} (h : okK S) {k : Nat} (hk : k < 2) : ∃ ρ, ρ ≤ 4 ∧ mA S 2 k = nI ρ ∧ tn (mA S 2 k) = ρ := by
  rcases h k hk with q | q
  · exact ⟨0, by omega, q, by rw [q]; rfl⟩
  · exact ⟨4, by omega, q, by rw [q]; rfl⟩
def kCell (S : MS) (w : Nat) : Int32 := mA S 1 (tn (mA S 2 (w / 4)) + w % 4)
theorem lk_out {a b d : Int} {x : Int32} (h0 : ¬ x = 0) (h1 : ¬ x = 1) : Op.lookupswitch.offset [(0, a), (1, b)] d x.toInt = d := by
  show (if (0 : Int) = x.toInt then a else if (1 : Int) = x.toInt then b else d) = d
  rw [if_neg (fun q => h0 (Int32.toInt_inj.mp q.symm)), if_neg (fun q => h1 (Int32.toInt_inj.mp q.symm))]
theorem im2 {P A B : Prop} (h : (¬ P → A) ∧ (P → B)) : (¬ P ∧ A) ∨ (P ∧ B) := by
  by_cases q : P
  · exact Or.inr ⟨q, h.2 q⟩
  · exact Or.inl ⟨q, h.1 q⟩
theorem toI64_1 : (1 : Int32).toInt64 = 1 := by decide
theorem toI64_0 : (0 : Int32).toInt64 = 0 := by decide
def rmX0_has : Room := { frames := 0, cells := 0, slots := 0, locals := 0 }
set_option maxHeartbeats 4000000 in
set_option maxRecDepth 100000 in
theorem kX0_has (G : TG) (o : Nat) (b : Nat → Nat) (S : MS) (m : Int32) : CT G yX0_has cX0_has 2 (some .boolean) rmX0_has 0 0 [.ref (o), .int (m)] (KWd G o b S) (fun S : MS => KWd G o b S) (Ri (fun r S' => S' = S ∧ r = if mI S 5 &&& m = 0 then 0 else 1)) := by
  refine CT.enter (by decide) (Nat.le_of_ble_eq_true rfl) (fun X C hnm => ?_)
  refine V.less [(0, .ref (o)), (1, .int (m))] ⟨rfl, rfl, trivial⟩ ?_
  generalize hQ : (QX G X (fun S : MS => KWd G o b S) (Ri (fun r S' => S' = S ∧ r = if mI S 5 &&& m = 0 then 0 else 1)) 0 0) = Qq
  refine v_aload_n (pc := 0) C dX0_has_0 rfl ?_
  refine v_get (pc := 1) (v := .int (mI S 5)) C inX0 0 rfl rfl 5 (by decide) kw1_38 rfl dX0_has_1 ?_
  refine v_iload_n (pc := 4) C dX0_has_4 rfl ?_
  refine v_iand (pc := 5) C dX0_has_5 ?_
  refine v_if_eq (pc := 6) (tgt := 13) C dX0_has_6 (by decide) (fun c_6 => ?_) (fun c_6 => ?_)
  · refine v_iconst (pc := 13) (v := 0) C dX0_has_13 (by decide) ?_
    subst hQ
    exact v_iret (pc := 14) C dX0_has_14 (rfl) (S) rfl (by simp [c_6])
  · refine v_iconst (pc := 9) (v := 1) C dX0_has_9 (by decide) ?_
    refine v_goto (pc := 10) (tgt := 14) C dX0_has_10 (by decide) ?_
    subst hQ
    exact v_iret (pc := 14) C dX0_has_14 (rfl) (S) rfl (by simp [c_6])
def rmX0_namesShare : Room := { frames := 0, cells := 0, slots := 0, locals := 0 }
set_option maxHeartbeats 4000000 in
set_option maxRecDepth 100000 in
theorem kX0_namesShare (G : TG) (o : Nat) (b : Nat → Nat) (S : MS)  : CT G yX0_namesShare cX0_namesShare 1 (some .boolean) rmX0_namesShare 0 0 [.ref (o)] (KWd G o b S) (fun S : MS => KWd G o b S) (Ri (fun r S' => S' = S ∧ r = if mA S 2 0 = mA S 2 1 then 1 else 0)) := by
  refine CT.enter (by decide) (Nat.le_of_ble_eq_true rfl) (fun X C hnm => ?_)
  refine V.less [(0, .ref (o))] ⟨rfl, trivial⟩ ?_
  generalize hQ : (QX G X (fun S : MS => KWd G o b S) (Ri (fun r S' => S' = S ∧ r = if mA S 2 0 = mA S 2 1 then 1 else 0)) 0 0) = Qq
  refine v_aload_n (pc := 0) C dX0_namesShare_0 rfl ?_
  refine v_get (pc := 1) (v := .ref (b 2)) C inX0 0 rfl rfl 2 (by decide) kw1_34 rfl dX0_namesShare_1 ?_
  refine v_iconst (pc := 4) (v := 0) C dX0_namesShare_4 (by decide) ?_
  refine v_ialdN (pc := 5) (i := 0) (f := (mA S 2)) C 3 rfl (by omega) (by decide) dX0_namesShare_5 ?_
  refine v_aload_n (pc := 6) C dX0_namesShare_6 rfl ?_
  refine v_get (pc := 7) (v := .ref (b 2)) C inX0 0 rfl rfl 2 (by decide) kw1_34 rfl dX0_namesShare_7 ?_
  refine v_iconst (pc := 10) (v := 1) C dX0_namesShare_10 (by decide) ?_
  refine v_ialdN (pc := 11) (i := 1) (f := (mA S 2)) C 3 rfl (by omega) (by decide) dX0_namesShare_11 ?_
  refine v_icmp_ne (pc := 12) (tgt := 19) C dX0_namesShare_12 (by decide) (fun c_12 => ?_) (fun c_12 => ?_)
  · refine v_iconst (pc := 19) (v := 0) C dX0_namesShare_19 (by decide) ?_
    subst hQ
    exact v_iret (pc := 20) C dX0_namesShare_20 (rfl) (S) rfl (by simp [c_12])
  · refine v_iconst (pc := 15) (v := 1) C dX0_namesShare_15 (by decide) ?_
    refine v_goto (pc := 16) (tgt := 20) C dX0_namesShare_16 (by decide) ?_
    subst hQ
    exact v_iret (pc := 20) C dX0_namesShare_20 (rfl) (S) rfl (by simp [c_12])
def rmX0_cellOf : Room := { frames := 0, cells := 0, slots := 0, locals := 0 }
set_option maxHeartbeats 4000000 in
set_option maxRecDepth 100000 in
theorem kX0_cellOf (G : TG) (o : Nat) (b : Nat → Nat) (S : MS) (i : Nat) (hi : i < 8) (hr : okK S) : CT G yX0_cellOf cX0_cellOf 2 (some .int) rmX0_cellOf 0 0 [.ref (o), .int (nI (i))] (KWd G o b S) (fun S : MS => KWd G o b S) (Ri (fun r S' => S' = S ∧ r = kCell S i)) := by
  refine CT.enter (by decide) (Nat.le_of_ble_eq_true rfl) (fun X C hnm => ?_)
  refine V.less [(0, .ref (o)), (1, .int (nI (i)))] ⟨rfl, rfl, trivial⟩ ?_
  generalize hQ : (QX G X (fun S : MS => KWd G o b S) (Ri (fun r S' => S' = S ∧ r = kCell S i)) 0 0) = Qq
  obtain ⟨ρ, hρ, eρ, tρ⟩ := okK_at hr (show i / 4 < 2 by omega)
  refine v_aload_n (pc := 0) C dX0_cellOf_0 rfl ?_
  refine v_get (pc := 1) (v := .ref (b 1)) C inX0 0 rfl rfl 1 (by decide) kw1_33 rfl dX0_cellOf_1 ?_
  refine v_aload_n (pc := 4) C dX0_cellOf_4 rfl ?_
  refine v_get (pc := 5) (v := .ref (b 2)) C inX0 0 rfl rfl 2 (by decide) kw1_34 rfl dX0_cellOf_5 ?_
  refine v_iload_n (pc := 8) C dX0_cellOf_8 rfl ?_
  refine v_iconst (pc := 9) (v := 4) C dX0_cellOf_9 (by decide) ?_
  refine v_idivN (pc := 10) C (i) 4 rfl rfl (by omega) (by omega) (by omega) dX0_cellOf_10 ?_
  refine v_ialdN (pc := 11) (i := ((i) / 4)) (f := (mA S 2)) C 3 rfl (by omega) (by decide) dX0_cellOf_11 ?_
  refine v_cv (y := (nI (ρ))) (eρ) ?_
  refine v_iload_n (pc := 12) C dX0_cellOf_12 rfl ?_
  refine v_iconst (pc := 13) (v := 4) C dX0_cellOf_13 (by decide) ?_
  refine v_iremN (pc := 14) C (i) 4 rfl rfl (by omega) (by omega) (by omega) dX0_cellOf_14 ?_
  refine v_iaddN (pc := 15) C (ρ) ((i) % 4) rfl rfl dX0_cellOf_15 ?_
  refine v_ialdN (pc := 16) (i := ((ρ) + ((i) % 4))) (f := (mA S 1)) C 2 rfl (by omega) (by decide) dX0_cellOf_16 ?_
  subst hQ
  exact v_iret (pc := 17) C dX0_cellOf_17 (rfl) (S) rfl (⟨rfl, by unfold kCell; rw [tρ]⟩)
def rmX0_placeOf : Room := { frames := 0, cells := 0, slots := 0, locals := 0 }
set_option maxHeartbeats 4000000 in
set_option maxRecDepth 100000 in
theorem kX0_placeOf (G : TG) (o : Nat) (b : Nat → Nat) (S : MS) (x : Nat) (f : Int32) (hx : x < 8) (hr : okK S) : CT G yX0_placeOf cX0_placeOf 3 (some .int) rmX0_placeOf 0 0 [.ref (o), .int (nI (x)), .int (f)] (KWd G o b S) (fun S : MS => KWd G o b S) (Ri (fun r S' => S' = S ∧ r = nI (tn (mA S 2 (x / 4)) + tn ((mA S 0 (x % 4) + f) &&& 3)))) := by
  refine CT.enter (by decide) (Nat.le_of_ble_eq_true rfl) (fun X C hnm => ?_)
  refine V.less [(0, .ref (o)), (1, .int (nI (x))), (2, .int (f))] ⟨rfl, rfl, rfl, trivial⟩ ?_
  generalize hQ : (QX G X (fun S : MS => KWd G o b S) (Ri (fun r S' => S' = S ∧ r = nI (tn (mA S 2 (x / 4)) + tn ((mA S 0 (x % 4) + f) &&& 3)))) 0 0) = Qq
  obtain ⟨ρ, hρ, eρ, tρ⟩ := okK_at hr (show x / 4 < 2 by omega)
  obtain ⟨κ, hκ, eκ⟩ := pk_andE (mA S 0 (x % 4) + f) (m := 3) 2 (by decide)
  refine v_aload_n (pc := 0) C dX0_placeOf_0 rfl ?_
  refine v_get (pc := 1) (v := .ref (b 2)) C inX0 0 rfl rfl 2 (by decide) kw1_34 rfl dX0_placeOf_1 ?_
  refine v_iload_n (pc := 4) C dX0_placeOf_4 rfl ?_
  refine v_iconst (pc := 5) (v := 4) C dX0_placeOf_5 (by decide) ?_
  refine v_idivN (pc := 6) C (x) 4 rfl rfl (by omega) (by omega) (by omega) dX0_placeOf_6 ?_
  refine v_ialdN (pc := 7) (i := ((x) / 4)) (f := (mA S 2)) C 3 rfl (by omega) (by decide) dX0_placeOf_7 ?_
  refine v_cv (y := (nI (ρ))) (eρ) ?_
  refine v_aload_n (pc := 8) C dX0_placeOf_8 rfl ?_
  refine v_get (pc := 9) (v := .ref (b 0)) C inX0 0 rfl rfl 0 (by decide) kw1_31 rfl dX0_placeOf_9 ?_
  refine v_iload_n (pc := 12) C dX0_placeOf_12 rfl ?_
  refine v_iconst (pc := 13) (v := 4) C dX0_placeOf_13 (by decide) ?_
  refine v_iremN (pc := 14) C (x) 4 rfl rfl (by omega) (by omega) (by omega) dX0_placeOf_14 ?_
  refine v_ialdN (pc := 15) (i := ((x) % 4)) (f := (mA S 0)) C 1 rfl (by omega) (by decide) dX0_placeOf_15 ?_
  refine v_iload_n (pc := 16) C dX0_placeOf_16 rfl ?_
  refine v_iadd (pc := 17) C dX0_placeOf_17 ?_
  refine v_iconst (pc := 18) (v := 3) C dX0_placeOf_18 (by decide) ?_
  refine v_iand (pc := 19) C dX0_placeOf_19 ?_
  refine v_cv (y := (nI (κ))) (eκ) ?_
  refine v_iaddN (pc := 20) C (ρ) (κ) rfl rfl dX0_placeOf_20 ?_
  subst hQ
  exact v_iret (pc := 21) C dX0_placeOf_21 (rfl) (S) rfl (⟨rfl, by rw [tρ, eκ, tn_nI (n := κ) (by omega)]⟩)
def rmX0_isLess : Room := { frames := 0, cells := 0, slots := 0, locals := 0 }
set_option maxHeartbeats 4000000 in
set_option maxRecDepth 100000 in
theorem kX0_isLess (G : TG) (o : Nat) (b : Nat → Nat) (S : MS) (x y : Nat) (z : Int32) (hx : x < 4) (hy : y < 4) : CT G yX0_isLess cX0_isLess 4 (some .boolean) rmX0_isLess 0 0 [.ref (o), .int (nI (x)), .int (nI (y)), .int (z)] (KWd G o b S) (fun S : MS => KWd G o b S) (Ri (fun r S' => S' = S ∧ r = if mA S 0 x < mA S 0 y ∨ (¬ z = 0 ∧ mA S 0 x = mA S 0 y) then 1 else 0)) := by
  refine CT.enter (by decide) (Nat.le_of_ble_eq_true rfl) (fun X C hnm => ?_)
  refine V.less [(0, .ref (o)), (1, .int (nI (x))), (2, .int (nI (y))), (3, .int (z))] ⟨rfl, rfl, rfl, rfl, trivial⟩ ?_
  generalize hQ : (QX G X (fun S : MS => KWd G o b S) (Ri (fun r S' => S' = S ∧ r = if mA S 0 x < mA S 0 y ∨ (¬ z = 0 ∧ mA S 0 x = mA S 0 y) then 1 else 0)) 0 0) = Qq
  refine v_aload_n (pc := 0) C dX0_isLess_0 rfl ?_
  refine v_get (pc := 1) (v := .ref (b 0)) C inX0 0 rfl rfl 0 (by decide) kw1_31 rfl dX0_isLess_1 ?_
  refine v_iload_n (pc := 4) C dX0_isLess_4 rfl ?_
  refine v_ialdN (pc := 5) (i := (x)) (f := (mA S 0)) C 1 rfl (by omega) (by decide) dX0_isLess_5 ?_
  refine v_aload_n (pc := 6) C dX0_isLess_6 rfl ?_
  refine v_get (pc := 7) (v := .ref (b 0)) C inX0 0 rfl rfl 0 (by decide) kw1_31 rfl dX0_isLess_7 ?_
  refine v_iload_n (pc := 10) C dX0_isLess_10 rfl ?_
  refine v_ialdN (pc := 11) (i := (y)) (f := (mA S 0)) C 1 rfl (by omega) (by decide) dX0_isLess_11 ?_
  refine v_icmp_lt (pc := 12) (tgt := 34) C dX0_isLess_12 (by decide) (fun c_12 => ?_) (fun c_12 => ?_)
  · refine v_iconst (pc := 34) (v := 1) C dX0_isLess_34 (by decide) ?_
    refine v_goto (pc := 35) (tgt := 39) C dX0_isLess_35 (by decide) ?_
    subst hQ
    exact v_iret (pc := 39) C dX0_isLess_39 (rfl) (S) rfl (⟨rfl, by rw [if_pos (Or.inl c_12)]⟩)
  · refine v_iload_n (pc := 15) C dX0_isLess_15 rfl ?_
    refine v_if_eq (pc := 16) (tgt := 38) C dX0_isLess_16 (by decide) (fun c_16 => ?_) (fun c_16 => ?_)
    · refine v_iconst (pc := 38) (v := 0) C dX0_isLess_38 (by decide) ?_
      subst hQ
      exact v_iret (pc := 39) C dX0_isLess_39 (rfl) (S) rfl (⟨rfl, by rw [if_neg (fun z9 => z9.elim c_12 (fun z9 => z9.1 c_16))]⟩)
    · refine v_aload_n (pc := 19) C dX0_isLess_19 rfl ?_
      refine v_get (pc := 20) (v := .ref (b 0)) C inX0 0 rfl rfl 0 (by decide) kw1_31 rfl dX0_isLess_20 ?_
      refine v_iload_n (pc := 23) C dX0_isLess_23 rfl ?_
      refine v_ialdN (pc := 24) (i := (x)) (f := (mA S 0)) C 1 rfl (by omega) (by decide) dX0_isLess_24 ?_
      refine v_aload_n (pc := 25) C dX0_isLess_25 rfl ?_
      refine v_get (pc := 26) (v := .ref (b 0)) C inX0 0 rfl rfl 0 (by decide) kw1_31 rfl dX0_isLess_26 ?_
      refine v_iload_n (pc := 29) C dX0_isLess_29 rfl ?_
      refine v_ialdN (pc := 30) (i := (y)) (f := (mA S 0)) C 1 rfl (by omega) (by decide) dX0_isLess_30 ?_
      refine v_icmp_ne (pc := 31) (tgt := 38) C dX0_isLess_31 (by decide) (fun c_31 => ?_) (fun c_31 => ?_)
      · refine v_iconst (pc := 38) (v := 0) C dX0_isLess_38 (by decide) ?_
        subst hQ
        exact v_iret (pc := 39) C dX0_isLess_39 (rfl) (S) rfl (⟨rfl, by rw [if_neg (fun z9 => z9.elim c_12 (fun z9 => c_31 z9.2))]⟩)
      · refine v_iconst (pc := 34) (v := 1) C dX0_isLess_34 (by decide) ?_
        refine v_goto (pc := 35) (tgt := 39) C dX0_isLess_35 (by decide) ?_
        subst hQ
        exact v_iret (pc := 39) C dX0_isLess_39 (rfl) (S) rfl (⟨rfl, by rw [if_pos (Or.inr ⟨c_16, c_31⟩)]⟩)
def rmX0_enterLoop : Room := { frames := 0, cells := 0, slots := 0, locals := 0 }
set_option maxHeartbeats 4000000 in
set_option maxRecDepth 100000 in
theorem kX0_enterLoop (G : TG) (o : Nat) (b : Nat → Nat) (S : MS) (l x : Nat) (z : Int32) (hl : l < 20) (hx : x < 4) : CT G yX0_enterLoop cX0_enterLoop 4 (some .boolean) rmX0_enterLoop 0 0 [.ref (o), .int (nI (l)), .int (nI (x)), .int (z)] (KWd G o b S) (fun S : MS => KWd G o b S) (Ri (fun r S' => (¬ 0 < mA S 0 x → r = 0 ∧ S' = S) ∧ (0 < mA S 0 x → r = 1 ∧ S' = sL S (vp_updL (mL S) l ((mA S 0 x).toInt64 + (if z = 0 then 0 else 1)))))) := by
  refine CT.enter (by decide) (Nat.le_of_ble_eq_true rfl) (fun X C hnm => ?_)
  refine V.less [(0, .ref (o)), (1, .int (nI (l))), (2, .int (nI (x))), (3, .int (z))] ⟨rfl, rfl, rfl, rfl, trivial⟩ ?_
  generalize hQ : (QX G X (fun S : MS => KWd G o b S) (Ri (fun r S' => (¬ 0 < mA S 0 x → r = 0 ∧ S' = S) ∧ (0 < mA S 0 x → r = 1 ∧ S' = sL S (vp_updL (mL S) l ((mA S 0 x).toInt64 + (if z = 0 then 0 else 1)))))) 0 0) = Qq
  refine v_aload_n (pc := 0) C dX0_enterLoop_0 rfl ?_
  refine v_get (pc := 1) (v := .ref (b 0)) C inX0 0 rfl rfl 0 (by decide) kw1_31 rfl dX0_enterLoop_1 ?_
  refine v_iload_n (pc := 4) C dX0_enterLoop_4 rfl ?_
  refine v_ialdN (pc := 5) (i := (x)) (f := (mA S 0)) C 1 rfl (by omega) (by decide) dX0_enterLoop_5 ?_
  refine v_if_gt (pc := 6) (tgt := 11) C dX0_enterLoop_6 (by decide) (fun c_6 => ?_) (fun c_6 => ?_)
  · refine v_aload_n (pc := 11) C dX0_enterLoop_11 rfl ?_
    refine v_get (pc := 12) (v := .ref (b 4)) C inX0 0 rfl rfl 4 (by decide) kw1_37 rfl dX0_enterLoop_12 ?_
    refine v_iload_n (pc := 15) C dX0_enterLoop_15 rfl ?_
    refine v_aload_n (pc := 16) C dX0_enterLoop_16 rfl ?_
    refine v_get (pc := 17) (v := .ref (b 0)) C inX0 0 rfl rfl 0 (by decide) kw1_31 rfl dX0_enterLoop_17 ?_
    refine v_iload_n (pc := 20) C dX0_enterLoop_20 rfl ?_
    refine v_ialdN (pc := 21) (i := (x)) (f := (mA S 0)) C 1 rfl (by omega) (by decide) dX0_enterLoop_21 ?_
    refine v_i2l (pc := 22) C dX0_enterLoop_22 ?_
    refine v_iload_n (pc := 23) C dX0_enterLoop_23 rfl ?_
    refine v_if_eq (pc := 24) (tgt := 31) C dX0_enterLoop_24 (by decide) (fun c_24 => ?_) (fun c_24 => ?_)
    · refine v_iconst (pc := 31) (v := 0) C dX0_enterLoop_31 (by decide) ?_
      refine v_i2l (pc := 32) C dX0_enterLoop_32 ?_
      refine v_ladd (pc := 33) C dX0_enterLoop_33 ?_
      refine v_lastN (pc := 34) (i := (l)) (f := (mL S)) C 5 rfl (by omega) (by decide) dX0_enterLoop_34 (ws' := (KWd G o b (sL S (vp_updL ((mL S)) (l) ((((mA S 0) (x)).toInt64) + ((0 : Int32).toInt64)))))) rfl ?_
      refine v_iconst (pc := 35) (v := 1) C dX0_enterLoop_35 (by decide) ?_
      subst hQ
      exact v_iret (pc := 36) C dX0_enterLoop_36 (rfl) ((sL S (vp_updL ((mL S)) (l) ((((mA S 0) (x)).toInt64) + ((0 : Int32).toInt64))))) rfl (⟨fun q => absurd c_6 q, fun _ => ⟨rfl, by rw [if_pos c_24, ← toI64_0]⟩⟩)
    · refine v_iconst (pc := 27) (v := 1) C dX0_enterLoop_27 (by decide) ?_
      refine v_goto (pc := 28) (tgt := 32) C dX0_enterLoop_28 (by decide) ?_
      refine v_i2l (pc := 32) C dX0_enterLoop_32 ?_
      refine v_ladd (pc := 33) C dX0_enterLoop_33 ?_
      refine v_lastN (pc := 34) (i := (l)) (f := (mL S)) C 5 rfl (by omega) (by decide) dX0_enterLoop_34 (ws' := (KWd G o b (sL S (vp_updL ((mL S)) (l) ((((mA S 0) (x)).toInt64) + ((1 : Int32).toInt64)))))) rfl ?_
      refine v_iconst (pc := 35) (v := 1) C dX0_enterLoop_35 (by decide) ?_
      subst hQ
      exact v_iret (pc := 36) C dX0_enterLoop_36 (rfl) ((sL S (vp_updL ((mL S)) (l) ((((mA S 0) (x)).toInt64) + ((1 : Int32).toInt64))))) rfl (⟨fun q => absurd c_6 q, fun _ => ⟨rfl, by rw [if_neg c_24, ← toI64_1]⟩⟩)
  · refine v_iconst (pc := 9) (v := 0) C dX0_enterLoop_9 (by decide) ?_
    subst hQ
    exact v_iret (pc := 10) C dX0_enterLoop_10 (rfl) (S) rfl (⟨fun _ => ⟨rfl, rfl⟩, fun q => absurd q c_6⟩)
def rmX0_doShare : Room := { frames := 0, cells := 0, slots := 0, locals := 0 }
set_option maxHeartbeats 4000000 in
set_option maxRecDepth 100000 in
theorem kX0_doShare_0 (G : TG) (o : Nat) (b : Nat → Nat) (S : MS) (x y : Nat) (hx : x < 2) (hy : y < 2) : CT G yX0_doShare cX0_doShare 5 none rmX0_doShare 0 0 [.ref (o), .int (nI (x)), .int (nI (y)), .int 0] (KWd G o b S) (fun S : MS => KWd G o b S) (Rv (fun S' => S' = sA S 2 (upd (mA S 2) x (mA S 2 y)))) := by
  refine CT.enter (by decide) (Nat.le_of_ble_eq_true rfl) (fun X C hnm => ?_)
  refine V.less [(0, .ref (o)), (1, .int (nI (x))), (2, .int (nI (y))), (3, .int 0)] ⟨rfl, rfl, rfl, rfl, trivial⟩ ?_
  generalize hQ : (QX G X (fun S : MS => KWd G o b S) (Rv (fun S' => S' = sA S 2 (upd (mA S 2) x (mA S 2 y)))) 0 0) = Qq
  refine v_iload_n (pc := 0) C dX0_doShare_0 rfl ?_
  refine v_if_eqT (pc := 1) (tgt := 50) C (by decide) dX0_doShare_1 (by decide) ?_
  refine v_aload_n (pc := 50) C dX0_doShare_50 rfl ?_
  refine v_get (pc := 51) (v := .ref (b 2)) C inX0 0 rfl rfl 2 (by decide) kw1_34 rfl dX0_doShare_51 ?_
  refine v_iload_n (pc := 54) C dX0_doShare_54 rfl ?_
  refine v_aload_n (pc := 55) C dX0_doShare_55 rfl ?_
  refine v_get (pc := 56) (v := .ref (b 2)) C inX0 0 rfl rfl 2 (by decide) kw1_34 rfl dX0_doShare_56 ?_
  refine v_iload_n (pc := 59) C dX0_doShare_59 rfl ?_
  refine v_ialdN (pc := 60) (i := (y)) (f := (mA S 2)) C 3 rfl (by omega) (by decide) dX0_doShare_60 ?_
  refine v_iastN (pc := 61) (i := (x)) (f := (mA S 2)) C 3 rfl (by omega) (by decide) dX0_doShare_61 (ws' := (KWd G o b (sA S 2 (upd ((mA S 2)) (x) ((mA S 2) (y)))))) rfl ?_
  subst hQ
  exact v_vret (pc := 62) C dX0_doShare_62 ((sA S 2 (upd ((mA S 2)) (x) ((mA S 2) (y))))) rfl (rfl)
set_option maxHeartbeats 4000000 in
set_option maxRecDepth 100000 in
theorem kX0_doShare_1 (G : TG) (o : Nat) (b : Nat → Nat) (S : MS) (x y τ φ : Nat) (hx : x < 2) (hy : y < 2) (ht : τ < 2) (hf : φ < 2) (ex : mA S 2 x = nI (4 * τ)) (ey : mA S 2 y = nI (4 * φ)) : CT G yX0_doShare cX0_doShare 5 none rmX0_doShare 0 0 [.ref (o), .int (nI (x)), .int (nI (y)), .int 1] (KWd G o b S) (fun S : MS => KWd G o b S) (Rv (fun S' => S' = sA S 1 (cpk (mA S 1) φ τ 4))) := by
  refine CT.enter (by decide) (Nat.le_of_ble_eq_true rfl) (fun X C hnm => ?_)
  refine V.less [(0, .ref (o)), (1, .int (nI (x))), (2, .int (nI (y))), (3, .int 1)] ⟨rfl, rfl, rfl, rfl, trivial⟩ ?_
  generalize hQ : (QX G X (fun S : MS => KWd G o b S) (Rv (fun S' => S' = sA S 1 (cpk (mA S 1) φ τ 4))) 0 0) = Qq
  refine v_iload_n (pc := 0) C dX0_doShare_0 rfl ?_
  refine v_if_eqF (pc := 1) (tgt := 50) C (by decide) dX0_doShare_1 (by decide) ?_
  refine v_iconst (pc := 4) (v := 0) C dX0_doShare_4 (by decide) ?_
  refine v_istore (pc := 5) C dX0_doShare_5 (by decide) ?_
  have L7 : ∀ (fu : Nat) (κ : Nat), (4 < κ + fu) → (κ ≤ 4) → V G X cX0_doShare 5 rmX0_doShare Qq 0 0 7 (lvo [(0, .ref (o)), (1, .int (nI (x))), (2, .int (nI (y))), (3, .int 1), (4, .int (nI (κ)))]) [] (KWd G o b (sA S 1 (cpk (mA S 1) φ τ κ))) := by
    intro fu
    induction fu with
    | zero => intro κ hφ hκ; exfalso; omega
    | succ fu ih7 =>
      intro κ hφ hκ
      refine v_iload (pc := 7) C dX0_doShare_7 rfl ?_
      refine v_iconst (pc := 9) (v := 4) C dX0_doShare_9 (by decide) ?_
      refine v_icmp_geN (pc := 10) (tgt := 47) C (κ) 4 rfl rfl (by omega) (by omega) dX0_doShare_10 (by decide) (fun c_10 => ?_) (fun c_10 => ?_)
      · have hκ4 : κ = 4 := by omega
        subst hκ4
        refine v_goto (pc := 47) (tgt := 62) C dX0_doShare_47 (by decide) ?_
        subst hQ
        exact v_vret (pc := 62) C dX0_doShare_62 ((sA S 1 (cpk (mA S 1) φ τ 4))) rfl (rfl)
      · refine v_aload_n (pc := 13) C dX0_doShare_13 rfl ?_
        refine v_get (pc := 14) (v := .ref (b 1)) C inX0 0 rfl rfl 1 (by decide) kw1_33 rfl dX0_doShare_14 ?_
        refine v_aload_n (pc := 17) C dX0_doShare_17 rfl ?_
        refine v_get (pc := 18) (v := .ref (b 2)) C inX0 0 rfl rfl 2 (by decide) kw1_34 rfl dX0_doShare_18 ?_
        refine v_iload_n (pc := 21) C dX0_doShare_21 rfl ?_
        refine v_ialdN (pc := 22) (i := (x)) (f := (mA S 2)) C 3 rfl (by omega) (by decide) dX0_doShare_22 ?_
        refine v_cv (y := (nI (4 * τ))) (ex) ?_
        refine v_iload (pc := 23) C dX0_doShare_23 rfl ?_
        refine v_iaddN (pc := 25) C (4 * τ) (κ) rfl rfl dX0_doShare_25 ?_
        refine v_aload_n (pc := 26) C dX0_doShare_26 rfl ?_
        refine v_get (pc := 27) (v := .ref (b 1)) C inX0 0 rfl rfl 1 (by decide) kw1_33 rfl dX0_doShare_27 ?_
        refine v_aload_n (pc := 30) C dX0_doShare_30 rfl ?_
        refine v_get (pc := 31) (v := .ref (b 2)) C inX0 0 rfl rfl 2 (by decide) kw1_34 rfl dX0_doShare_31 ?_
        refine v_iload_n (pc := 34) C dX0_doShare_34 rfl ?_
        refine v_ialdN (pc := 35) (i := (y)) (f := (mA S 2)) C 3 rfl (by omega) (by decide) dX0_doShare_35 ?_
        refine v_cv (y := (nI (4 * φ))) (ey) ?_
        refine v_iload (pc := 36) C dX0_doShare_36 rfl ?_
        refine v_iaddN (pc := 38) C (4 * φ) (κ) rfl rfl dX0_doShare_38 ?_
        refine v_ialdN (pc := 39) (i := ((4 * φ) + (κ))) (f := (cpk (mA S 1) φ τ κ)) C 2 rfl (by omega) (by decide) dX0_doShare_39 ?_
        refine v_iastN (pc := 40) (i := ((4 * τ) + (κ))) (f := (cpk (mA S 1) φ τ κ)) C 2 rfl (by omega) (by decide) dX0_doShare_40 (ws' := (KWd G o b (sA S 1 (upd ((cpk (mA S 1) φ τ κ)) ((4 * τ) + (κ)) ((cpk (mA S 1) φ τ κ) ((4 * φ) + (κ))))))) rfl ?_
        refine v_iinc1 (pc := 41) C (κ) rfl dX0_doShare_41 rfl ?_
        refine v_goto (pc := 44) (tgt := 7) C dX0_doShare_44 (by decide) ?_
        exact V.lessE (ih7  (((κ) + 1)) (by omega) (by omega)) ⟨rfl, rfl, rfl, rfl, rfl, trivial⟩
  exact V.lessE (L7 (5) (0) (by omega) (by omega)) ⟨rfl, rfl, rfl, rfl, rfl, trivial⟩
def rmX0_begin : Room := { frames := 1, cells := 0, slots := 0, locals := 23 }
set_option maxHeartbeats 4000000 in
set_option maxRecDepth 100000 in
theorem kX0_begin (G : TG) (o : Nat) (b : Nat → Nat) (S : MS) (n : Int32) : CT G yX0_begin cX0_begin 2 none rmX0_begin 0 0 [.ref (o), .int (n)] (KWd G o b S) (fun S : MS => KWd G o b S) (Rv (fun S' => S' = sA (sA (sA (sA S 0 (upd (fun _ => 0) 0 n)) 1 (fun _ => 0)) 2 (upd (upd (mA S 2) 0 0) 1 4)) 3 (fun _ => 0))) := by
  refine CT.enter (by decide) (Nat.le_of_ble_eq_true rfl) (fun X C hnm => ?_)
  refine V.less [(0, .ref (o)), (1, .int (n))] ⟨rfl, rfl, trivial⟩ ?_
  generalize hQ : (QX G X (fun S : MS => KWd G o b S) (Rv (fun S' => S' = sA (sA (sA (sA S 0 (upd (fun _ => 0) 0 n)) 1 (fun _ => 0)) 2 (upd (upd (mA S 2) 0 0) 1 4)) 3 (fun _ => 0))) 0 0) = Qq
  refine v_aload_n (pc := 0) C dX0_begin_0 rfl ?_
  refine v_get (pc := 1) (v := .ref (b 0)) C inX0 0 rfl rfl 0 (by decide) kw1_31 rfl dX0_begin_1 ?_
  refine v_iconst (pc := 4) (v := 0) C dX0_begin_4 (by decide) ?_
  refine v_callS0 (pc := 5) (st := []) C (kJ7_fill G _ 1 (b 0) 4 (mA S 0) 0 rfl (by decide)) ykJ7_fill_53178 kw1_80 kw2_3 dX0_begin_5 rfl rfl rfl (by decide) (Nat.le_of_ble_eq_true rfl) (by decide) rfl (Rv_kk (fun u_5 h_5 => ?_))
  refine V.same (ws' := (KWd G o b (sA S 0 (fun _ => (0 : Int32))))) rfl ?_
  refine v_aload_n (pc := 8) C dX0_begin_8 rfl ?_
  refine v_get (pc := 9) (v := .ref (b 0)) C inX0 0 rfl rfl 0 (by decide) kw1_31 rfl dX0_begin_9 ?_
  refine v_iconst (pc := 12) (v := 0) C dX0_begin_12 (by decide) ?_
  refine v_iload_n (pc := 13) C dX0_begin_13 rfl ?_
  refine v_iastN (pc := 14) (i := 0) (f := (fun _ => (0 : Int32))) C 1 rfl (by omega) (by decide) dX0_begin_14 (ws' := (KWd G o b (sA S 0 (upd ((fun _ => (0 : Int32))) 0 (n))))) rfl ?_
  refine v_aload_n (pc := 15) C dX0_begin_15 rfl ?_
  refine v_get (pc := 16) (v := .ref (b 1)) C inX0 0 rfl rfl 1 (by decide) kw1_33 rfl dX0_begin_16 ?_
  refine v_iconst (pc := 19) (v := 0) C dX0_begin_19 (by decide) ?_
  refine v_callS0 (pc := 20) (st := []) C (kJ7_fill G _ 2 (b 1) 8 (mA S 1) 0 rfl (by decide)) ykJ7_fill_53178 kw1_80 kw2_3 dX0_begin_20 rfl rfl rfl (by decide) (Nat.le_of_ble_eq_true rfl) (by decide) rfl (Rv_kk (fun u_20 h_20 => ?_))
  refine V.same (ws' := (KWd G o b (sA (sA S 0 (upd ((fun _ => (0 : Int32))) 0 (n))) 1 (fun _ => (0 : Int32))))) rfl ?_
  refine v_aload_n (pc := 23) C dX0_begin_23 rfl ?_
  refine v_get (pc := 24) (v := .ref (b 2)) C inX0 0 rfl rfl 2 (by decide) kw1_34 rfl dX0_begin_24 ?_
  refine v_iconst (pc := 27) (v := 0) C dX0_begin_27 (by decide) ?_
  refine v_iconst (pc := 28) (v := 0) C dX0_begin_28 (by decide) ?_
  refine v_iastN (pc := 29) (i := 0) (f := (mA S 2)) C 3 rfl (by omega) (by decide) dX0_begin_29 (ws' := (KWd G o b (sA (sA (sA S 0 (upd ((fun _ => (0 : Int32))) 0 (n))) 1 (fun _ => (0 : Int32))) 2 (upd ((mA S 2)) 0 (0 : Int32))))) rfl ?_
  refine v_aload_n (pc := 30) C dX0_begin_30 rfl ?_
  refine v_get (pc := 31) (v := .ref (b 2)) C inX0 0 rfl rfl 2 (by decide) kw1_34 rfl dX0_begin_31 ?_
  refine v_iconst (pc := 34) (v := 1) C dX0_begin_34 (by decide) ?_
  refine v_iconst (pc := 35) (v := 4) C dX0_begin_35 (by decide) ?_
  refine v_iastN (pc := 36) (i := 1) (f := (upd ((mA S 2)) 0 (0 : Int32))) C 3 rfl (by omega) (by decide) dX0_begin_36 (ws' := (KWd G o b (sA (sA (sA S 0 (upd ((fun _ => (0 : Int32))) 0 (n))) 1 (fun _ => (0 : Int32))) 2 (upd ((upd ((mA S 2)) 0 (0 : Int32))) 1 (4 : Int32))))) rfl ?_
  refine v_aload_n (pc := 37) C dX0_begin_37 rfl ?_
  refine v_get (pc := 38) (v := .ref (b 3)) C inX0 0 rfl rfl 3 (by decide) kw1_35 rfl dX0_begin_38 ?_
  refine v_iconst (pc := 41) (v := 0) C dX0_begin_41 (by decide) ?_
  refine v_callS0 (pc := 42) (st := []) C (kJ7_fill G _ 4 (b 3) 20 (mA S 3) 0 rfl (by decide)) ykJ7_fill_53178 kw1_80 kw2_3 dX0_begin_42 rfl rfl rfl (by decide) (Nat.le_of_ble_eq_true rfl) (by decide) rfl (Rv_kk (fun u_42 h_42 => ?_))
  refine V.same (ws' := (KWd G o b (sA (sA (sA (sA S 0 (upd ((fun _ => (0 : Int32))) 0 (n))) 1 (fun _ => (0 : Int32))) 2 (upd ((upd ((mA S 2)) 0 (0 : Int32))) 1 (4 : Int32))) 3 (fun _ => (0 : Int32))))) rfl ?_
  subst hQ
  exact v_vret (pc := 45) C dX0_begin_45 ((sA (sA (sA (sA S 0 (upd ((fun _ => (0 : Int32))) 0 (n))) 1 (fun _ => (0 : Int32))) 2 (upd ((upd ((mA S 2)) 0 (0 : Int32))) 1 (4 : Int32))) 3 (fun _ => (0 : Int32)))) rfl (rfl)
def rmX0_answerTo : Room := { frames := 1, cells := 0, slots := 0, locals := 21 }
set_option maxHeartbeats 4000000 in
set_option maxRecDepth 100000 in
theorem kX0_answerTo (G : TG) (o : Nat) (b : Nat → Nat) (S : MS) (κ : Int32) (w : Nat) (h0 : κ = 0 → w < 4) (h1 : κ = 1 → w < 20) (h2 : ¬ κ = 0 → ¬ κ = 1 → w < 8) (hr : okK S) : CT G yX0_answerTo cX0_answerTo 3 (some .int) rmX0_answerTo 0 0 [.ref (o), .int (κ), .int (nI (w))] (KWd G o b S) (fun S : MS => KWd G o b S) (Ri (fun r S' => S' = S ∧ r = if κ = 0 then mA S 0 w else if κ = 1 then mA S 3 w else kCell S w)) := by
  refine CT.enter (by decide) (Nat.le_of_ble_eq_true rfl) (fun X C hnm => ?_)
  refine V.less [(0, .ref (o)), (1, .int (κ)), (2, .int (nI (w)))] ⟨rfl, rfl, rfl, trivial⟩ ?_
  generalize hQ : (QX G X (fun S : MS => KWd G o b S) (Ri (fun r S' => S' = S ∧ r = if κ = 0 then mA S 0 w else if κ = 1 then mA S 3 w else kCell S w)) 0 0) = Qq
  refine v_iload_n (pc := 0) C dX0_answerTo_0 rfl ?_
  by_cases sw_1_0 : (κ) = 0
  · refine v_cv (y := 0) sw_1_0 ?_
    refine v_lookup (pc := 1) (tgt := 28) C dX0_answerTo_1 (by decide) rfl (by decide) ?_
    refine v_aload_n (pc := 28) C dX0_answerTo_28 rfl ?_
    refine v_get (pc := 29) (v := .ref (b 0)) C inX0 0 rfl rfl 0 (by decide) kw1_31 rfl dX0_answerTo_29 ?_
    refine v_iload_n (pc := 32) C dX0_answerTo_32 rfl ?_
    refine v_ialdN (pc := 33) (i := (w)) (f := (mA S 0)) C 1 rfl (h0 sw_1_0) (by decide) dX0_answerTo_33 ?_
    subst hQ
    exact v_iret (pc := 34) C dX0_answerTo_34 (rfl) (S) rfl (⟨rfl, by rw [if_pos sw_1_0]⟩)
  by_cases sw_1_1 : (κ) = 1
  · refine v_cv (y := 1) sw_1_1 ?_
    refine v_lookup (pc := 1) (tgt := 35) C dX0_answerTo_1 (by decide) rfl (by decide) ?_
    refine v_aload_n (pc := 35) C dX0_answerTo_35 rfl ?_
    refine v_get (pc := 36) (v := .ref (b 3)) C inX0 0 rfl rfl 3 (by decide) kw1_35 rfl dX0_answerTo_36 ?_
    refine v_iload_n (pc := 39) C dX0_answerTo_39 rfl ?_
    refine v_ialdN (pc := 40) (i := (w)) (f := (mA S 3)) C 4 rfl (h1 sw_1_1) (by decide) dX0_answerTo_40 ?_
    subst hQ
    exact v_iret (pc := 41) C dX0_answerTo_41 (rfl) (S) rfl (⟨rfl, by rw [if_neg sw_1_0, if_pos sw_1_1]⟩)
  refine v_lookup (pc := 1) (tgt := 42) C dX0_answerTo_1 (by decide) (lk_out sw_1_0 sw_1_1) (by decide) ?_
  refine v_aload_n (pc := 42) C dX0_answerTo_42 rfl ?_
  refine v_iload_n (pc := 43) C dX0_answerTo_43 rfl ?_
  refine v_callV0 (pc := 44) (st := []) (q0 := 0) C (kX0_cellOf G o b S w (h2 sw_1_0 sw_1_1) hr) ykX0_cellOf cvX0_cellOf kw2_107 dX0_answerTo_44 rfl rfl rfl rfl rfl (by decide) (Nat.le_of_ble_eq_true rfl) (by decide) rfl (Ri_kk (fun r_44 u_44 h_44 => ?_))
  obtain ⟨e_44, er_44⟩ := h_44
  rw [e_44]
  subst hQ
  exact v_iret (pc := 47) C dX0_answerTo_47 (rfl) (S) rfl (⟨rfl, by rw [if_neg sw_1_0, if_neg sw_1_1]; exact er_44⟩)
