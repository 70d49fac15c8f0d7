/-! the reference: told, done, choice, filling, price, count, mayBe, line -/
theorem getD_at {α : Type} {l : List α} {k : Nat} {d : α} (h : k < l.length) : l[k]? = some (l.getD k d) := by
  rw [List.getD_eq_getElem?_getD, List.getElem?_eq_getElem h]; rfl
theorem w1N {v : Int32} (h : ¬ (v < 1 ∨ 99 < v)) : ∃ j, 1 ≤ j ∧ j ≤ 99 ∧ v = nI j := by
  obtain ⟨j, hj, e⟩ := wN (v := v) (n := 99) (fun q => h (q.imp (fun z => Int32.lt_trans z (by decide)) id))
  subst e
  refine ⟨j, ?_, by omega, rfl⟩
  rcases Nat.eq_zero_or_pos j with z | z
  · subst z; exact absurd (Or.inl (by decide)) h
  · exact z
theorem upd_nI {f : Nat → Int32} {g : Nat → Nat} {k y z : Nat} (h : f z = nI (g z)) : upd f k (nI y) z = nI (if z = k then y else g z) := by
  by_cases e : z = k
  · subst e; rw [pk_us, if_pos rfl]
  · rw [pk_un e, if_neg e]; exact h
theorem inw_t {v lo hi : Int32} (h : ¬ (v < lo ∨ hi < v)) : inw v lo hi = true := by unfold inw; rw [decide_eq_false h]; rfl
theorem inw_f {v lo hi : Int32} (h : v < lo ∨ hi < v) : inw v lo hi = false := by unfold inw; rw [decide_eq_true h]; rfl
def askedA (A : AS) (j : Nat) : Bool := (List.range (aNq A)).any (fun q => aQp A q == j)
theorem asked_t {A : AS} {j q : Nat} (hq : q < aNq A) (h : aQp A q = j) : askedA A j = true := List.any_eq_true.mpr ⟨q, List.mem_range.mpr hq, by rw [h]; exact beq_self_eq_true j⟩
theorem asked_f {A : AS} {j : Nat} (h : ∀ q, q < aNq A → aQp A q ≠ j) : askedA A j = false := by
  rw [Bool.eq_false_iff]
  intro q
  obtain ⟨x, hx, e⟩ := List.any_eq_true.mp q
  exact h x (List.mem_range.mp hx) (beq_iff_eq.mp e)
def addL (A : AS) (j : Nat) (o a b : Int32) : AS :=
  ((aNp A, (fun p => if p = j then aN A p + 1 else aN A p), (fun p k => if p = j ∧ k = aN A j then o else aO A p k), (fun p k => if p = j ∧ k = aN A j then a else aX A p k), (fun p k => if p = j ∧ k = aN A j then b else aY A p k)), A.2)
def s_line (A : AS) (p o a b : Int32) : Int32 × AS :=
  if p < 0 ∨ nI (aNp A) ≤ p then (-1, A) else if mayB o a b = false then (-1, A) else if askedA A (tn p) = true then (-3, A) else if o = 6 ∧ dp (aO A (tn p)) (aN A (tn p)) = 0 then (-3, A) else if aN A (tn p) = 20 then (-2, A) else (nI (aN A (tn p)), addL A (tn p) o a b)
theorem upd20 {f : Nat → Int32} {p k j n : Nat} {v : Int32} (hk : k < 20) (hn : n < 20) : upd f (20 * j + n) v (20 * p + k) = if p = j ∧ k = n then v else f (20 * p + k) := by
  by_cases h : p = j ∧ k = n
  · rw [if_pos h, h.1, h.2, pk_us]
  · rw [if_neg h, pk_un (by omega)]
theorem MRel_addL {A : AS} {S : MS} {j : Nat} {o a b : Int32} (hM : MRel A S) (hj : j < 10) (hn : aN A j < 20) : MRel (addL A j o a b) (sA (sA (sA (sA S 0 (upd (mA S 0) (20 * j + aN A j) o)) 1 (upd (mA S 1) (20 * j + aN A j) a)) 2 (upd (mA S 2) (20 * j + aN A j) b)) 3 (upd (mA S 3) j (nI (aN A j + 1)))) := by
  refine ⟨hM.1, fun p hp => ?_, fun p k hp hk => ⟨?_, ?_, ?_⟩, hM.2.2.2⟩
  · show upd (mA S 3) j (nI (aN A j + 1)) p = nI (if p = j then aN A p + 1 else aN A p)
    by_cases h : p = j
    · subst h; rw [pk_us, if_pos rfl]
    · rw [pk_un h, if_neg h]; exact hM.2.1 p hp
  · show upd (mA S 0) (20 * j + aN A j) o (20 * p + k) = if p = j ∧ k = aN A j then o else aO A p k
    rw [upd20 hk hn, (hM.2.2.1 p k hp hk).1]
  · show upd (mA S 1) (20 * j + aN A j) a (20 * p + k) = if p = j ∧ k = aN A j then a else aX A p k
    rw [upd20 hk hn, (hM.2.2.1 p k hp hk).2.1]
  · show upd (mA S 2) (20 * j + aN A j) b (20 * p + k) = if p = j ∧ k = aN A j then b else aY A p k
    rw [upd20 hk hn, (hM.2.2.1 p k hp hk).2.2]
def rmX5_told : Room := { frames := 1, cells := 0, slots := 0, locals := 22 }
set_option maxHeartbeats 4000000 in
set_option maxRecDepth 100000 in
theorem kX5_told_n (G : TG) (o : Nat) (a : Nat → Nat) (S : MS) (A : AS) (hI : AInv A) (hM : MRel A S) (w : Int32) (hT : aT A = none) (e14 : mI S 14 = -1) : CT G yX5_told cX5_told 2 (some .int) rmX5_told 0 0 [.ref (o), .int (w)] (MW G o a S) (fun S : MS => MW G o a S) (Ri (fun r S' => r = s_told A w ∧ MRel A S')) := by
  refine CT.enter (by decide) (Nat.le_of_ble_eq_true rfl) (fun X C hnm => ?_)
  refine V.less [(0, .ref (o)), (1, .int (w))] ⟨rfl, rfl, trivial⟩ ?_
  have hnp := hI.1
  have hnq := hI.2.2.2.2.1
  refine v_aload_n (pc := 0) C dX5_told_0 rfl ?_
  refine v_get (pc := 1) (v := .int (mI S 14)) C inX5 0 rfl rfl 14 (by decide) kw3_39 rfl dX5_told_1 ?_
  refine v_cv (y := (-1 : Int32)) (e14) ?_
  refine v_if_lt (pc := 4) (tgt := 26) C dX5_told_4 (by decide) (fun _ => ?_) (fun q => absurd (by decide) q)
  refine v_ldc (pc := 26) C dX5_told_26 kw3_152 ?_
  exact v_iret (pc := 28) C dX5_told_28 (rfl) (S) rfl (⟨by unfold s_told; rw [hT]; rfl, hM⟩)
set_option maxHeartbeats 4000000 in
set_option maxRecDepth 100000 in
theorem kX5_told_s (G : TG) (o : Nat) (a : Nat → Nat) (S : MS) (A : AS) (hI : AInv A) (hM : MRel A S) (w : Int32) (n : Nat) (t d : Nat → Int32) (hT : aT A = some (n, t, d)) (hn : n ≤ 20) (e14 : mI S 14 = nI n) (ht : ∀ k, k < 14 → mA S 12 k = t k) : CT G yX5_told cX5_told 2 (some .int) rmX5_told 0 0 [.ref (o), .int (w)] (MW G o a S) (fun S : MS => MW G o a S) (Ri (fun r S' => r = s_told A w ∧ MRel A S')) := by
  refine CT.enter (by decide) (Nat.le_of_ble_eq_true rfl) (fun X C hnm => ?_)
  refine V.less [(0, .ref (o)), (1, .int (w))] ⟨rfl, rfl, trivial⟩ ?_
  have hnp := hI.1
  have hnq := hI.2.2.2.2.1
  refine v_aload_n (pc := 0) C dX5_told_0 rfl ?_
  refine v_get (pc := 1) (v := .int (mI S 14)) C inX5 0 rfl rfl 14 (by decide) kw3_39 rfl dX5_told_1 ?_
  refine v_cv (y := (nI (n))) (e14) ?_
  refine v_if_ltN (pc := 4) (tgt := 26) C (n) rfl (by omega) dX5_told_4 (by decide) (fun c_4 => ?_) (fun c_4 => ?_)
  · exact absurd c_4 (by omega)
  · refine v_iload_n (pc := 7) C dX5_told_7 rfl ?_
    refine v_iconst (pc := 8) (v := 0) C dX5_told_8 (by decide) ?_
    refine v_bipush (pc := 9) (v := 13) C dX5_told_9 (by decide) ?_
    refine v_callS0 (pc := 11) (st := []) C (kX5_within G _ w 0 13) ykX5_within kw3_142 kw3_141 dX5_told_11 rfl rfl rfl (by decide) (Nat.le_of_ble_eq_true rfl) (by decide) rfl (Ri_kk (fun r_11 u_11 h_11 => ?_))
    rcases (w01 h_11) with ⟨q_11, rfl⟩ | ⟨q_11, rfl⟩
    · refine v_if_eqT (pc := 14) (tgt := 26) C (by decide) dX5_told_14 (by decide) ?_
      refine v_ldc (pc := 26) C dX5_told_26 kw3_152 ?_
      exact v_iret (pc := 28) C dX5_told_28 (rfl) (S) rfl (⟨by unfold s_told; rw [hT]; show _ = if _ then _ else _; rw [if_pos q_11]; rfl, hM⟩)
    · refine v_if_eqF (pc := 14) (tgt := 26) C (by decide) dX5_told_14 (by decide) ?_
      obtain ⟨k, hk, rfl⟩ := wN (n := 13) q_11
      refine v_aload_n (pc := 17) C dX5_told_17 rfl ?_
      refine v_get (pc := 18) (v := .ref (a 12)) C inX5 0 rfl rfl 12 (by decide) kw3_37 rfl dX5_told_18 ?_
      refine v_iload_n (pc := 21) C dX5_told_21 rfl ?_
      refine v_ialdN (pc := 22) (i := (k)) (f := (mA S 12)) C 10 rfl (by omega) (by decide) dX5_told_22 ?_
      refine v_goto (pc := 23) (tgt := 28) C dX5_told_23 (by decide) ?_
      exact v_iret (pc := 28) C dX5_told_28 (rfl) (S) rfl (⟨by unfold s_told; rw [hT]; show _ = if _ then _ else _; rw [if_neg q_11, tn_nI (by omega)]; exact ht k (by omega), hM⟩)
def rmX5_done : Room := { frames := 0, cells := 0, slots := 0, locals := 0 }
set_option maxHeartbeats 4000000 in
set_option maxRecDepth 100000 in
theorem kX5_done_n (G : TG) (o : Nat) (a : Nat → Nat) (S : MS) (A : AS) (hI : AInv A) (hM : MRel A S) (w : Int32) (hT : aT A = none) (e14 : mI S 14 = -1) : CT G yX5_done cX5_done 2 (some .int) rmX5_done 0 0 [.ref (o), .int (w)] (MW G o a S) (fun S : MS => MW G o a S) (Ri (fun r S' => r = s_done A w ∧ MRel A S')) := by
  refine CT.enter (by decide) (Nat.le_of_ble_eq_true rfl) (fun X C hnm => ?_)
  refine V.less [(0, .ref (o)), (1, .int (w))] ⟨rfl, rfl, trivial⟩ ?_
  have hnp := hI.1
  have hnq := hI.2.2.2.2.1
  refine v_iload_n (pc := 0) C dX5_done_0 rfl ?_
  refine v_if_lt (pc := 1) (tgt := 21) C dX5_done_1 (by decide) (fun c_1 => ?_) (fun c_1 => ?_)
  · refine v_iconst (pc := 21) (v := (-1)) C dX5_done_21 (by decide) ?_
    exact v_iret (pc := 22) C dX5_done_22 (rfl) (S) rfl (⟨by unfold s_done; rw [hT], hM⟩)
  · refine v_iload_n (pc := 4) C dX5_done_4 rfl ?_
    refine v_aload_n (pc := 5) C dX5_done_5 rfl ?_
    refine v_get (pc := 6) (v := .int (mI S 14)) C inX5 0 rfl rfl 14 (by decide) kw3_39 rfl dX5_done_6 ?_
    refine v_cv (y := (-1 : Int32)) (e14) ?_
    refine v_icmp_ge (pc := 9) (tgt := 21) C dX5_done_9 (by decide) (fun c_9 => ?_) (fun c_9 => ?_)
    · refine v_iconst (pc := 21) (v := (-1)) C dX5_done_21 (by decide) ?_
      exact v_iret (pc := 22) C dX5_done_22 (rfl) (S) rfl (⟨by unfold s_done; rw [hT], hM⟩)
    · exact absurd (Int32.le_trans (by decide) (Int32.not_lt.mp c_1)) c_9
set_option maxHeartbeats 4000000 in
set_option maxRecDepth 100000 in
theorem kX5_done_s (G : TG) (o : Nat) (a : Nat → Nat) (S : MS) (A : AS) (hI : AInv A) (hM : MRel A S) (w : Int32) (n : Nat) (t d : Nat → Int32) (hT : aT A = some (n, t, d)) (hn : n ≤ 20) (e14 : mI S 14 = nI n) (hd : ∀ k, k < 20 → mA S 13 k = d k) : CT G yX5_done cX5_done 2 (some .int) rmX5_done 0 0 [.ref (o), .int (w)] (MW G o a S) (fun S : MS => MW G o a S) (Ri (fun r S' => r = s_done A w ∧ MRel A S')) := by
  refine CT.enter (by decide) (Nat.le_of_ble_eq_true rfl) (fun X C hnm => ?_)
  refine V.less [(0, .ref (o)), (1, .int (w))] ⟨rfl, rfl, trivial⟩ ?_
  have hnp := hI.1
  have hnq := hI.2.2.2.2.1
  refine v_iload_n (pc := 0) C dX5_done_0 rfl ?_
  refine v_if_lt (pc := 1) (tgt := 21) C dX5_done_1 (by decide) (fun c_1 => ?_) (fun c_1 => ?_)
  · refine v_iconst (pc := 21) (v := (-1)) C dX5_done_21 (by decide) ?_
    exact v_iret (pc := 22) C dX5_done_22 (rfl) (S) rfl (⟨by unfold s_done; rw [hT]; show _ = if _ then _ else _; rw [if_pos c_1], hM⟩)
  · refine v_iload_n (pc := 4) C dX5_done_4 rfl ?_
    refine v_aload_n (pc := 5) C dX5_done_5 rfl ?_
    refine v_get (pc := 6) (v := .int (mI S 14)) C inX5 0 rfl rfl 14 (by decide) kw3_39 rfl dX5_done_6 ?_
    refine v_cv (y := (nI (n))) (e14) ?_
    refine v_icmp_ge (pc := 9) (tgt := 21) C dX5_done_9 (by decide) (fun c_9 => ?_) (fun c_9 => ?_)
    · refine v_iconst (pc := 21) (v := (-1)) C dX5_done_21 (by decide) ?_
      exact v_iret (pc := 22) C dX5_done_22 (rfl) (S) rfl (⟨by unfold s_done; rw [hT]; show _ = if _ then _ else _; rw [if_neg c_1, if_pos c_9], hM⟩)
    · obtain ⟨k, hk, rfl⟩ := ixN c_1 c_9 (by omega)
      refine v_aload_n (pc := 12) C dX5_done_12 rfl ?_
      refine v_get (pc := 13) (v := .ref (a 13)) C inX5 0 rfl rfl 13 (by decide) kw3_38 rfl dX5_done_13 ?_
      refine v_iload_n (pc := 16) C dX5_done_16 rfl ?_
      refine v_ialdN (pc := 17) (i := (k)) (f := (mA S 13)) C 11 rfl (by omega) (by decide) dX5_done_17 ?_
      refine v_goto (pc := 18) (tgt := 22) C dX5_done_18 (by decide) ?_
      exact v_iret (pc := 22) C dX5_done_22 (rfl) (S) rfl (⟨by unfold s_done; rw [hT]; show _ = if _ then _ else _; rw [if_neg c_1, if_neg c_9, tn_nI (by omega)]; exact hd k (by omega), hM⟩)
def rmX5_choice : Room := { frames := 1, cells := 0, slots := 0, locals := 22 }
set_option maxHeartbeats 4000000 in
set_option maxRecDepth 100000 in
theorem kX5_choice (G : TG) (o : Nat) (a : Nat → Nat) (S : MS) (A : AS) (hI : AInv A) (hM : MRel A S) (i w : Int32) : CT G yX5_choice cX5_choice 3 (some .int) rmX5_choice 0 0 [.ref (o), .int (i), .int (w)] (MW G o a S) (fun S : MS => MW G o a S) (Ri (fun r S' => r = s_choice A i w ∧ MRel A S')) := by
  refine CT.enter (by decide) (Nat.le_of_ble_eq_true rfl) (fun X C hnm => ?_)
  refine V.less [(0, .ref (o)), (1, .int (i)), (2, .int (w))] ⟨rfl, rfl, rfl, trivial⟩ ?_
  have hnp := hI.1
  have hnq := hI.2.2.2.2.1
  have hC := hI.2.2.2.2.2.2.1
  refine v_iload_n (pc := 0) C dX5_choice_0 rfl ?_
  refine v_if_lt (pc := 1) (tgt := 43) C dX5_choice_1 (by decide) (fun c_1 => ?_) (fun c_1 => ?_)
  · refine v_ldc (pc := 43) C dX5_choice_43 kw3_152 ?_
    exact v_iret (pc := 45) C dX5_choice_45 (rfl) (S) rfl (⟨by unfold s_choice; rw [if_pos c_1]; rfl, hM⟩)
  · refine v_iload_n (pc := 4) C dX5_choice_4 rfl ?_
    refine v_aload_n (pc := 5) C dX5_choice_5 rfl ?_
    refine v_get (pc := 6) (v := .int (mI S 22)) C inX5 0 rfl rfl 22 (by decide) kw3_47 rfl dX5_choice_6 ?_
    refine v_cv (y := (nI ((aC A).length))) (hM.2.2.2.2.2.2.1.1) ?_
    refine v_icmp_ge (pc := 9) (tgt := 43) C dX5_choice_9 (by decide) (fun c_9 => ?_) (fun c_9 => ?_)
    · refine v_ldc (pc := 43) C dX5_choice_43 kw3_152 ?_
      exact v_iret (pc := 45) C dX5_choice_45 (rfl) (S) rfl (⟨by unfold s_choice; rw [if_neg c_1, if_pos c_9]; rfl, hM⟩)
    · obtain ⟨k, hk, rfl⟩ := ixN c_1 c_9 (by omega)
      refine v_iload_n (pc := 12) C dX5_choice_12 rfl ?_
      refine v_iconst (pc := 13) (v := 0) C dX5_choice_13 (by decide) ?_
      refine v_iconst (pc := 14) (v := 1) C dX5_choice_14 (by decide) ?_
      refine v_callS0 (pc := 15) (st := []) C (kX5_within G _ w 0 1) ykX5_within kw3_142 kw3_141 dX5_choice_15 rfl rfl rfl (by decide) (Nat.le_of_ble_eq_true rfl) (by decide) rfl (Ri_kk (fun r_15 u_15 h_15 => ?_))
      rcases (w01 h_15) with ⟨q_15, rfl⟩ | ⟨q_15, rfl⟩
      · refine v_if_eqT (pc := 18) (tgt := 43) C (by decide) dX5_choice_18 (by decide) ?_
        refine v_ldc (pc := 43) C dX5_choice_43 kw3_152 ?_
        exact v_iret (pc := 45) C dX5_choice_45 (rfl) (S) rfl (⟨by unfold s_choice; rw [if_neg c_1, if_neg c_9, if_pos q_15]; rfl, hM⟩)
      · refine v_if_eqF (pc := 18) (tgt := 43) C (by decide) dX5_choice_18 (by decide) ?_
        refine v_iload_n (pc := 21) C dX5_choice_21 rfl ?_
        refine v_if_ne (pc := 22) (tgt := 34) C dX5_choice_22 (by decide) (fun c_22 => ?_) (fun c_22 => ?_)
        · refine v_aload_n (pc := 34) C dX5_choice_34 rfl ?_
          refine v_get (pc := 35) (v := .ref (a 21)) C inX5 0 rfl rfl 21 (by decide) kw3_46 rfl dX5_choice_35 ?_
          refine v_iload_n (pc := 38) C dX5_choice_38 rfl ?_
          refine v_ialdN (pc := 39) (i := (k)) (f := (mA S 21)) C 17 rfl (by omega) (by decide) dX5_choice_39 ?_
          refine v_goto (pc := 40) (tgt := 45) C dX5_choice_40 (by decide) ?_
          exact v_iret (pc := 45) C dX5_choice_45 (rfl) (S) rfl (⟨by unfold s_choice; rw [if_neg c_1, if_neg c_9, if_neg q_15, if_neg c_22, tn_nI (by omega)]; exact (hM.2.2.2.2.2.2.1.2 k _ _ (getD_at (d := (0, 0)) hk)).2, hM⟩)
        · refine v_aload_n (pc := 25) C dX5_choice_25 rfl ?_
          refine v_get (pc := 26) (v := .ref (a 20)) C inX5 0 rfl rfl 20 (by decide) kw3_45 rfl dX5_choice_26 ?_
          refine v_iload_n (pc := 29) C dX5_choice_29 rfl ?_
          refine v_ialdN (pc := 30) (i := (k)) (f := (mA S 20)) C 16 rfl (by omega) (by decide) dX5_choice_30 ?_
          refine v_goto (pc := 31) (tgt := 45) C dX5_choice_31 (by decide) ?_
          exact v_iret (pc := 45) C dX5_choice_45 (rfl) (S) rfl (⟨by unfold s_choice; rw [if_neg c_1, if_neg c_9, if_neg q_15, if_pos c_22, tn_nI (by omega)]; exact (hM.2.2.2.2.2.2.1.2 k _ _ (getD_at (d := (0, 0)) hk)).1, hM⟩)
def rmX5_filling : Room := { frames := 0, cells := 0, slots := 0, locals := 0 }
set_option maxHeartbeats 4000000 in
set_option maxRecDepth 100000 in
theorem kX5_filling (G : TG) (o : Nat) (a : Nat → Nat) (S : MS) (A : AS) (hI : AInv A) (hM : MRel A S) (i : Int32) : CT G yX5_filling cX5_filling 2 (some .int) rmX5_filling 0 0 [.ref (o), .int (i)] (MW G o a S) (fun S : MS => MW G o a S) (Ri (fun r S' => r = s_filling A i ∧ MRel A S')) := by
  refine CT.enter (by decide) (Nat.le_of_ble_eq_true rfl) (fun X C hnm => ?_)
  refine V.less [(0, .ref (o)), (1, .int (i))] ⟨rfl, rfl, trivial⟩ ?_
  have hnp := hI.1
  have hnq := hI.2.2.2.2.1
  have hF := hI.2.2.2.2.2.2.2.1
  refine v_iload_n (pc := 0) C dX5_filling_0 rfl ?_
  refine v_if_lt (pc := 1) (tgt := 21) C dX5_filling_1 (by decide) (fun c_1 => ?_) (fun c_1 => ?_)
  · refine v_ldc (pc := 21) C dX5_filling_21 kw3_152 ?_
    exact v_iret (pc := 23) C dX5_filling_23 (rfl) (S) rfl (⟨by unfold s_filling; rw [if_pos c_1]; rfl, hM⟩)
  · refine v_iload_n (pc := 4) C dX5_filling_4 rfl ?_
    refine v_aload_n (pc := 5) C dX5_filling_5 rfl ?_
    refine v_get (pc := 6) (v := .int (mI S 24)) C inX5 0 rfl rfl 24 (by decide) kw3_49 rfl dX5_filling_6 ?_
    refine v_cv (y := (nI ((aF A).length))) (hM.2.2.2.2.2.2.2.1.1) ?_
    refine v_icmp_ge (pc := 9) (tgt := 21) C dX5_filling_9 (by decide) (fun c_9 => ?_) (fun c_9 => ?_)
    · refine v_ldc (pc := 21) C dX5_filling_21 kw3_152 ?_
      exact v_iret (pc := 23) C dX5_filling_23 (rfl) (S) rfl (⟨by unfold s_filling; rw [if_neg c_1, if_pos c_9]; rfl, hM⟩)
    · obtain ⟨k, hk, rfl⟩ := ixN c_1 c_9 (by omega)
      refine v_aload_n (pc := 12) C dX5_filling_12 rfl ?_
      refine v_get (pc := 13) (v := .ref (a 23)) C inX5 0 rfl rfl 23 (by decide) kw3_48 rfl dX5_filling_13 ?_
      refine v_iload_n (pc := 16) C dX5_filling_16 rfl ?_
      refine v_ialdN (pc := 17) (i := (k)) (f := (mA S 23)) C 18 rfl (by omega) (by decide) dX5_filling_17 ?_
      refine v_goto (pc := 18) (tgt := 23) C dX5_filling_18 (by decide) ?_
      exact v_iret (pc := 23) C dX5_filling_23 (rfl) (S) rfl (⟨by unfold s_filling; rw [if_neg c_1, if_neg c_9, tn_nI (by omega)]; exact hM.2.2.2.2.2.2.2.1.2 k _ (getD_at (d := 0) hk), hM⟩)
def rmX5_price : Room := { frames := 1, cells := 0, slots := 0, locals := 22 }
set_option maxHeartbeats 4000000 in
set_option maxRecDepth 100000 in
theorem kX5_price (G : TG) (o : Nat) (a : Nat → Nat) (S : MS) (A : AS) (hI : AInv A) (hM : MRel A S) (x v : Int32) : CT G yX5_price cX5_price 4 (some .int) rmX5_price 0 0 [.ref (o), .int (x), .int (v)] (MW G o a S) (fun S : MS => MW G o a S) (Ri (fun r S' => r = (s_price A x v).1 ∧ MRel (s_price A x v).2 S')) := by
  refine CT.enter (by decide) (Nat.le_of_ble_eq_true rfl) (fun X C hnm => ?_)
  refine V.less [(0, .ref (o)), (1, .int (x)), (2, .int (v))] ⟨rfl, rfl, rfl, trivial⟩ ?_
  have hnp := hI.1
  have hnq := hI.2.2.2.2.1
  refine v_iload_n (pc := 0) C dX5_price_0 rfl ?_
  refine v_iconst (pc := 1) (v := 0) C dX5_price_1 (by decide) ?_
  refine v_bipush (pc := 2) (v := 6) C dX5_price_2 (by decide) ?_
  refine v_callS0 (pc := 4) (st := []) C (kX5_within G _ x 0 6) ykX5_within kw3_142 kw3_141 dX5_price_4 rfl rfl rfl (by decide) (Nat.le_of_ble_eq_true rfl) (by decide) rfl (Ri_kk (fun r_4 u_4 h_4 => ?_))
  rcases (w01 h_4) with ⟨q_4, rfl⟩ | ⟨q_4, rfl⟩
  · refine v_if_eqT (pc := 7) (tgt := 20) C (by decide) dX5_price_7 (by decide) ?_
    refine v_iconst (pc := 20) (v := (-1)) C dX5_price_20 (by decide) ?_
    exact v_iret (pc := 21) C dX5_price_21 (rfl) (S) rfl (by unfold s_price; rw [if_pos q_4]; exact ⟨rfl, hM⟩)
  · refine v_if_eqF (pc := 7) (tgt := 20) C (by decide) dX5_price_7 (by decide) ?_
    refine v_iload_n (pc := 10) C dX5_price_10 rfl ?_
    refine v_iconst (pc := 11) (v := 1) C dX5_price_11 (by decide) ?_
    refine v_bipush (pc := 12) (v := 99) C dX5_price_12 (by decide) ?_
    refine v_callS0 (pc := 14) (st := []) C (kX5_within G _ v 1 99) ykX5_within kw3_142 kw3_141 dX5_price_14 rfl rfl rfl (by decide) (Nat.le_of_ble_eq_true rfl) (by decide) rfl (Ri_kk (fun r_14 u_14 h_14 => ?_))
    rcases (w01 h_14) with ⟨q_14, rfl⟩ | ⟨q_14, rfl⟩
    · refine v_if_neF (pc := 17) (tgt := 22) C (by decide) dX5_price_17 (by decide) ?_
      refine v_iconst (pc := 20) (v := (-1)) C dX5_price_20 (by decide) ?_
      exact v_iret (pc := 21) C dX5_price_21 (rfl) (S) rfl (by unfold s_price; rw [if_neg q_4, if_pos q_14]; exact ⟨rfl, hM⟩)
    · refine v_if_neT (pc := 17) (tgt := 22) C (by decide) dX5_price_17 (by decide) ?_
      obtain ⟨k, hk, rfl⟩ := wN (n := 6) q_4
      obtain ⟨y, hy1, hy2, rfl⟩ := w1N q_14
      refine v_aload_n (pc := 22) C dX5_price_22 rfl ?_
      refine v_get (pc := 23) (v := .ref (a 28)) C inX5 0 rfl rfl 28 (by decide) kw3_53 rfl dX5_price_23 ?_
      refine v_iload_n (pc := 26) C dX5_price_26 rfl ?_
      refine v_ialdN (pc := 27) (i := (k)) (f := (mA S 28)) C 22 rfl (by omega) (by decide) dX5_price_27 ?_
      refine v_istore_n (pc := 28) C dX5_price_28 (by decide) ?_
      refine v_aload_n (pc := 29) C dX5_price_29 rfl ?_
      refine v_get (pc := 30) (v := .ref (a 28)) C inX5 0 rfl rfl 28 (by decide) kw3_53 rfl dX5_price_30 ?_
      refine v_iload_n (pc := 33) C dX5_price_33 rfl ?_
      refine v_iload_n (pc := 34) C dX5_price_34 rfl ?_
      refine v_iastN (pc := 35) (i := (k)) (f := (mA S 28)) C 22 rfl (by omega) (by decide) dX5_price_35 (ws' := (MW G o a (sA S 28 (upd ((mA S 28)) (k) (nI (y)))))) rfl ?_
      refine v_iload_n (pc := 36) C dX5_price_36 rfl ?_
      exact v_iret (pc := 37) C dX5_price_37 (rfl) ((sA S 28 (upd ((mA S 28)) (k) (nI (y))))) rfl (by unfold s_price; rw [if_neg q_4, if_neg q_14, tn_nI (n := k) (by omega), tn_nI (n := y) (by omega)]; exact ⟨hM.2.2.2.2.2.2.2.2.2 k hk, hM.1, hM.2.1, hM.2.2.1, hM.2.2.2.1, hM.2.2.2.2.1, hM.2.2.2.2.2.1, hM.2.2.2.2.2.2.1, hM.2.2.2.2.2.2.2.1, hM.2.2.2.2.2.2.2.2.1, fun z hz => upd_nI (hM.2.2.2.2.2.2.2.2.2 z hz)⟩)
def rmX5_count : Room := { frames := 0, cells := 0, slots := 0, locals := 0 }
set_option maxHeartbeats 4000000 in
set_option maxRecDepth 100000 in
theorem kX5_count (G : TG) (o : Nat) (a : Nat → Nat) (S : MS) (A : AS) (hI : AInv A) (hM : MRel A S) (w : Int32) : CT G yX5_count cX5_count 4 (some .int) rmX5_count 0 0 [.ref (o), .int (w)] (MW G o a S) (fun S : MS => MW G o a S) (Ri (fun r S' => r = s_count A w ∧ MRel A S')) := by
  refine CT.enter (by decide) (Nat.le_of_ble_eq_true rfl) (fun X C hnm => ?_)
  refine V.less [(0, .ref (o)), (1, .int (w))] ⟨rfl, rfl, trivial⟩ ?_
  have hnp := hI.1
  have hnq := hI.2.2.2.2.1
  refine v_iconst (pc := 0) (v := 0) C dX5_count_0 (by decide) ?_
  refine v_istore_n (pc := 1) C dX5_count_1 (by decide) ?_
  refine v_iconst (pc := 2) (v := 0) C dX5_count_2 (by decide) ?_
  refine v_istore_n (pc := 3) C dX5_count_3 (by decide) ?_
  have L4 : ∀ (fu : Nat) (k : Nat), (aNp A < k + fu) → (k ≤ aNp A) → V G X cX5_count 4 rmX5_count (QX G X (fun S : MS => MW G o a S) (Ri (fun r S' => r = s_count A w ∧ MRel A S')) 0 0) 0 0 4 (lvo [(0, .ref (o)), (1, .int (w)), (2, .int (nI (linesA A k))), (3, .int (nI (k)))]) [] (MW G o a S) := by
    intro fu
    induction fu with
    | zero => intro k hf hk; exfalso; omega
    | succ fu ih =>
      intro k hf hk
      refine v_iload_n (pc := 4) C dX5_count_4 rfl ?_
      refine v_aload_n (pc := 5) C dX5_count_5 rfl ?_
      refine v_get (pc := 6) (v := .int (mI S 4)) C inX5 0 rfl rfl 4 (by decide) kw3_29 rfl dX5_count_6 ?_
      refine v_cv (y := (nI (aNp A))) (hM.1) ?_
      refine v_icmp_geN (pc := 9) (tgt := 27) C (k) (aNp A) rfl rfl (by omega) (by omega) dX5_count_9 (by decide) (fun c_9 => ?_) (fun c_9 => ?_)
      · have hkk : k = aNp A := by omega
        refine v_iload_n (pc := 27) C dX5_count_27 rfl ?_
        refine v_if_ne (pc := 28) (tgt := 38) C dX5_count_28 (by decide) (fun c_28 => ?_) (fun c_28 => ?_)
        · refine v_iload_n (pc := 38) C dX5_count_38 rfl ?_
          refine v_iconst (pc := 39) (v := 1) C dX5_count_39 (by decide) ?_
          refine v_icmp_ne (pc := 40) (tgt := 50) C dX5_count_40 (by decide) (fun c_40 => ?_) (fun c_40 => ?_)
          · refine v_iload_n (pc := 50) C dX5_count_50 rfl ?_
            refine v_iconst (pc := 51) (v := 2) C dX5_count_51 (by decide) ?_
            refine v_icmp_ne (pc := 52) (tgt := 59) C dX5_count_52 (by decide) (fun c_52 => ?_) (fun c_52 => ?_)
            · refine v_iconst (pc := 59) (v := (-1)) C dX5_count_59 (by decide) ?_
              exact v_iret (pc := 60) C dX5_count_60 (rfl) (S) rfl (⟨by unfold s_count; rw [if_neg c_28, if_neg c_40, if_neg c_52], hM⟩)
            · refine v_iload_n (pc := 55) C dX5_count_55 rfl ?_
              refine v_goto (pc := 56) (tgt := 60) C dX5_count_56 (by decide) ?_
              exact v_iret (pc := 60) C dX5_count_60 (rfl) (S) rfl (⟨by unfold s_count; rw [if_neg c_28, if_neg c_40, if_pos c_52, hkk], hM⟩)
          · refine v_aload_n (pc := 43) C dX5_count_43 rfl ?_
            refine v_get (pc := 44) (v := .int (mI S 19)) C inX5 0 rfl rfl 19 (by decide) kw3_44 rfl dX5_count_44 ?_
            refine v_cv (y := (nI (aNq A))) (hM.2.2.2.1) ?_
            refine v_goto (pc := 47) (tgt := 60) C dX5_count_47 (by decide) ?_
            exact v_iret (pc := 60) C dX5_count_60 (rfl) (S) rfl (⟨by unfold s_count; rw [if_neg c_28, if_pos c_40], hM⟩)
        · refine v_aload_n (pc := 31) C dX5_count_31 rfl ?_
          refine v_get (pc := 32) (v := .int (mI S 4)) C inX5 0 rfl rfl 4 (by decide) kw3_29 rfl dX5_count_32 ?_
          refine v_cv (y := (nI (aNp A))) (hM.1) ?_
          refine v_goto (pc := 35) (tgt := 60) C dX5_count_35 (by decide) ?_
          exact v_iret (pc := 60) C dX5_count_60 (rfl) (S) rfl (⟨by unfold s_count; rw [if_pos c_28], hM⟩)
      · refine v_iload_n (pc := 12) C dX5_count_12 rfl ?_
        refine v_aload_n (pc := 13) C dX5_count_13 rfl ?_
        refine v_get (pc := 14) (v := .ref (a 3)) C inX5 0 rfl rfl 3 (by decide) kw3_28 rfl dX5_count_14 ?_
        refine v_iload_n (pc := 17) C dX5_count_17 rfl ?_
        refine v_ialdN (pc := 18) (i := (k)) (f := (mA S 3)) C 4 rfl (by omega) (by decide) dX5_count_18 ?_
        refine v_cv (y := (nI (aN A k))) (hM.2.1 k (by omega)) ?_
        refine v_iaddN (pc := 19) C (linesA A k) (aN A k) rfl rfl dX5_count_19 ?_
        refine v_istore_n (pc := 20) C dX5_count_20 (by decide) ?_
        refine v_iinc1 (pc := 21) C (k) rfl dX5_count_21 rfl ?_
        refine v_goto (pc := 24) (tgt := 4) C dX5_count_24 (by decide) ?_
        exact V.lessE (ih  (((k) + 1)) (by omega) (by omega)) ⟨rfl, rfl, rfl, rfl, trivial⟩
  exact V.lessE (L4 (aNp A + 1) (0) (by omega) (by omega)) ⟨rfl, rfl, rfl, rfl, trivial⟩
theorem kX5_told (G : TG) (o : Nat) (a : Nat → Nat) (S : MS) (A : AS) (hI : AInv A) (hM : MRel A S) (w : Int32) : CT G yX5_told cX5_told 2 (some .int) rmX5_told 0 0 [.ref o, .int w] (MW G o a S) (fun S : MS => MW G o a S) (Ri (fun r S' => r = s_told A w ∧ MRel A S')) := by
  rcases hM.2.2.2.2.2.1 with ⟨hT, e14⟩ | ⟨n, t, d, hT, hn, e14, ht, hd⟩
  · exact kX5_told_n G o a S A hI hM w hT e14
  · exact kX5_told_s G o a S A hI hM w n t d hT hn e14 ht
theorem kX5_done (G : TG) (o : Nat) (a : Nat → Nat) (S : MS) (A : AS) (hI : AInv A) (hM : MRel A S) (w : Int32) : CT G yX5_done cX5_done 2 (some .int) rmX5_done 0 0 [.ref o, .int w] (MW G o a S) (fun S : MS => MW G o a S) (Ri (fun r S' => r = s_done A w ∧ MRel A S')) := by
  rcases hM.2.2.2.2.2.1 with ⟨hT, e14⟩ | ⟨n, t, d, hT, hn, e14, ht, hd⟩
  · exact kX5_done_n G o a S A hI hM w hT e14
  · exact kX5_done_s G o a S A hI hM w n t d hT hn e14 hd
