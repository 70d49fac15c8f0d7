/-! the reference: mates, one line -/
theorem dl_up {f : Nat → Int32} {i m : Nat} (h : dp f i < dp f m) : nI (dp f m - dp f i) + (if f m = 4 ∨ f m = 5 then 1 else if f m = 6 then -1 else 0) = nI (dp f (m + 1) - dp f i) := by
  rcases dp_step f m with ⟨a, b⟩ | ⟨a, b⟩ | ⟨a, a6, b⟩
  · rw [if_pos a, b, nI_1]; congr 1; omega
  · rw [if_neg (by rw [a]; decide), if_pos a, b]
    obtain ⟨x, hx⟩ : ∃ x, dp f m - dp f i = x + 1 := ⟨dp f m - dp f i - 1, by omega⟩
    rw [hx, pk_m1]; congr 1; omega
  · rw [if_neg a, if_neg a6, b]; exact Int32.add_zero _
theorem dl_dn {f : Nat → Int32} {i m : Nat} (hw : f m = 6 → 0 < dp f m) (h : dp f i < dp f (m + 1)) (hm : dp f i ≤ dp f m) : nI (dp f (m + 1) - dp f i) + (if f m = 4 ∨ f m = 5 then -1 else if f m = 6 then 1 else 0) = nI (dp f m - dp f i) := by
  rcases dp_step f m with ⟨a, b⟩ | ⟨a, b⟩ | ⟨a, a6, b⟩
  · rw [if_pos a, b]
    obtain ⟨x, hx⟩ : ∃ x, dp f m + 1 - dp f i = x + 1 := ⟨dp f m - dp f i, by omega⟩
    rw [hx, pk_m1]; congr 1; omega
  · have := hw a
    rw [if_neg (by rw [a]; decide), if_pos a, b, nI_1]; congr 1; omega
  · rw [if_neg a, if_neg a6, b]; exact Int32.add_zero _
theorem lgc_le {x : Int64} : lg_cmp x 0 ≤ 0 ↔ ¬ 0 < x := by
  unfold lg_cmp
  by_cases h : (0 : Int64) < x
  · simp [h]
  · by_cases h2 : x = 0
    · simp [h2]
    · simp [h, h2]
def rmX5_endOf : Room := { frames := 0, cells := 0, slots := 0, locals := 0 }
set_option maxHeartbeats 4000000 in
set_option maxRecDepth 100000 in
theorem kX5_endOf (G : TG) (o : Nat) (a : Nat → Nat) (S : MS) (p i e : Nat) (hp : p < 10) (hm : Mt (fun k => mA S 0 (20 * p + k)) i e) (he : e < 20) : CT G yX5_endOf cX5_endOf 6 (some .int) rmX5_endOf 0 0 [.ref (o), .int (nI (p)), .int (nI (i))] (MW G o a S) (fun S : MS => MW G o a S) (Ri (fun r S' => S' = S ∧ r = nI e)) := by
  refine CT.enter (by decide) (Nat.le_of_ble_eq_true rfl) (fun X C hnm => ?_)
  refine V.less [(0, .ref (o)), (1, .int (nI (p))), (2, .int (nI (i)))] ⟨rfl, rfl, rfl, trivial⟩ ?_
  have hie := hm.1
  refine v_iconst (pc := 0) (v := 1) C dX5_endOf_0 (by decide) ?_
  refine v_istore_n (pc := 1) C dX5_endOf_1 (by decide) ?_
  refine v_iload_n (pc := 2) C dX5_endOf_2 rfl ?_
  refine v_istore (pc := 3) C dX5_endOf_3 (by decide) ?_
  have L5 : ∀ (fu : Nat) (k : Nat) (d : Nat), (e < k + fu) → (i ≤ k) → (k ≤ e) → (d = dp (fun k => mA S 0 (20 * p + k)) (k + 1) - dp (fun k => mA S 0 (20 * p + k)) i) → V G X cX5_endOf 6 rmX5_endOf (QX G X (fun S : MS => MW G o a S) (Ri (fun r S' => S' = S ∧ r = nI e)) 0 0) 0 0 5 (lvo [(0, .ref (o)), (1, .int (nI (p))), (2, .int (nI (i))), (3, .int (nI (d))), (4, .int (nI (k)))]) [] (MW G o a S) := by
    intro fu
    induction fu with
    | zero => intro k d hf hk1 hk2 hd; exfalso; omega
    | succ fu ih =>
      intro k d hf hk1 hk2 hd
      have hdk := dp_le (fun k => mA S 0 (20 * p + k)) (k + 1)
      refine v_iload_n (pc := 5) C dX5_endOf_5 rfl ?_
      refine v_if_leN (pc := 6) (tgt := 60) C (d) rfl (by omega) dX5_endOf_6 (by decide) (fun c_6 => ?_) (fun c_6 => ?_)
      · have hkx : k = e := by
          rcases Nat.lt_or_ge k e with q | q
          · have := hm.2.2.2.2 (k + 1) (by omega) (by omega); omega
          · omega
        refine v_iload (pc := 60) C dX5_endOf_60 rfl ?_
        exact v_iret (pc := 62) C dX5_endOf_62 (rfl) (S) rfl (⟨rfl, by rw [hkx]⟩)
      · have hke : k < e := by
          rcases Nat.lt_or_ge k e with q | q
          · exact q
          · have : k = e := by omega
            subst this; have := hm.2.2.2.1; omega
        have hdi := hm.2.2.2.2 (k + 1) (by omega) (by omega)
        refine v_iinc1 (pc := 9) C (k) rfl dX5_endOf_9 rfl ?_
        refine v_aload_n (pc := 12) C dX5_endOf_12 rfl ?_
        refine v_get (pc := 13) (v := .ref (a 0)) C inX5 0 rfl rfl 0 (by decide) kw3_25 rfl dX5_endOf_13 ?_
        refine v_bipush (pc := 16) (v := 20) C dX5_endOf_16 (by decide) ?_
        refine v_iload_n (pc := 18) C dX5_endOf_18 rfl ?_
        refine v_imulN (pc := 19) C 20 (p) rfl rfl dX5_endOf_19 ?_
        refine v_iload (pc := 20) C dX5_endOf_20 rfl ?_
        refine v_iaddN (pc := 22) C (20 * (p)) ((k) + 1) rfl rfl dX5_endOf_22 ?_
        refine v_ialdN (pc := 23) (i := ((20 * (p)) + ((k) + 1))) (f := (mA S 0)) C 1 rfl (by omega) (by decide) dX5_endOf_23 ?_
        refine v_nm (fun w e_w => ?_)
        refine v_istore (pc := 24) C dX5_endOf_24 (by decide) ?_
        refine v_iload_n (pc := 26) C dX5_endOf_26 rfl ?_
        have J55 : ∀ (dl : Int32), (dl = if (fun k => mA S 0 (20 * p + k)) (k + 1) = 4 ∨ (fun k => mA S 0 (20 * p + k)) (k + 1) = 5 then 1 else if (fun k => mA S 0 (20 * p + k)) (k + 1) = 6 then -1 else 0) → V G X cX5_endOf 6 rmX5_endOf (QX G X (fun S : MS => MW G o a S) (Ri (fun r S' => S' = S ∧ r = nI e)) 0 0) 0 0 55 (lvo [(0, .ref (o)), (1, .int (nI (p))), (2, .int (nI (i))), (3, .int (nI (d))), (4, .int (nI ((k) + 1))), (5, .int (w))]) [.int (dl), .int (nI (d))] (MW G o a S) := by
          intro dl hdl
          refine v_iadd (pc := 55) C dX5_endOf_55 ?_
          refine v_cv (y := (nI (dp (fun k => mA S 0 (20 * p + k)) (k + 1 + 1) - dp (fun k => mA S 0 (20 * p + k)) i))) (by rw [hd, hdl]; exact dl_up hdi) ?_
          refine v_istore_n (pc := 56) C dX5_endOf_56 (by decide) ?_
          refine v_goto (pc := 57) (tgt := 5) C dX5_endOf_57 (by decide) ?_
          exact V.lessE (ih  (((k) + 1)) ((dp (fun k => mA S 0 (20 * p + k)) (k + 1 + 1) - dp (fun k => mA S 0 (20 * p + k)) i)) (by omega) (by omega) (by omega) (rfl)) ⟨rfl, rfl, rfl, rfl, rfl, trivial⟩
        refine v_iload (pc := 27) C dX5_endOf_27 rfl ?_
        refine v_iconst (pc := 29) (v := 4) C dX5_endOf_29 (by decide) ?_
        refine v_icmp_eq (pc := 30) (tgt := 39) C dX5_endOf_30 (by decide) (fun c_30 => ?_) (fun c_30 => ?_)
        · refine v_iconst (pc := 39) (v := 1) C dX5_endOf_39 (by decide) ?_
          refine v_goto (pc := 40) (tgt := 55) C dX5_endOf_40 (by decide) ?_
          exact V.lessE (J55  ((1 : Int32)) (by show _ = if mA S 0 (20 * p + (k + 1)) = 4 ∨ mA S 0 (20 * p + (k + 1)) = 5 then _ else if mA S 0 (20 * p + (k + 1)) = 6 then _ else _; rw [← e_w]; simp [c_30])) ⟨rfl, rfl, rfl, rfl, rfl, rfl, trivial⟩
        · refine v_iload (pc := 33) C dX5_endOf_33 rfl ?_
          refine v_iconst (pc := 35) (v := 5) C dX5_endOf_35 (by decide) ?_
          refine v_icmp_ne (pc := 36) (tgt := 43) C dX5_endOf_36 (by decide) (fun c_36 => ?_) (fun c_36 => ?_)
          · refine v_iload (pc := 43) C dX5_endOf_43 rfl ?_
            refine v_bipush (pc := 45) (v := 6) C dX5_endOf_45 (by decide) ?_
            refine v_icmp_ne (pc := 47) (tgt := 54) C dX5_endOf_47 (by decide) (fun c_47 => ?_) (fun c_47 => ?_)
            · refine v_iconst (pc := 54) (v := 0) C dX5_endOf_54 (by decide) ?_
              exact V.lessE (J55  ((0 : Int32)) (by show _ = if mA S 0 (20 * p + (k + 1)) = 4 ∨ mA S 0 (20 * p + (k + 1)) = 5 then _ else if mA S 0 (20 * p + (k + 1)) = 6 then _ else _; rw [← e_w]; simp [c_30, c_36, c_47])) ⟨rfl, rfl, rfl, rfl, rfl, rfl, trivial⟩
            · refine v_iconst (pc := 50) (v := (-1)) C dX5_endOf_50 (by decide) ?_
              refine v_goto (pc := 51) (tgt := 55) C dX5_endOf_51 (by decide) ?_
              exact V.lessE (J55  ((-1 : Int32)) (by show _ = if mA S 0 (20 * p + (k + 1)) = 4 ∨ mA S 0 (20 * p + (k + 1)) = 5 then _ else if mA S 0 (20 * p + (k + 1)) = 6 then _ else _; rw [← e_w]; simp [c_30, c_36, c_47])) ⟨rfl, rfl, rfl, rfl, rfl, rfl, trivial⟩
          · refine v_iconst (pc := 39) (v := 1) C dX5_endOf_39 (by decide) ?_
            refine v_goto (pc := 40) (tgt := 55) C dX5_endOf_40 (by decide) ?_
            exact V.lessE (J55  ((1 : Int32)) (by show _ = if mA S 0 (20 * p + (k + 1)) = 4 ∨ mA S 0 (20 * p + (k + 1)) = 5 then _ else if mA S 0 (20 * p + (k + 1)) = 6 then _ else _; rw [← e_w]; simp [c_30, c_36])) ⟨rfl, rfl, rfl, rfl, rfl, rfl, trivial⟩
  exact V.lessE (L5 (e + 1) ((i)) (1) (by omega) (by omega) (by omega) (by rw [dp_open (f := (fun k => mA S 0 (20 * p + k))) hm.2.1]; omega)) ⟨rfl, rfl, rfl, rfl, rfl, trivial⟩
def rmX5_beginOf : Room := { frames := 0, cells := 0, slots := 0, locals := 0 }
set_option maxHeartbeats 4000000 in
set_option maxRecDepth 100000 in
theorem kX5_beginOf (G : TG) (o : Nat) (a : Nat → Nat) (S : MS) (p i e : Nat) (hp : p < 10) (hm : Mt (fun k => mA S 0 (20 * p + k)) i e) (he : e < 20) (hw : wfd (fun k => mA S 0 (20 * p + k)) (e + 1)) : CT G yX5_beginOf cX5_beginOf 6 (some .int) rmX5_beginOf 0 0 [.ref (o), .int (nI (p)), .int (nI (e))] (MW G o a S) (fun S : MS => MW G o a S) (Ri (fun r S' => S' = S ∧ r = nI i)) := by
  refine CT.enter (by decide) (Nat.le_of_ble_eq_true rfl) (fun X C hnm => ?_)
  refine V.less [(0, .ref (o)), (1, .int (nI (p))), (2, .int (nI (e)))] ⟨rfl, rfl, rfl, trivial⟩ ?_
  have hie := hm.1
  refine v_iconst (pc := 0) (v := 1) C dX5_beginOf_0 (by decide) ?_
  refine v_istore_n (pc := 1) C dX5_beginOf_1 (by decide) ?_
  refine v_iload_n (pc := 2) C dX5_beginOf_2 rfl ?_
  refine v_istore (pc := 3) C dX5_beginOf_3 (by decide) ?_
  have L5 : ∀ (fu : Nat) (k : Nat) (d : Nat), (k < i + fu) → (i ≤ k) → (k ≤ e) → (d = dp (fun k => mA S 0 (20 * p + k)) k - dp (fun k => mA S 0 (20 * p + k)) i) → V G X cX5_beginOf 6 rmX5_beginOf (QX G X (fun S : MS => MW G o a S) (Ri (fun r S' => S' = S ∧ r = nI i)) 0 0) 0 0 5 (lvo [(0, .ref (o)), (1, .int (nI (p))), (2, .int (nI (e))), (3, .int (nI (d))), (4, .int (nI (k)))]) [] (MW G o a S) := by
    intro fu
    induction fu with
    | zero => intro k d hf hk1 hk2 hd; exfalso; omega
    | succ fu ih =>
      intro k d hf hk1 hk2 hd
      have hdk := dp_le (fun k => mA S 0 (20 * p + k)) k
      refine v_iload_n (pc := 5) C dX5_beginOf_5 rfl ?_
      refine v_if_leN (pc := 6) (tgt := 60) C (d) rfl (by omega) dX5_beginOf_6 (by decide) (fun c_6 => ?_) (fun c_6 => ?_)
      · have hkx : k = i := by
          rcases Nat.lt_or_ge i k with q | q
          · have := hm.2.2.2.2 k q (by omega); omega
          · omega
        refine v_iload (pc := 60) C dX5_beginOf_60 rfl ?_
        exact v_iret (pc := 62) C dX5_beginOf_62 (rfl) (S) rfl (⟨rfl, by rw [hkx]⟩)
      · have hke : i < k := by
          rcases Nat.lt_or_ge i k with q | q
          · exact q
          · have : k = i := by omega
            subst this; omega
        have hdi := hm.2.2.2.2 k (by omega) (by omega)
        have hdj : dp (fun k => mA S 0 (20 * p + k)) i ≤ dp (fun k => mA S 0 (20 * p + k)) (k - 1) := by
          rcases Nat.lt_or_ge i (k - 1) with q | q
          · exact Nat.le_of_lt (hm.2.2.2.2 (k - 1) q (by omega))
          · have : k - 1 = i := by omega
            rw [this]; exact Nat.le_refl _
        refine v_iincD (pc := 9) C (k) rfl (by omega) dX5_beginOf_9 rfl ?_
        refine v_aload_n (pc := 12) C dX5_beginOf_12 rfl ?_
        refine v_get (pc := 13) (v := .ref (a 0)) C inX5 0 rfl rfl 0 (by decide) kw3_25 rfl dX5_beginOf_13 ?_
        refine v_bipush (pc := 16) (v := 20) C dX5_beginOf_16 (by decide) ?_
        refine v_iload_n (pc := 18) C dX5_beginOf_18 rfl ?_
        refine v_imulN (pc := 19) C 20 (p) rfl rfl dX5_beginOf_19 ?_
        refine v_iload (pc := 20) C dX5_beginOf_20 rfl ?_
        refine v_iaddN (pc := 22) C (20 * (p)) ((k) - 1) rfl rfl dX5_beginOf_22 ?_
        refine v_ialdN (pc := 23) (i := ((20 * (p)) + ((k) - 1))) (f := (mA S 0)) C 1 rfl (by omega) (by decide) dX5_beginOf_23 ?_
        refine v_nm (fun w e_w => ?_)
        refine v_istore (pc := 24) C dX5_beginOf_24 (by decide) ?_
        refine v_iload_n (pc := 26) C dX5_beginOf_26 rfl ?_
        have J55 : ∀ (dl : Int32), (dl = if (fun k => mA S 0 (20 * p + k)) (k - 1) = 4 ∨ (fun k => mA S 0 (20 * p + k)) (k - 1) = 5 then -1 else if (fun k => mA S 0 (20 * p + k)) (k - 1) = 6 then 1 else 0) → V G X cX5_beginOf 6 rmX5_beginOf (QX G X (fun S : MS => MW G o a S) (Ri (fun r S' => S' = S ∧ r = nI i)) 0 0) 0 0 55 (lvo [(0, .ref (o)), (1, .int (nI (p))), (2, .int (nI (e))), (3, .int (nI (d))), (4, .int (nI ((k) - 1))), (5, .int (w))]) [.int (dl), .int (nI (d))] (MW G o a S) := by
          intro dl hdl
          refine v_iadd (pc := 55) C dX5_beginOf_55 ?_
          refine v_cv (y := (nI (dp (fun k => mA S 0 (20 * p + k)) (k - 1) - dp (fun k => mA S 0 (20 * p + k)) i))) (by rw [hd, hdl]; have := dl_dn (f := (fun k => mA S 0 (20 * p + k))) (i := i) (m := k - 1) (fun h6 => hw (k - 1) (by omega) h6) (by rw [show k - 1 + 1 = k by omega]; exact hdi) hdj; rw [show k - 1 + 1 = k by omega] at this; exact this) ?_
          refine v_istore_n (pc := 56) C dX5_beginOf_56 (by decide) ?_
          refine v_goto (pc := 57) (tgt := 5) C dX5_beginOf_57 (by decide) ?_
          exact V.lessE (ih  (((k) - 1)) ((dp (fun k => mA S 0 (20 * p + k)) (k - 1) - dp (fun k => mA S 0 (20 * p + k)) i)) (by omega) (by omega) (by omega) (rfl)) ⟨rfl, rfl, rfl, rfl, rfl, trivial⟩
        refine v_iload (pc := 27) C dX5_beginOf_27 rfl ?_
        refine v_iconst (pc := 29) (v := 4) C dX5_beginOf_29 (by decide) ?_
        refine v_icmp_eq (pc := 30) (tgt := 39) C dX5_beginOf_30 (by decide) (fun c_30 => ?_) (fun c_30 => ?_)
        · refine v_iconst (pc := 39) (v := (-1)) C dX5_beginOf_39 (by decide) ?_
          refine v_goto (pc := 40) (tgt := 55) C dX5_beginOf_40 (by decide) ?_
          exact V.lessE (J55  ((-1 : Int32)) (by show _ = if mA S 0 (20 * p + (k - 1)) = 4 ∨ mA S 0 (20 * p + (k - 1)) = 5 then _ else if mA S 0 (20 * p + (k - 1)) = 6 then _ else _; rw [← e_w]; simp [c_30])) ⟨rfl, rfl, rfl, rfl, rfl, rfl, trivial⟩
        · refine v_iload (pc := 33) C dX5_beginOf_33 rfl ?_
          refine v_iconst (pc := 35) (v := 5) C dX5_beginOf_35 (by decide) ?_
          refine v_icmp_ne (pc := 36) (tgt := 43) C dX5_beginOf_36 (by decide) (fun c_36 => ?_) (fun c_36 => ?_)
          · refine v_iload (pc := 43) C dX5_beginOf_43 rfl ?_
            refine v_bipush (pc := 45) (v := 6) C dX5_beginOf_45 (by decide) ?_
            refine v_icmp_ne (pc := 47) (tgt := 54) C dX5_beginOf_47 (by decide) (fun c_47 => ?_) (fun c_47 => ?_)
            · refine v_iconst (pc := 54) (v := 0) C dX5_beginOf_54 (by decide) ?_
              exact V.lessE (J55  ((0 : Int32)) (by show _ = if mA S 0 (20 * p + (k - 1)) = 4 ∨ mA S 0 (20 * p + (k - 1)) = 5 then _ else if mA S 0 (20 * p + (k - 1)) = 6 then _ else _; rw [← e_w]; simp [c_30, c_36, c_47])) ⟨rfl, rfl, rfl, rfl, rfl, rfl, trivial⟩
            · refine v_iconst (pc := 50) (v := 1) C dX5_beginOf_50 (by decide) ?_
              refine v_goto (pc := 51) (tgt := 55) C dX5_beginOf_51 (by decide) ?_
              exact V.lessE (J55  ((1 : Int32)) (by show _ = if mA S 0 (20 * p + (k - 1)) = 4 ∨ mA S 0 (20 * p + (k - 1)) = 5 then _ else if mA S 0 (20 * p + (k - 1)) = 6 then _ else _; rw [← e_w]; simp [c_30, c_36, c_47])) ⟨rfl, rfl, rfl, rfl, rfl, rfl, trivial⟩
          · refine v_iconst (pc := 39) (v := (-1)) C dX5_beginOf_39 (by decide) ?_
            refine v_goto (pc := 40) (tgt := 55) C dX5_beginOf_40 (by decide) ?_
            exact V.lessE (J55  ((-1 : Int32)) (by show _ = if mA S 0 (20 * p + (k - 1)) = 4 ∨ mA S 0 (20 * p + (k - 1)) = 5 then _ else if mA S 0 (20 * p + (k - 1)) = 6 then _ else _; rw [← e_w]; simp [c_30, c_36])) ⟨rfl, rfl, rfl, rfl, rfl, rfl, trivial⟩
  exact V.lessE (L5 (e + 1) ((e)) (1) (by omega) (by omega) (by omega) (by have := dp_end (f := (fun k => mA S 0 (20 * p + k))) hm.2.2.1; have := hm.2.2.2.1; have := hm.2.2.2.2 e (by omega) (by omega); omega)) ⟨rfl, rfl, rfl, rfl, rfl, trivial⟩
def rmX5_ended : Room := { frames := 1, cells := 0, slots := 0, locals := 25 }
set_option maxHeartbeats 4000000 in
set_option maxRecDepth 100000 in
theorem kX5_ended (G : TG) (o : Nat) (a : Nat → Nat) (S : MS) (p b e : Nat) (hp : p < 10) (hm : Mt (fun k => mA S 0 (20 * p + k)) b e) (he : e < 20) (hw : wfd (fun k => mA S 0 (20 * p + k)) (e + 1)) : CT G yX5_ended cX5_ended 4 (some .int) rmX5_ended 0 0 [.ref (o), .int (nI (p)), .int (nI (e))] (MW G o a S) (fun S : MS => MW G o a S) (Ri (fun r S' => (mA S 0 (20 * p + b) = 5 → r = nI (e + 1) ∧ S' = S) ∧ (¬ mA S 0 (20 * p + b) = 5 → r = nI (if 0 < mL S b - 1 then b + 1 else e + 1) ∧ S' = sL S (vp_updL (mL S) b (mL S b - 1))))) := by
  refine CT.enter (by decide) (Nat.le_of_ble_eq_true rfl) (fun X C hnm => ?_)
  refine V.less [(0, .ref (o)), (1, .int (nI (p))), (2, .int (nI (e)))] ⟨rfl, rfl, rfl, trivial⟩ ?_
  have hbe := hm.1
  refine v_aload_n (pc := 0) C dX5_ended_0 rfl ?_
  refine v_iload_n (pc := 1) C dX5_ended_1 rfl ?_
  refine v_iload_n (pc := 2) C dX5_ended_2 rfl ?_
  refine v_callV0 (pc := 3) (st := []) (q0 := 0) C (kX5_beginOf G o a S p b e hp hm he hw) ykX5_beginOf cvX5_beginOf kw3_184 dX5_ended_3 rfl rfl rfl rfl rfl (by decide) (Nat.le_of_ble_eq_true rfl) (by decide) rfl (Ri_kk (fun r_3 u_3 h_3 => ?_))
  obtain ⟨rfl, rfl⟩ := h_3
  refine v_istore_n (pc := 6) C dX5_ended_6 (by decide) ?_
  refine v_aload_n (pc := 7) C dX5_ended_7 rfl ?_
  refine v_get (pc := 8) (v := .ref (a 0)) C inX5 0 rfl rfl 0 (by decide) kw3_25 rfl dX5_ended_8 ?_
  refine v_bipush (pc := 11) (v := 20) C dX5_ended_11 (by decide) ?_
  refine v_iload_n (pc := 13) C dX5_ended_13 rfl ?_
  refine v_imulN (pc := 14) C 20 (p) rfl rfl dX5_ended_14 ?_
  refine v_iload_n (pc := 15) C dX5_ended_15 rfl ?_
  refine v_iaddN (pc := 16) C (20 * (p)) (b) rfl rfl dX5_ended_16 ?_
  refine v_ialdN (pc := 17) (i := ((20 * (p)) + (b))) (f := (mA u_3 0)) C 1 rfl (by omega) (by decide) dX5_ended_17 ?_
  refine v_iconst (pc := 18) (v := 5) C dX5_ended_18 (by decide) ?_
  refine v_icmp_ne (pc := 19) (tgt := 26) C dX5_ended_19 (by decide) (fun c_19 => ?_) (fun c_19 => ?_)
  · refine v_aload_n (pc := 26) C dX5_ended_26 rfl ?_
    refine v_get (pc := 27) (v := .ref (a 8)) C inX5 0 rfl rfl 8 (by decide) kw3_33 rfl dX5_ended_27 ?_
    refine v_iload_n (pc := 30) C dX5_ended_30 rfl ?_
    refine v_dup2_11 (pc := 31) C dX5_ended_31 rfl rfl ?_
    refine v_laldN (pc := 32) (i := (b)) (f := (mL u_3)) C 8 rfl (by omega) (by decide) dX5_ended_32 ?_
    refine v_lconst (pc := 33) (v := 1) C dX5_ended_33 (by decide) ?_
    refine v_lsub (pc := 34) C dX5_ended_34 ?_
    refine v_lastN (pc := 35) (i := (b)) (f := (mL u_3)) C 8 rfl (by omega) (by decide) dX5_ended_35 (ws' := (MW G o a (sL u_3 (vp_updL ((mL u_3)) (b) (((mL u_3) (b)) - ((1 : Int64))))))) rfl ?_
    refine v_aload_n (pc := 36) C dX5_ended_36 rfl ?_
    refine v_get (pc := 37) (v := .ref (a 8)) C inX5 0 rfl rfl 8 (by decide) kw3_33 rfl dX5_ended_37 ?_
    refine v_iload_n (pc := 40) C dX5_ended_40 rfl ?_
    refine v_laldN (pc := 41) (i := (b)) (f := (vp_updL ((mL u_3)) (b) (((mL u_3) (b)) - ((1 : Int64))))) C 8 rfl (by omega) (by decide) dX5_ended_41 ?_
    refine v_lconst (pc := 42) (v := 0) C dX5_ended_42 (by decide) ?_
    refine v_lcmp (pc := 43) C dX5_ended_43 ?_
    refine v_if_le (pc := 44) (tgt := 53) C dX5_ended_44 (by decide) (fun c_44 => ?_) (fun c_44 => ?_)
    · refine v_iload_n (pc := 53) C dX5_ended_53 rfl ?_
      refine v_iconst (pc := 54) (v := 1) C dX5_ended_54 (by decide) ?_
      refine v_iaddN (pc := 55) C (e) 1 rfl rfl dX5_ended_55 ?_
      exact v_iret (pc := 56) C dX5_ended_56 (rfl) ((sL u_3 (vp_updL ((mL u_3)) (b) (((mL u_3) (b)) - ((1 : Int64)))))) rfl (⟨fun q => absurd q c_19, fun _ => ⟨by rw [if_neg (lgc_le.mp (by simpa [mL, sL, vp_updL] using c_44))], rfl⟩⟩)
    · refine v_iload_n (pc := 47) C dX5_ended_47 rfl ?_
      refine v_iconst (pc := 48) (v := 1) C dX5_ended_48 (by decide) ?_
      refine v_iaddN (pc := 49) C (b) 1 rfl rfl dX5_ended_49 ?_
      refine v_goto (pc := 50) (tgt := 56) C dX5_ended_50 (by decide) ?_
      exact v_iret (pc := 56) C dX5_ended_56 (rfl) ((sL u_3 (vp_updL ((mL u_3)) (b) (((mL u_3) (b)) - ((1 : Int64)))))) rfl (⟨fun q => absurd q c_19, fun _ => ⟨by rw [if_pos (Classical.byContradiction (fun q => c_44 (lgc_le.mpr (by simpa [mL, sL, vp_updL] using q))))], rfl⟩⟩)
  · refine v_iload_n (pc := 22) C dX5_ended_22 rfl ?_
    refine v_iconst (pc := 23) (v := 1) C dX5_ended_23 (by decide) ?_
    refine v_iaddN (pc := 24) C (e) 1 rfl rfl dX5_ended_24 ?_
    exact v_iret (pc := 25) C dX5_ended_25 (rfl) (u_3) rfl (⟨fun _ => ⟨rfl, rfl⟩, fun q => absurd c_19 q⟩)
