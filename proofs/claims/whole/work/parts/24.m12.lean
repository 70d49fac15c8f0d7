/-! the reference: sets, next -/
noncomputable def fsK (A : AS) (u : Nat) : Nat → Nat × List Nat
  | 0 => (0, [])
  | m + 1 => if 2 < bcN m then fsK A u m else if (fsK A u m).2 = [] ∨ costN A u m < (fsK A u m).1 then (costN A u m, [m]) else if costN A u m = (fsK A u m).1 then ((fsK A u m).1, (fsK A u m).2 ++ [m]) else fsK A u m
noncomputable def setL (A : AS) (u : Nat) : List Nat := (fsK A u 64).2
theorem fsK_skip {A : AS} {u m : Nat} (h : 2 < bcN m) : fsK A u (m + 1) = fsK A u m := by
  conv => lhs; unfold fsK
  rw [if_pos h]
theorem fsK_new {A : AS} {u m : Nat} (h : ¬ 2 < bcN m) (h2 : (fsK A u m).2 = [] ∨ costN A u m < (fsK A u m).1) : fsK A u (m + 1) = (costN A u m, [m]) := by
  conv => lhs; unfold fsK
  rw [if_neg h, if_pos h2]
theorem fsK_add {A : AS} {u m : Nat} (h : ¬ 2 < bcN m) (h2 : ¬ ((fsK A u m).2 = [] ∨ costN A u m < (fsK A u m).1)) (h3 : costN A u m = (fsK A u m).1) : fsK A u (m + 1) = ((fsK A u m).1, (fsK A u m).2 ++ [m]) := by
  conv => lhs; unfold fsK
  rw [if_neg h, if_neg h2, if_pos h3]
theorem fsK_no {A : AS} {u m : Nat} (h : ¬ 2 < bcN m) (h2 : ¬ ((fsK A u m).2 = [] ∨ costN A u m < (fsK A u m).1)) (h3 : ¬ costN A u m = (fsK A u m).1) : fsK A u (m + 1) = fsK A u m := by
  conv => lhs; unfold fsK
  rw [if_neg h, if_neg h2, if_neg h3]
theorem fsK_len {A : AS} {u : Nat} : ∀ m, (fsK A u m).2.length ≤ m := by
  intro m
  induction m with
  | zero => exact Nat.le_refl 0
  | succ m ih =>
    by_cases h : 2 < bcN m
    · rw [fsK_skip h]; omega
    · by_cases h2 : (fsK A u m).2 = [] ∨ costN A u m < (fsK A u m).1
      · rw [fsK_new h h2]; show 1 ≤ m + 1; omega
      · by_cases h3 : costN A u m = (fsK A u m).1
        · rw [fsK_add h h2 h3, List.length_append]; show (fsK A u m).2.length + 1 ≤ m + 1; omega
        · rw [fsK_no h h2 h3]; omega
theorem slipN_le {A : AS} (hI : AInv A) {m : Nat} : ∀ k, k ≤ 6 → slipN A m k ≤ 99 * k
  | 0, _ => Nat.le_refl 0
  | k + 1, hk => by
    have ih := slipN_le hI (m := m) k (by omega)
    have hp := (hI.2.2.2.2.2.2.2.2.2 k (by omega)).2
    show slipN A m k + m / 2 ^ k % 2 * aP A k ≤ _
    rcases (show m / 2 ^ k % 2 = 0 ∨ m / 2 ^ k % 2 = 1 by omega) with q | q <;> rw [q] <;> omega
theorem costK_le {A : AS} (hI : AInv A) {u m : Nat} : ∀ q, costK A u m q ≤ 594 + 99 * q
  | 0 => slipN_le hI 6 (Nat.le_refl 6)
  | q + 1 => by
    have ih := costK_le hI (u := u) (m := m) q
    have hp := (hI.2.2.2.2.2.2.2.2.2 6 (by omega)).2
    have hg : gsN A u m q ≤ 99 := by
      unfold gsN
      cases aG A u q with
      | none => exact Nat.zero_le _
      | some v => show (if _ then 0 else _) ≤ 99
                  split <;> omega
    show costK A u m q + gsN A u m q ≤ _
    omega
theorem costN_lt {A : AS} (hI : AInv A) {u m : Nat} : costN A u m < 10000 := by
  have := costK_le hI (u := u) (m := m) (aNq A)
  have := hI.2.2.2.2.1
  unfold costN
  omega
/-- the sets as the reference holds them -/
def MSet (L : List Nat) (S : MS) : Prop := mI S 30 = nI L.length ∧ ∀ i x, L[i]? = some x → mA S 29 i = nI x
theorem MSet_keep {L : List Nat} {S T : MS} (h : MSet L S) (hk : Keep S T) : MSet L T := by
  unfold MSet
  rw [hk.2 30 (by decide) (by decide), hk.1 29 (by decide) (by decide) (by decide) (by decide)]
  exact h
/-- what finding sets leaves alone -/
def Keep2 (S T : MS) : Prop := (∀ k, k ≠ 5 → k ≠ 6 → k ≠ 7 → k ≠ 9 → k ≠ 29 → mA T k = mA S k) ∧ ∀ k, k ≠ 10 → k ≠ 11 → k ≠ 30 → mI T k = mI S k
theorem Keep.two {S T : MS} (h : Keep S T) : Keep2 S T := ⟨fun k a b c d _ => h.1 k a b c d, fun k a b _ => h.2 k a b⟩
theorem Keep2.trans {S T U : MS} (h : Keep2 S T) (g : Keep2 T U) : Keep2 S U := ⟨fun k a b c d e => (g.1 k a b c d e).trans (h.1 k a b c d e), fun k a b c => (g.2 k a b c).trans (h.2 k a b c)⟩
theorem MRel_keep2 {A : AS} {S T : MS} (h : MRel A S) (hk : Keep2 S T) : MRel A T := by
  have h1 : Keep S (sI (sA T 29 (mA S 29)) 30 (mI S 30)) := by
    refine ⟨fun k a b c d => ?_, fun k a b => ?_⟩
    · by_cases e : k = 29
      · subst e; exact mA_same
      · exact (mA_ne e).trans (hk.1 k a b c d e)
    · by_cases e : k = 30
      · subst e; exact mI_same
      · exact (mI_ne e).trans (hk.2 k a b e)
  show MRel A (sI (sA T 29 (mA S 29)) 30 (mI S 30))
  exact MRel_keep h h1
theorem Keep2_30 {S : MS} {v : Int32} : Keep2 S (sI S 30 v) := ⟨fun _ _ _ _ _ _ => rfl, fun k _ _ c => mI_ne c⟩
theorem Keep2_b {S : MS} {v : Int32} {f : Nat → Int32} : Keep2 S (sA (sI S 30 v) 29 f) := ⟨fun k _ _ _ _ e => mA_ne e, fun k _ _ c => mI_ne c⟩
theorem MSet_new {S : MS} {m : Nat} : MSet [m] (sA (sI S 30 (nI (0 + 1))) 29 (upd (mA S 29) 0 (nI m))) := by
  refine ⟨rfl, fun i x h => ?_⟩
  show upd (mA S 29) 0 (nI m) i = nI x
  cases i with
  | zero => cases h; exact pk_us
  | succ i => simp at h
theorem MSet_add {S : MS} {m : Nat} {L : List Nat} (h : MSet L S) : MSet (L ++ [m]) (sA (sI S 30 (nI (L.length + 1))) 29 (upd (mA S 29) L.length (nI m))) := by
  refine ⟨?_, fun i x hx => ?_⟩
  · show nI (L.length + 1) = nI (L ++ [m]).length
    rw [List.length_append]; rfl
  · show upd (mA S 29) L.length (nI m) i = nI x
    by_cases e : i = L.length
    · subst e
      rw [List.getElem?_append_right (Nat.le_refl _), Nat.sub_self] at hx
      cases hx; exact pk_us
    · have hl : i < L.length := by
        have := (List.getElem?_eq_some_iff.mp hx).1
        rw [List.length_append] at this
        have : i < L.length + 1 := this
        omega
      rw [pk_un e]
      rw [List.getElem?_append_left hl] at hx
      exact h.2 i x hx
def rmX5_findSets : Room := { frames := 6, cells := 0, slots := 0, locals := 148 }
set_option maxHeartbeats 4000000 in
set_option maxRecDepth 100000 in
theorem kX5_findSets (G : TG) (o : Nat) (a : Nat → Nat) (S : MS) (A : AS) (hI : AInv A) (hM : MRel A S) (u : Nat) (hu : u < 10) : CT G yX5_findSets cX5_findSets 5 none rmX5_findSets 0 0 [.ref (o), .int (nI (u))] (MW G o a S) (fun S : MS => MW G o a S) (Rv (fun S' => Keep2 S S' ∧ MSet (setL A u) S')) := by
  refine CT.enter (by decide) (Nat.le_of_ble_eq_true rfl) (fun X C hnm => ?_)
  refine V.less [(0, .ref (o)), (1, .int (nI (u)))] ⟨rfl, rfl, trivial⟩ ?_
  generalize hQ : (QX G X (fun S : MS => MW G o a S) (Rv (fun S' => Keep2 S S' ∧ MSet (setL A u) S')) 0 0) = Qq
  have hnp := hI.1
  have hnq := hI.2.2.2.2.1
  refine v_aload_n (pc := 0) C dX5_findSets_0 rfl ?_
  refine v_iconst (pc := 1) (v := 0) C dX5_findSets_1 (by decide) ?_
  refine v_put (pc := 2) C inX5 tyX5 tyX5_ok nmX5 0 rfl rfl 30 (by decide) kw3_55 rfl (rfl) rfl (Nat.le_of_ble_eq_true rfl) dX5_findSets_2 (ws' := (MW G o a (sI S 30 (0 : Int32)))) rfl ?_
  refine v_iconst (pc := 5) (v := 0) C dX5_findSets_5 (by decide) ?_
  refine v_istore_n (pc := 6) C dX5_findSets_6 (by decide) ?_
  refine v_iconst (pc := 7) (v := 0) C dX5_findSets_7 (by decide) ?_
  refine v_istore_n (pc := 8) C dX5_findSets_8 (by decide) ?_
  have L9 : ∀ (fu : Nat) (m : Nat) (l : Nat) (S1 : MS), (64 < m + fu) → (m ≤ 64) → (l = (fsK A u m).1) → (l < 10000) → (MSet (fsK A u m).2 S1) → (Keep2 S S1) → V G X cX5_findSets 5 rmX5_findSets Qq 0 0 9 (lvo [(0, .ref (o)), (1, .int (nI (u))), (2, .int (nI (l))), (3, .int (nI (m)))]) [] (MW G o a S1) := by
    intro fu
    induction fu with
    | zero => intro m l S1 hf hm hl hl2 hs hK1; exfalso; omega
    | succ fu ih =>
      intro m l S1 hf hm hl hl2 hs hK1
      have hM1 := MRel_keep2 hM hK1
      refine v_iload_n (pc := 9) C dX5_findSets_9 rfl ?_
      refine v_bipush (pc := 10) (v := 64) C dX5_findSets_10 (by decide) ?_
      refine v_icmp_geN (pc := 12) (tgt := 84) C (m) 64 rfl rfl (by omega) (by omega) dX5_findSets_12 (by decide) (fun c_12 => ?_) (fun c_12 => ?_)
      · have h64 : m = 64 := by omega
        subst h64
        subst hQ
        exact v_vret (pc := 84) C dX5_findSets_84 (S1) rfl (⟨hK1, hs⟩)
      · refine v_iload_n (pc := 15) C dX5_findSets_15 rfl ?_
        refine v_callS0 (pc := 16) (st := []) C (kX5_bits G _ (nI m)) ykX5_bits kw4_20 kw4_19 dX5_findSets_16 rfl rfl rfl (by decide) (Nat.le_of_ble_eq_true rfl) (by decide) rfl (Ri_kk (fun r_16 u_16 h_16 => ?_))
        rw [bits_eq m (by omega)] at h_16
        subst h_16
        have hbc := bcN_le m (by omega)
        refine v_iconst (pc := 19) (v := 2) C dX5_findSets_19 (by decide) ?_
        refine v_icmp_gtN (pc := 20) (tgt := 78) C (bcN m) 2 rfl rfl (by omega) (by omega) dX5_findSets_20 (by decide) (fun c_20 => ?_) (fun c_20 => ?_)
        · refine v_iinc1 (pc := 78) C (m) rfl dX5_findSets_78 rfl ?_
          refine v_goto (pc := 81) (tgt := 9) C dX5_findSets_81 (by decide) ?_
          exact V.lessE (ih  (((m) + 1)) ((l)) (S1) (by omega) (by omega) (by rw [fsK_skip c_20]; exact hl) (hl2) (by rw [fsK_skip c_20]; exact hs) (hK1)) ⟨rfl, rfl, rfl, rfl, trivial⟩
        · refine v_aload_n (pc := 23) C dX5_findSets_23 rfl ?_
          refine v_iload_n (pc := 24) C dX5_findSets_24 rfl ?_
          refine v_iload_n (pc := 25) C dX5_findSets_25 rfl ?_
          refine v_callV0 (pc := 26) (st := []) (q0 := 0) C (kX5_costOf G o a S1 A hI hM1 u m hu (by omega)) ykX5_costOf cvX5_costOf kw4_22 dX5_findSets_26 rfl rfl rfl rfl rfl (by decide) (Nat.le_of_ble_eq_true rfl) (by decide) rfl (Ri_kk (fun r_26 u_26 h_26 => ?_))
          obtain ⟨er, hK⟩ := h_26
          subst er
          have hs2 := MSet_keep hs hK
          have hc := costN_lt hI (u := u) (m := m)
          have hlen := fsK_len (A := A) (u := u) m
          refine v_istore (pc := 29) C dX5_findSets_29 (by decide) ?_
          refine v_aload_n (pc := 31) C dX5_findSets_31 rfl ?_
          refine v_get (pc := 32) (v := .int (mI u_26 30)) C inX5 0 rfl rfl 30 (by decide) kw3_55 rfl dX5_findSets_32 ?_
          refine v_cv (y := (nI ((fsK A u m).2.length))) (hs2.1) ?_
          refine v_if_eqN (pc := 35) (tgt := 44) C ((fsK A u m).2.length) rfl (by omega) dX5_findSets_35 (by decide) (fun c_35 => ?_) (fun c_35 => ?_)
          · have hnew : (fsK A u m).2 = [] ∨ costN A u m < (fsK A u m).1 := Or.inl (List.length_eq_zero_iff.mp c_35)
            refine v_iload (pc := 44) C dX5_findSets_44 rfl ?_
            refine v_istore_n (pc := 46) C dX5_findSets_46 (by decide) ?_
            refine v_aload_n (pc := 47) C dX5_findSets_47 rfl ?_
            refine v_iconst (pc := 48) (v := 0) C dX5_findSets_48 (by decide) ?_
            refine v_put (pc := 49) C inX5 tyX5 tyX5_ok nmX5 0 rfl rfl 30 (by decide) kw3_55 rfl (rfl) rfl (Nat.le_of_ble_eq_true rfl) dX5_findSets_49 (ws' := (MW G o a (sI u_26 30 (0 : Int32)))) rfl ?_
            refine v_iload (pc := 52) C dX5_findSets_52 rfl ?_
            refine v_iload_n (pc := 54) C dX5_findSets_54 rfl ?_
            refine v_icmp_neN (pc := 55) (tgt := 78) C (costN A u m) (costN A u m) rfl rfl (by omega) (by omega) dX5_findSets_55 (by decide) (fun c_55 => ?_) (fun c_55 => ?_)
            · exact absurd rfl c_55
            · refine v_aload_n (pc := 58) C dX5_findSets_58 rfl ?_
              refine v_get (pc := 59) (v := .ref (a 29)) C inX5 0 rfl rfl 29 (by decide) kw3_54 rfl dX5_findSets_59 ?_
              refine v_aload_n (pc := 62) C dX5_findSets_62 rfl ?_
              refine v_get (pc := 63) (v := .int 0) C inX5 0 rfl rfl 30 (by decide) kw3_55 rfl dX5_findSets_63 ?_
              refine v_iload_n (pc := 66) C dX5_findSets_66 rfl ?_
              refine v_iastN (pc := 67) (i := 0) (f := (mA u_26 29)) C 23 rfl (by omega) (by decide) dX5_findSets_67 (ws' := (MW G o a (sA (sI u_26 30 (0 : Int32)) 29 (upd ((mA u_26 29)) 0 (nI (m)))))) rfl ?_
              refine v_aload_n (pc := 68) C dX5_findSets_68 rfl ?_
              refine v_dup (pc := 69) C dX5_findSets_69 rfl ?_
              refine v_get (pc := 70) (v := .int 0) C inX5 0 rfl rfl 30 (by decide) kw3_55 rfl dX5_findSets_70 ?_
              refine v_iconst (pc := 73) (v := 1) C dX5_findSets_73 (by decide) ?_
              refine v_iaddN (pc := 74) C 0 1 rfl rfl dX5_findSets_74 ?_
              refine v_put (pc := 75) C inX5 tyX5 tyX5_ok nmX5 0 rfl rfl 30 (by decide) kw3_55 rfl (rfl) rfl (Nat.le_of_ble_eq_true rfl) dX5_findSets_75 (ws' := (MW G o a (sA (sI u_26 30 (nI (0 + 1))) 29 (upd ((mA u_26 29)) 0 (nI (m)))))) rfl ?_
              refine v_iinc1 (pc := 78) C (m) rfl dX5_findSets_78 rfl ?_
              refine v_goto (pc := 81) (tgt := 9) C dX5_findSets_81 (by decide) ?_
              exact V.lessE (ih  (((m) + 1)) ((costN A u m)) ((sA (sI u_26 30 (nI (0 + 1))) 29 (upd ((mA u_26 29)) 0 (nI (m))))) (by omega) (by omega) (by rw [fsK_new (by omega) hnew]) (hc) (by rw [fsK_new (by omega) hnew]; exact MSet_new) ((hK1.trans hK.two).trans Keep2_b)) ⟨rfl, rfl, rfl, rfl, trivial⟩
          · refine v_iload (pc := 38) C dX5_findSets_38 rfl ?_
            refine v_iload_n (pc := 40) C dX5_findSets_40 rfl ?_
            refine v_icmp_geN (pc := 41) (tgt := 52) C (costN A u m) (l) rfl rfl (by omega) (by omega) dX5_findSets_41 (by decide) (fun c_41 => ?_) (fun c_41 => ?_)
            · have hnn : ¬ ((fsK A u m).2 = [] ∨ costN A u m < (fsK A u m).1) := fun z => z.elim (fun z => c_35 (by rw [z]; rfl)) (by omega)
              refine v_iload (pc := 52) C dX5_findSets_52 rfl ?_
              refine v_iload_n (pc := 54) C dX5_findSets_54 rfl ?_
              refine v_icmp_neN (pc := 55) (tgt := 78) C (costN A u m) (l) rfl rfl (by omega) (by omega) dX5_findSets_55 (by decide) (fun c_55 => ?_) (fun c_55 => ?_)
              · refine v_iinc1 (pc := 78) C (m) rfl dX5_findSets_78 rfl ?_
                refine v_goto (pc := 81) (tgt := 9) C dX5_findSets_81 (by decide) ?_
                exact V.lessE (ih  (((m) + 1)) ((l)) (u_26) (by omega) (by omega) (by rw [fsK_no (by omega) hnn (fun z => c_55 (z.trans hl.symm))]; exact hl) (hl2) (by rw [fsK_no (by omega) hnn (fun z => c_55 (z.trans hl.symm))]; exact hs2) (hK1.trans hK.two)) ⟨rfl, rfl, rfl, rfl, trivial⟩
              · refine v_aload_n (pc := 58) C dX5_findSets_58 rfl ?_
                refine v_get (pc := 59) (v := .ref (a 29)) C inX5 0 rfl rfl 29 (by decide) kw3_54 rfl dX5_findSets_59 ?_
                refine v_aload_n (pc := 62) C dX5_findSets_62 rfl ?_
                refine v_get (pc := 63) (v := .int (mI u_26 30)) C inX5 0 rfl rfl 30 (by decide) kw3_55 rfl dX5_findSets_63 ?_
                refine v_cv (y := (nI ((fsK A u m).2.length))) (hs2.1) ?_
                refine v_iload_n (pc := 66) C dX5_findSets_66 rfl ?_
                refine v_iastN (pc := 67) (i := ((fsK A u m).2.length)) (f := (mA u_26 29)) C 23 rfl (by omega) (by decide) dX5_findSets_67 (ws' := (MW G o a (sA u_26 29 (upd ((mA u_26 29)) ((fsK A u m).2.length) (nI (m)))))) rfl ?_
                refine v_aload_n (pc := 68) C dX5_findSets_68 rfl ?_
                refine v_dup (pc := 69) C dX5_findSets_69 rfl ?_
                refine v_get (pc := 70) (v := .int (mI u_26 30)) C inX5 0 rfl rfl 30 (by decide) kw3_55 rfl dX5_findSets_70 ?_
                refine v_cv (y := (nI ((fsK A u m).2.length))) (hs2.1) ?_
                refine v_iconst (pc := 73) (v := 1) C dX5_findSets_73 (by decide) ?_
                refine v_iaddN (pc := 74) C ((fsK A u m).2.length) 1 rfl rfl dX5_findSets_74 ?_
                refine v_put (pc := 75) C inX5 tyX5 tyX5_ok nmX5 0 rfl rfl 30 (by decide) kw3_55 rfl (rfl) rfl (Nat.le_of_ble_eq_true rfl) dX5_findSets_75 (ws' := (MW G o a (sA (sI u_26 30 (nI (((fsK A u m).2.length) + 1))) 29 (upd ((mA u_26 29)) ((fsK A u m).2.length) (nI (m)))))) rfl ?_
                refine v_iinc1 (pc := 78) C (m) rfl dX5_findSets_78 rfl ?_
                refine v_goto (pc := 81) (tgt := 9) C dX5_findSets_81 (by decide) ?_
                exact V.lessE (ih  (((m) + 1)) ((l)) ((sA (sI u_26 30 (nI (((fsK A u m).2.length) + 1))) 29 (upd ((mA u_26 29)) ((fsK A u m).2.length) (nI (m))))) (by omega) (by omega) (by rw [fsK_add (by omega) hnn (c_55.trans hl)]; exact hl) (hl2) (by rw [fsK_add (by omega) hnn (c_55.trans hl)]; exact MSet_add hs2) ((hK1.trans hK.two).trans Keep2_b)) ⟨rfl, rfl, rfl, rfl, trivial⟩
            · have hnew : (fsK A u m).2 = [] ∨ costN A u m < (fsK A u m).1 := Or.inr (by omega)
              refine v_iload (pc := 44) C dX5_findSets_44 rfl ?_
              refine v_istore_n (pc := 46) C dX5_findSets_46 (by decide) ?_
              refine v_aload_n (pc := 47) C dX5_findSets_47 rfl ?_
              refine v_iconst (pc := 48) (v := 0) C dX5_findSets_48 (by decide) ?_
              refine v_put (pc := 49) C inX5 tyX5 tyX5_ok nmX5 0 rfl rfl 30 (by decide) kw3_55 rfl (rfl) rfl (Nat.le_of_ble_eq_true rfl) dX5_findSets_49 (ws' := (MW G o a (sI u_26 30 (0 : Int32)))) rfl ?_
              refine v_iload (pc := 52) C dX5_findSets_52 rfl ?_
              refine v_iload_n (pc := 54) C dX5_findSets_54 rfl ?_
              refine v_icmp_neN (pc := 55) (tgt := 78) C (costN A u m) (costN A u m) rfl rfl (by omega) (by omega) dX5_findSets_55 (by decide) (fun c_55 => ?_) (fun c_55 => ?_)
              · exact absurd rfl c_55
              · refine v_aload_n (pc := 58) C dX5_findSets_58 rfl ?_
                refine v_get (pc := 59) (v := .ref (a 29)) C inX5 0 rfl rfl 29 (by decide) kw3_54 rfl dX5_findSets_59 ?_
                refine v_aload_n (pc := 62) C dX5_findSets_62 rfl ?_
                refine v_get (pc := 63) (v := .int 0) C inX5 0 rfl rfl 30 (by decide) kw3_55 rfl dX5_findSets_63 ?_
                refine v_iload_n (pc := 66) C dX5_findSets_66 rfl ?_
                refine v_iastN (pc := 67) (i := 0) (f := (mA u_26 29)) C 23 rfl (by omega) (by decide) dX5_findSets_67 (ws' := (MW G o a (sA (sI u_26 30 (0 : Int32)) 29 (upd ((mA u_26 29)) 0 (nI (m)))))) rfl ?_
                refine v_aload_n (pc := 68) C dX5_findSets_68 rfl ?_
                refine v_dup (pc := 69) C dX5_findSets_69 rfl ?_
                refine v_get (pc := 70) (v := .int 0) C inX5 0 rfl rfl 30 (by decide) kw3_55 rfl dX5_findSets_70 ?_
                refine v_iconst (pc := 73) (v := 1) C dX5_findSets_73 (by decide) ?_
                refine v_iaddN (pc := 74) C 0 1 rfl rfl dX5_findSets_74 ?_
                refine v_put (pc := 75) C inX5 tyX5 tyX5_ok nmX5 0 rfl rfl 30 (by decide) kw3_55 rfl (rfl) rfl (Nat.le_of_ble_eq_true rfl) dX5_findSets_75 (ws' := (MW G o a (sA (sI u_26 30 (nI (0 + 1))) 29 (upd ((mA u_26 29)) 0 (nI (m)))))) rfl ?_
                refine v_iinc1 (pc := 78) C (m) rfl dX5_findSets_78 rfl ?_
                refine v_goto (pc := 81) (tgt := 9) C dX5_findSets_81 (by decide) ?_
                exact V.lessE (ih  (((m) + 1)) ((costN A u m)) ((sA (sI u_26 30 (nI (0 + 1))) 29 (upd ((mA u_26 29)) 0 (nI (m))))) (by omega) (by omega) (by rw [fsK_new (by omega) hnew]) (hc) (by rw [fsK_new (by omega) hnew]; exact MSet_new) ((hK1.trans hK.two).trans Keep2_b)) ⟨rfl, rfl, rfl, rfl, trivial⟩
  exact V.lessE (L9 (65) (0) (0) ((sI S 30 (0 : Int32))) (by omega) (by omega) (rfl) (by omega) (⟨rfl, fun i x h => by simp [fsK] at h⟩) (Keep2_30)) ⟨rfl, rfl, rfl, rfl, trivial⟩
