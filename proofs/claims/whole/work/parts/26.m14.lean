/-! the reference: greatest, next -/
def cntN (f : Nat → Int32) (v : Int32) : Nat → Nat
  | 0 => 0
  | j + 1 => cntN f v j + (if f j = v then 1 else 0)
theorem cntN_le (f : Nat → Int32) (v : Int32) : ∀ j, cntN f v j ≤ j
  | 0 => Nat.le_refl 0
  | j + 1 => by
    have := cntN_le f v j
    show cntN f v j + (if f j = v then 1 else 0) ≤ _
    split <;> omega
def mostN (f : Nat → Int32) (n : Nat) : Nat → Nat
  | 0 => 0
  | k + 1 => if mostN f n k < cntN f (f k) n then cntN f (f k) n else mostN f n k
theorem mostN_le (f : Nat → Int32) (n : Nat) : ∀ k, mostN f n k ≤ n
  | 0 => Nat.zero_le n
  | k + 1 => by
    have := mostN_le f n k
    have := cntN_le f (f k) n
    show (if mostN f n k < cntN f (f k) n then cntN f (f k) n else mostN f n k) ≤ _
    split <;> omega
noncomputable def ansL (A : AS) (L : List Nat) (q : Nat) : Nat → Int32 := fun i => ansA A q (nI (L.getD i 0))
noncomputable def grN (A : AS) (L : List Nat) (q : Nat) : Nat := mostN (ansL A L q) L.length L.length
/-- the best question so far, and how many sets are alike there -/
noncomputable def nxK (A : AS) (u : Nat) (L : List Nat) : Nat → Int32 × Nat
  | 0 => (-5, 0)
  | q + 1 => if (aG A u q).isSome = true then nxK A u L q else if (nxK A u L q).1 < 0 ∨ grN A L q < (nxK A u L q).2 then (nI q, grN A L q) else nxK A u L q
theorem nxK_skip {A : AS} {u q : Nat} {L : List Nat} (h : (aG A u q).isSome = true) : nxK A u L (q + 1) = nxK A u L q := if_pos h
theorem nxK_new {A : AS} {u q : Nat} {L : List Nat} (h : ¬ (aG A u q).isSome = true) (h2 : (nxK A u L q).1 < 0 ∨ grN A L q < (nxK A u L q).2) : nxK A u L (q + 1) = (nI q, grN A L q) := (if_neg h).trans (if_pos h2)
theorem nxK_old {A : AS} {u q : Nat} {L : List Nat} (h : ¬ (aG A u q).isSome = true) (h2 : ¬ ((nxK A u L q).1 < 0 ∨ grN A L q < (nxK A u L q).2)) : nxK A u L (q + 1) = nxK A u L q := (if_neg h).trans (if_neg h2)
noncomputable def s_next (A : AS) (u : Int32) : Int32 := if u < 0 ∨ nI 10 ≤ u then -1 else (nxK A (tn u) (setL A (tn u)) (aNq A)).1
theorem g_some {A : AS} {S : MS} {u q x : Nat} (hg : (aG A u q = none ∧ mA S 26 x = 0) ∨ ∃ v, aG A u q = some v ∧ mA S 26 x = 1 ∧ mA S 27 x = v) (h : ¬ mA S 26 x = 0) : (aG A u q).isSome = true := by
  rcases hg with ⟨-, b⟩ | ⟨v, a, -, -⟩
  · exact absurd b h
  · rw [a]; rfl
theorem g_none {A : AS} {S : MS} {u q x : Nat} (hg : (aG A u q = none ∧ mA S 26 x = 0) ∨ ∃ v, aG A u q = some v ∧ mA S 26 x = 1 ∧ mA S 27 x = v) (h : mA S 26 x = 0) : ¬ (aG A u q).isSome = true := by
  rcases hg with ⟨a, -⟩ | ⟨v, -, b, -⟩
  · rw [a]; decide
  · rw [h] at b; exact absurd b (by decide)
def Keep3 (S T : MS) : Prop := (∀ k, k ≠ 5 → k ≠ 6 → k ≠ 7 → k ≠ 9 → k ≠ 31 → mA T k = mA S k) ∧ ∀ k, k ≠ 10 → k ≠ 11 → mI T k = mI S k
theorem Keep.three {S T : MS} (h : Keep S T) : Keep3 S T := ⟨fun k a b c d _ => h.1 k a b c d, fun k a b => h.2 k a b⟩
theorem Keep3.trans {S T U : MS} (h : Keep3 S T) (g : Keep3 T U) : Keep3 S U := ⟨fun k a b c d e => (g.1 k a b c d e).trans (h.1 k a b c d e), fun k a b => (g.2 k a b).trans (h.2 k a b)⟩
theorem Keep3_31 {S : MS} {f : Nat → Int32} : Keep3 S (sA S 31 f) := ⟨fun _ _ _ _ _ e => mA_ne e, fun _ _ _ => rfl⟩
theorem MRel_keep3 {A : AS} {S T : MS} (h : MRel A S) (hk : Keep3 S T) : MRel A T := by
  have h1 : Keep S (sA T 31 (mA S 31)) := by
    refine ⟨fun k a b c d => ?_, fun k a b => hk.2 k a b⟩
    by_cases e : k = 31
    · subst e; exact mA_same
    · exact (mA_ne e).trans (hk.1 k a b c d e)
  show MRel A (sA T 31 (mA S 31))
  exact MRel_keep h h1
theorem MSet_keep3 {L : List Nat} {S T : MS} (h : MSet L S) (hk : Keep3 S T) : MSet L T := by
  unfold MSet
  rw [hk.2 30 (by decide) (by decide), hk.1 29 (by decide) (by decide) (by decide) (by decide) (by decide)]
  exact h
def rmX5_greatest : Room := { frames := 5, cells := 0, slots := 0, locals := 123 }
set_option maxHeartbeats 4000000 in
set_option maxRecDepth 100000 in
theorem kX5_greatest (G : TG) (o : Nat) (a : Nat → Nat) (S : MS) (A : AS) (hI : AInv A) (hM : MRel A S) (L : List Nat) (hL : L.length ≤ 64) (hS : MSet L S) (q : Nat) (hq : q < aNq A) : CT G yX5_greatest cX5_greatest 6 (some .int) rmX5_greatest 0 0 [.ref (o), .int (nI (q))] (MW G o a S) (fun S : MS => MW G o a S) (Ri (fun r S' => r = nI (grN A L q) ∧ Keep3 S S')) := by
  refine CT.enter (by decide) (Nat.le_of_ble_eq_true rfl) (fun X C hnm => ?_)
  refine V.less [(0, .ref (o)), (1, .int (nI (q)))] ⟨rfl, rfl, trivial⟩ ?_
  generalize hQ : (QX G X (fun S : MS => MW G o a S) (Ri (fun r S' => r = nI (grN A L q) ∧ Keep3 S S')) 0 0) = Qq
  have hnp := hI.1
  have hnq := hI.2.2.2.2.1
  refine v_iconst (pc := 0) (v := 0) C dX5_greatest_0 (by decide) ?_
  refine v_istore_n (pc := 1) C dX5_greatest_1 (by decide) ?_
  refine v_iconst (pc := 2) (v := 0) C dX5_greatest_2 (by decide) ?_
  refine v_istore_n (pc := 3) C dX5_greatest_3 (by decide) ?_
  have L4 : ∀ (fu : Nat) (i : Nat) (S1 : MS), (L.length < i + fu) → (i ≤ L.length) → (Keep3 S S1) → (∀ z, z < i → mA S1 31 z = (ansL A L q) z) → V G X cX5_greatest 6 rmX5_greatest Qq 0 0 4 (lvo [(0, .ref (o)), (1, .int (nI (q))), (2, .int 0), (3, .int (nI (i)))]) [] (MW G o a S1) := by
    intro fu
    induction fu with
    | zero => intro i S1 hf hi hK1 ha; exfalso; omega
    | succ fu ih4 =>
      intro i S1 hf hi hK1 ha
      have hM1 := MRel_keep3 hM hK1
      have hs1 := MSet_keep3 hS hK1
      refine v_iload_n (pc := 4) C dX5_greatest_4 rfl ?_
      refine v_aload_n (pc := 5) C dX5_greatest_5 rfl ?_
      refine v_get (pc := 6) (v := .int (mI S1 30)) C inX5 0 rfl rfl 30 (by decide) kw3_55 rfl dX5_greatest_6 ?_
      refine v_cv (y := (nI (L.length))) (hs1.1) ?_
      refine v_icmp_geN (pc := 9) (tgt := 35) C (i) (L.length) rfl rfl (by omega) (by omega) dX5_greatest_9 (by decide) (fun c_9 => ?_) (fun c_9 => ?_)
      · have hiL : i = L.length := by omega
        subst hiL
        refine v_iconst (pc := 35) (v := 0) C dX5_greatest_35 (by decide) ?_
        refine v_istore_n (pc := 36) C dX5_greatest_36 (by decide) ?_
        have L37 : ∀ (fu : Nat) (k : Nat), (L.length < k + fu) → (k ≤ L.length) → V G X cX5_greatest 6 rmX5_greatest Qq 0 0 37 (lvo [(0, .ref (o)), (1, .int (nI (q))), (2, .int (nI (mostN (ansL A L q) L.length k))), (3, .int (nI (k)))]) [] (MW G o a S1) := by
          intro fu
          induction fu with
          | zero => intro k hf hk; exfalso; omega
          | succ fu ih37 =>
            intro k hf hk
            have hmo := mostN_le (ansL A L q) L.length k
            refine v_iload_n (pc := 37) C dX5_greatest_37 rfl ?_
            refine v_aload_n (pc := 38) C dX5_greatest_38 rfl ?_
            refine v_get (pc := 39) (v := .int (mI S1 30)) C inX5 0 rfl rfl 30 (by decide) kw3_55 rfl dX5_greatest_39 ?_
            refine v_cv (y := (nI (L.length))) (hs1.1) ?_
            refine v_icmp_geN (pc := 42) (tgt := 111) C (k) (L.length) rfl rfl (by omega) (by omega) dX5_greatest_42 (by decide) (fun c_42 => ?_) (fun c_42 => ?_)
            · have hkL : k = L.length := by omega
              subst hkL
              refine v_iload_n (pc := 111) C dX5_greatest_111 rfl ?_
              subst hQ
              exact v_iret (pc := 112) C dX5_greatest_112 (rfl) (S1) rfl (⟨rfl, hK1⟩)
            · refine v_iconst (pc := 45) (v := 0) C dX5_greatest_45 (by decide) ?_
              refine v_istore (pc := 46) C dX5_greatest_46 (by decide) ?_
              refine v_iconst (pc := 48) (v := 0) C dX5_greatest_48 (by decide) ?_
              refine v_istore (pc := 49) C dX5_greatest_49 (by decide) ?_
              have L51 : ∀ (fu : Nat) (z : Nat), (L.length < z + fu) → (z ≤ L.length) → V G X cX5_greatest 6 rmX5_greatest Qq 0 0 51 (lvo [(0, .ref (o)), (1, .int (nI (q))), (2, .int (nI (mostN (ansL A L q) L.length k))), (3, .int (nI (k))), (4, .int (nI (cntN (ansL A L q) ((ansL A L q) k) z))), (5, .int (nI (z)))]) [] (MW G o a S1) := by
                intro fu
                induction fu with
                | zero => intro z hf hz; exfalso; omega
                | succ fu ih51 =>
                  intro z hf hz
                  have hcn := cntN_le (ansL A L q) ((ansL A L q) k) z
                  refine v_iload (pc := 51) C dX5_greatest_51 rfl ?_
                  refine v_aload_n (pc := 53) C dX5_greatest_53 rfl ?_
                  refine v_get (pc := 54) (v := .int (mI S1 30)) C inX5 0 rfl rfl 30 (by decide) kw3_55 rfl dX5_greatest_54 ?_
                  refine v_cv (y := (nI (L.length))) (hs1.1) ?_
                  refine v_icmp_geN (pc := 57) (tgt := 92) C (z) (L.length) rfl rfl (by omega) (by omega) dX5_greatest_57 (by decide) (fun c_57 => ?_) (fun c_57 => ?_)
                  · have hzL : z = L.length := by omega
                    subst hzL
                    refine v_iload (pc := 92) C dX5_greatest_92 rfl ?_
                    refine v_iload_n (pc := 94) C dX5_greatest_94 rfl ?_
                    refine v_icmp_leN (pc := 95) (tgt := 103) C (cntN (ansL A L q) ((ansL A L q) k) L.length) (mostN (ansL A L q) L.length k) rfl rfl (by omega) (by omega) dX5_greatest_95 (by decide) (fun c_95 => ?_) (fun c_95 => ?_)
                    · refine v_iload_n (pc := 103) C dX5_greatest_103 rfl ?_
                      refine v_cv (y := (nI (mostN (ansL A L q) L.length (k + 1)))) (by rw [show mostN (ansL A L q) L.length (k + 1) = mostN (ansL A L q) L.length k from if_neg (by omega)]) ?_
                      refine v_istore_n (pc := 104) C dX5_greatest_104 (by decide) ?_
                      refine v_iinc1 (pc := 105) C (k) rfl dX5_greatest_105 rfl ?_
                      refine v_goto (pc := 108) (tgt := 37) C dX5_greatest_108 (by decide) ?_
                      exact V.lessE (ih37  (((k) + 1)) (by omega) (by omega)) ⟨rfl, rfl, rfl, rfl, trivial⟩
                    · refine v_iload (pc := 98) C dX5_greatest_98 rfl ?_
                      refine v_cv (y := (nI (mostN (ansL A L q) L.length (k + 1)))) (by rw [show mostN (ansL A L q) L.length (k + 1) = cntN (ansL A L q) ((ansL A L q) k) L.length from if_pos c_95]) ?_
                      refine v_goto (pc := 100) (tgt := 104) C dX5_greatest_100 (by decide) ?_
                      refine v_istore_n (pc := 104) C dX5_greatest_104 (by decide) ?_
                      refine v_iinc1 (pc := 105) C (k) rfl dX5_greatest_105 rfl ?_
                      refine v_goto (pc := 108) (tgt := 37) C dX5_greatest_108 (by decide) ?_
                      exact V.lessE (ih37  (((k) + 1)) (by omega) (by omega)) ⟨rfl, rfl, rfl, rfl, trivial⟩
                  · refine v_iload (pc := 60) C dX5_greatest_60 rfl ?_
                    have J83 : V G X cX5_greatest 6 rmX5_greatest Qq 0 0 83 (lvo [(0, .ref (o)), (1, .int (nI (q))), (2, .int (nI (mostN (ansL A L q) L.length k))), (3, .int (nI (k))), (4, .int (nI (cntN (ansL A L q) ((ansL A L q) k) z))), (5, .int (nI (z)))]) [.int (nI (if (ansL A L q) z = (ansL A L q) k then 1 else 0)), .int (nI (cntN (ansL A L q) ((ansL A L q) k) z))] (MW G o a S1) := by
                      skip
                      refine v_iaddN (pc := 83) C (cntN (ansL A L q) ((ansL A L q) k) z) (if (ansL A L q) z = (ansL A L q) k then 1 else 0) rfl rfl dX5_greatest_83 ?_
                      refine v_istore (pc := 84) C dX5_greatest_84 (by decide) ?_
                      refine v_iinc1 (pc := 86) C (z) rfl dX5_greatest_86 rfl ?_
                      refine v_goto (pc := 89) (tgt := 51) C dX5_greatest_89 (by decide) ?_
                      exact V.lessE (ih51  (((z) + 1)) (by omega) (by omega)) ⟨rfl, rfl, rfl, rfl, rfl, rfl, trivial⟩
                    refine v_aload_n (pc := 62) C dX5_greatest_62 rfl ?_
                    refine v_get (pc := 63) (v := .ref (a 31)) C inX5 0 rfl rfl 31 (by decide) kw3_56 rfl dX5_greatest_63 ?_
                    refine v_iload (pc := 66) C dX5_greatest_66 rfl ?_
                    refine v_ialdN (pc := 68) (i := (z)) (f := (mA S1 31)) C 24 rfl (by omega) (by decide) dX5_greatest_68 ?_
                    refine v_cv (y := ((ansL A L q) z)) (ha z (by omega)) ?_
                    refine v_aload_n (pc := 69) C dX5_greatest_69 rfl ?_
                    refine v_get (pc := 70) (v := .ref (a 31)) C inX5 0 rfl rfl 31 (by decide) kw3_56 rfl dX5_greatest_70 ?_
                    refine v_iload_n (pc := 73) C dX5_greatest_73 rfl ?_
                    refine v_ialdN (pc := 74) (i := (k)) (f := (mA S1 31)) C 24 rfl (by omega) (by decide) dX5_greatest_74 ?_
                    refine v_cv (y := ((ansL A L q) k)) (ha k (by omega)) ?_
                    refine v_icmp_ne (pc := 75) (tgt := 82) C dX5_greatest_75 (by decide) (fun c_75 => ?_) (fun c_75 => ?_)
                    · refine v_iconst (pc := 82) (v := 0) C dX5_greatest_82 (by decide) ?_
                      refine v_cv (y := (nI (if (ansL A L q) z = (ansL A L q) k then 1 else 0))) (by rw [if_neg c_75]; rfl) ?_
                      exact V.lessE (J83   ) ⟨rfl, rfl, rfl, rfl, rfl, rfl, trivial⟩
                    · refine v_iconst (pc := 78) (v := 1) C dX5_greatest_78 (by decide) ?_
                      refine v_cv (y := (nI (if (ansL A L q) z = (ansL A L q) k then 1 else 0))) (by rw [if_pos c_75]; rfl) ?_
                      refine v_goto (pc := 79) (tgt := 83) C dX5_greatest_79 (by decide) ?_
                      exact V.lessE (J83   ) ⟨rfl, rfl, rfl, rfl, rfl, rfl, trivial⟩
              exact V.lessE (L51 (L.length + 1) (0) (by omega) (by omega)) ⟨rfl, rfl, rfl, rfl, rfl, rfl, trivial⟩
        exact V.lessE (L37 (L.length + 1) (0) (by omega) (by omega)) ⟨rfl, rfl, rfl, rfl, trivial⟩
      · refine v_aload_n (pc := 12) C dX5_greatest_12 rfl ?_
        refine v_get (pc := 13) (v := .ref (a 31)) C inX5 0 rfl rfl 31 (by decide) kw3_56 rfl dX5_greatest_13 ?_
        refine v_iload_n (pc := 16) C dX5_greatest_16 rfl ?_
        refine v_aload_n (pc := 17) C dX5_greatest_17 rfl ?_
        refine v_iload_n (pc := 18) C dX5_greatest_18 rfl ?_
        refine v_aload_n (pc := 19) C dX5_greatest_19 rfl ?_
        refine v_get (pc := 20) (v := .ref (a 29)) C inX5 0 rfl rfl 29 (by decide) kw3_54 rfl dX5_greatest_20 ?_
        refine v_iload_n (pc := 23) C dX5_greatest_23 rfl ?_
        refine v_ialdN (pc := 24) (i := (i)) (f := (mA S1 29)) C 23 rfl (by omega) (by decide) dX5_greatest_24 ?_
        refine v_cv (y := (nI (L.getD i 0))) (hs1.2 i _ (getD_at (d := 0) (by omega))) ?_
        refine v_callV0 (pc := 25) (st := [.int (nI (i)), .ref (a 31)]) (q0 := 0) C (kX5_answerOf G o a S1 A hI hM1 q hq (nI (L.getD i 0))) ykX5_answerOf cvX5_answerOf kw3_216 dX5_greatest_25 rfl rfl rfl rfl rfl (by decide) (Nat.le_of_ble_eq_true rfl) (by decide) rfl (Ri_kk (fun r_25 u_25 h_25 => ?_))
        obtain ⟨er, hK2⟩ := h_25
        refine v_iastN (pc := 28) (i := (i)) (f := (mA u_25 31)) C 24 rfl (by omega) (by decide) dX5_greatest_28 (ws' := (MW G o a (sA u_25 31 (upd ((mA u_25 31)) (i) (r_25))))) rfl ?_
        refine v_iinc1 (pc := 29) C (i) rfl dX5_greatest_29 rfl ?_
        refine v_goto (pc := 32) (tgt := 4) C dX5_greatest_32 (by decide) ?_
        exact V.lessE (ih4  (((i) + 1)) ((sA u_25 31 (upd ((mA u_25 31)) (i) (r_25)))) (by omega) (by omega) ((hK1.trans hK2.three).trans Keep3_31) (upd_in (fun z hz => by rw [hK2.1 31 (by decide) (by decide) (by decide) (by decide)]; exact ha z hz) er)) ⟨rfl, rfl, rfl, rfl, trivial⟩
  exact V.lessE (L4 (L.length + 1) (0) (S) (by omega) (by omega) ((Keep.refl S).three) (fun z hz => absurd hz (Nat.not_lt_zero z))) ⟨rfl, rfl, rfl, rfl, trivial⟩
def rmX5_next : Room := { frames := 7, cells := 0, slots := 0, locals := 172 }
set_option maxHeartbeats 4000000 in
set_option maxRecDepth 100000 in
theorem kX5_next (G : TG) (o : Nat) (a : Nat → Nat) (S : MS) (A : AS) (hI : AInv A) (hM : MRel A S) (u : Int32) : CT G yX5_next cX5_next 6 (some .int) rmX5_next 0 0 [.ref (o), .int (u)] (MW G o a S) (fun S : MS => MW G o a S) (Ri (fun r S' => r = s_next A u ∧ MRel A S')) := by
  refine CT.enter (by decide) (Nat.le_of_ble_eq_true rfl) (fun X C hnm => ?_)
  refine V.less [(0, .ref (o)), (1, .int (u))] ⟨rfl, rfl, trivial⟩ ?_
  generalize hQ : (QX G X (fun S : MS => MW G o a S) (Ri (fun r S' => r = s_next A u ∧ MRel A S')) 0 0) = Qq
  have hnp := hI.1
  have hnq := hI.2.2.2.2.1
  refine v_iload_n (pc := 0) C dX5_next_0 rfl ?_
  refine v_callS0 (pc := 1) (st := []) C (kX5_isPupil G _ u) ykX5_isPupil kw4_9 kw4_8 dX5_next_1 rfl rfl rfl (by decide) (Nat.le_of_ble_eq_true rfl) (by decide) rfl (Ri_kk (fun r_1 u_1 h_1 => ?_))
  rcases (is01 (x := 10) (n := 10) (by omega) rfl h_1) with ⟨b_u, rfl⟩ | ⟨e, he, rfl, rfl⟩
  · refine v_if_neF (pc := 4) (tgt := 9) C (by decide) dX5_next_4 (by decide) ?_
    refine v_iconst (pc := 7) (v := (-1)) C dX5_next_7 (by decide) ?_
    subst hQ
    exact v_iret (pc := 8) C dX5_next_8 (rfl) (S) rfl (⟨by unfold s_next; rw [if_pos b_u], hM⟩)
  · refine v_if_neT (pc := 4) (tgt := 9) C (by decide) dX5_next_4 (by decide) ?_
    refine v_aload_n (pc := 9) C dX5_next_9 rfl ?_
    refine v_iload_n (pc := 10) C dX5_next_10 rfl ?_
    refine v_callV0 (pc := 11) (st := []) (q0 := 0) C (kX5_findSets G o a S A hI hM e he) ykX5_findSets cvX5_findSets kw4_30 dX5_next_11 rfl rfl rfl rfl rfl (by decide) (Nat.le_of_ble_eq_true rfl) (by decide) rfl (Rv_kk (fun u_11 h_11 => ?_))
    obtain ⟨hK, hs⟩ := h_11
    have hM2 := MRel_keep2 hM hK
    have hlen := setL_len (A := A) (u := e)
    refine v_bipush (pc := 14) (v := (-5)) C dX5_next_14 (by decide) ?_
    refine v_istore_n (pc := 16) C dX5_next_16 (by decide) ?_
    refine v_iconst (pc := 17) (v := 0) C dX5_next_17 (by decide) ?_
    refine v_istore_n (pc := 18) C dX5_next_18 (by decide) ?_
    refine v_iconst (pc := 19) (v := 0) C dX5_next_19 (by decide) ?_
    refine v_istore (pc := 20) C dX5_next_20 (by decide) ?_
    have L22 : ∀ (fu : Nat) (q : Nat) (b : Int32) (l : Nat) (S1 : MS), (aNq A < q + fu) → (q ≤ aNq A) → (b = (nxK A e (setL A e) q).1) → (l = (nxK A e (setL A e) q).2) → (l ≤ 64) → (Keep3 u_11 S1) → V G X cX5_next 6 rmX5_next Qq 0 0 22 (lvo [(0, .ref (o)), (1, .int (nI (e))), (2, .int (b)), (3, .int (nI (l))), (4, .int (nI (q)))]) [] (MW G o a S1) := by
      intro fu
      induction fu with
      | zero => intro q b l S1 hf hq hb hl hl2 hK1; exfalso; omega
      | succ fu ih22 =>
        intro q b l S1 hf hq hb hl hl2 hK1
        have hM1 := MRel_keep3 hM2 hK1
        have hs1 := MSet_keep3 hs hK1
        refine v_iload (pc := 22) C dX5_next_22 rfl ?_
        refine v_aload_n (pc := 24) C dX5_next_24 rfl ?_
        refine v_get (pc := 25) (v := .int (mI S1 19)) C inX5 0 rfl rfl 19 (by decide) kw3_44 rfl dX5_next_25 ?_
        refine v_cv (y := (nI (aNq A))) (hM1.2.2.2.1) ?_
        refine v_icmp_geN (pc := 28) (tgt := 76) C (q) (aNq A) rfl rfl (by omega) (by omega) dX5_next_28 (by decide) (fun c_28 => ?_) (fun c_28 => ?_)
        · refine v_iload_n (pc := 76) C dX5_next_76 rfl ?_
          subst hQ
          exact v_iret (pc := 77) C dX5_next_77 (rfl) (S1) rfl (⟨by unfold s_next; rw [if_neg (nbad (n := 10) he (by omega)), tn_nI (n := e) (by omega), hb, show q = aNq A by omega], hM1⟩)
        · refine v_aload_n (pc := 31) C dX5_next_31 rfl ?_
          refine v_get (pc := 32) (v := .ref (a 26)) C inX5 0 rfl rfl 26 (by decide) kw3_51 rfl dX5_next_32 ?_
          refine v_bipush (pc := 35) (v := 60) C dX5_next_35 (by decide) ?_
          refine v_iload_n (pc := 37) C dX5_next_37 rfl ?_
          refine v_imulN (pc := 38) C 60 (e) rfl rfl dX5_next_38 ?_
          refine v_iload (pc := 39) C dX5_next_39 rfl ?_
          refine v_iaddN (pc := 41) C (60 * (e)) (q) rfl rfl dX5_next_41 ?_
          refine v_zaldN (pc := 42) (i := ((60 * (e)) + (q))) (f := (mA S1 26)) C 20 rfl (by omega) (by decide) dX5_next_42 ?_
          refine v_if_ne (pc := 43) (tgt := 70) C dX5_next_43 (by decide) (fun c_43 => ?_) (fun c_43 => ?_)
          · refine v_iinc1 (pc := 70) C (q) rfl dX5_next_70 rfl ?_
            refine v_goto (pc := 73) (tgt := 22) C dX5_next_73 (by decide) ?_
            exact V.lessE (ih22  (((q) + 1)) ((b)) ((l)) (S1) (by omega) (by omega) (by rw [nxK_skip (g_some (hM1.2.2.2.2.2.2.2.2.1 e q (by omega) (by omega)) c_43)]; exact hb) (by rw [nxK_skip (g_some (hM1.2.2.2.2.2.2.2.2.1 e q (by omega) (by omega)) c_43)]; exact hl) (hl2) (hK1)) ⟨rfl, rfl, rfl, rfl, rfl, trivial⟩
          · refine v_aload_n (pc := 46) C dX5_next_46 rfl ?_
            refine v_iload (pc := 47) C dX5_next_47 rfl ?_
            refine v_callV0 (pc := 49) (st := []) (q0 := 0) C (kX5_greatest G o a S1 A hI hM1 (setL A e) hlen hs1 q (by omega)) ykX5_greatest cvX5_greatest kw4_42 dX5_next_49 rfl rfl rfl rfl rfl (by decide) (Nat.le_of_ble_eq_true rfl) (by decide) rfl (Ri_kk (fun r_49 u_49 h_49 => ?_))
            obtain ⟨er, hK2⟩ := h_49
            subst er
            have hg : grN A (setL A e) q ≤ (setL A e).length := mostN_le _ _ _
            refine v_istore (pc := 52) C dX5_next_52 (by decide) ?_
            refine v_iload_n (pc := 54) C dX5_next_54 rfl ?_
            refine v_if_lt (pc := 55) (tgt := 64) C dX5_next_55 (by decide) (fun c_55 => ?_) (fun c_55 => ?_)
            · refine v_iload (pc := 64) C dX5_next_64 rfl ?_
              refine v_istore_n (pc := 66) C dX5_next_66 (by decide) ?_
              refine v_iload (pc := 67) C dX5_next_67 rfl ?_
              refine v_istore_n (pc := 69) C dX5_next_69 (by decide) ?_
              refine v_iinc1 (pc := 70) C (q) rfl dX5_next_70 rfl ?_
              refine v_goto (pc := 73) (tgt := 22) C dX5_next_73 (by decide) ?_
              exact V.lessE (ih22  (((q) + 1)) ((nI (q))) ((grN A (setL A e) q)) (u_49) (by omega) (by omega) (by rw [nxK_new (g_none (hM1.2.2.2.2.2.2.2.2.1 e q (by omega) (by omega)) c_43) (Or.inl (hb ▸ c_55))]) (by rw [nxK_new (g_none (hM1.2.2.2.2.2.2.2.2.1 e q (by omega) (by omega)) c_43) (Or.inl (hb ▸ c_55))]) (by omega) (hK1.trans hK2)) ⟨rfl, rfl, rfl, rfl, rfl, trivial⟩
            · refine v_iload (pc := 58) C dX5_next_58 rfl ?_
              refine v_iload_n (pc := 60) C dX5_next_60 rfl ?_
              refine v_icmp_geN (pc := 61) (tgt := 70) C (grN A (setL A e) q) (l) rfl rfl (by omega) (by omega) dX5_next_61 (by decide) (fun c_61 => ?_) (fun c_61 => ?_)
              · refine v_iinc1 (pc := 70) C (q) rfl dX5_next_70 rfl ?_
                refine v_goto (pc := 73) (tgt := 22) C dX5_next_73 (by decide) ?_
                exact V.lessE (ih22  (((q) + 1)) ((b)) ((l)) (u_49) (by omega) (by omega) (by rw [nxK_old (g_none (hM1.2.2.2.2.2.2.2.2.1 e q (by omega) (by omega)) c_43) (fun z => z.elim (fun y => c_55 (hb ▸ y)) (fun y => by omega))]; exact hb) (by rw [nxK_old (g_none (hM1.2.2.2.2.2.2.2.2.1 e q (by omega) (by omega)) c_43) (fun z => z.elim (fun y => c_55 (hb ▸ y)) (fun y => by omega))]; exact hl) (hl2) (hK1.trans hK2)) ⟨rfl, rfl, rfl, rfl, rfl, trivial⟩
              · refine v_iload (pc := 64) C dX5_next_64 rfl ?_
                refine v_istore_n (pc := 66) C dX5_next_66 (by decide) ?_
                refine v_iload (pc := 67) C dX5_next_67 rfl ?_
                refine v_istore_n (pc := 69) C dX5_next_69 (by decide) ?_
                refine v_iinc1 (pc := 70) C (q) rfl dX5_next_70 rfl ?_
                refine v_goto (pc := 73) (tgt := 22) C dX5_next_73 (by decide) ?_
                exact V.lessE (ih22  (((q) + 1)) ((nI (q))) ((grN A (setL A e) q)) (u_49) (by omega) (by omega) (by rw [nxK_new (g_none (hM1.2.2.2.2.2.2.2.2.1 e q (by omega) (by omega)) c_43) (Or.inr (by omega))]) (by rw [nxK_new (g_none (hM1.2.2.2.2.2.2.2.2.1 e q (by omega) (by omega)) c_43) (Or.inr (by omega))]) (by omega) (hK1.trans hK2)) ⟨rfl, rfl, rfl, rfl, rfl, trivial⟩
    exact V.lessE (L22 (aNq A + 1) (0) ((-5 : Int32)) (0) (u_11) (by omega) (by omega) (rfl) (rfl) (by omega) ((Keep.refl u_11).three)) ⟨rfl, rfl, rfl, rfl, rfl, trivial⟩
