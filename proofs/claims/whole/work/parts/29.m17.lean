/-! the reference: gap -/
def setF (A : AS) (L : List Int32) : AS := (A.1, A.2.1, A.2.2.1, A.2.2.2.1, L, A.2.2.2.2.2)
theorem AInv_setF {A : AS} {L : List Int32} (h : AInv A) (hL : L.length ≤ 19) : AInv (setF A L) :=
  ⟨h.1, h.2.1, h.2.2.1, h.2.2.2.1, h.2.2.2.2.1, h.2.2.2.2.2.1, h.2.2.2.2.2.2.1, hL, h.2.2.2.2.2.2.2.2⟩
/-- the thirteen ends of the true runs, one row -/
noncomputable def kE (A : AS) (j z : Nat) : Int32 := endR (aN A j) (aRun A j 0 (nI (z / 13))) (z % 13)
theorem kE_at {A : AS} {j n k : Nat} (hk : k < 13) : kE A j (13 * n + k) = endR (aN A j) (aRun A j 0 (nI n)) k := by
  unfold kE
  rw [show (13 * n + k) / 13 = n by omega, show (13 * n + k) % 13 = k by omega]
/-- the run with v in line l -/
noncomputable def gRun (A : AS) (j l : Nat) (v : Int32) (n : Nat) : Nat × (Nat → Int32) × RS := RUN (aO A j) (aX A j) (upd (aY A j) l v) (aN A j) 0 (nI n)
def bothP (A : AS) (j l : Nat) (v : Int32) (n : Nat) : Prop := (gRun A j l v n).2.2.1 < aN A j ∧ (aRun A j 0 (nI n)).2.2.1 < aN A j
/-- with input n, v in line l does as well -/
def fillP (A : AS) (j l : Nat) (v : Int32) (n : Nat) : Prop := bothP A j l v n ∨ ∀ y, y < 13 → endR (aN A j) (gRun A j l v n) y = endR (aN A j) (aRun A j 0 (nI n)) y
noncomputable def flK (A : AS) (j l : Nat) : Nat → List Int32
  | 0 => []
  | b + 1 => @ite (List Int32) (∀ n, n < 10 → fillP A j l (nI b - 9) n) (Classical.propDecidable _) (flK A j l b ++ [nI b - 9]) (flK A j l b)
theorem flK_add {A : AS} {j l b : Nat} (h : ∀ n, n < 10 → fillP A j l (nI b - 9) n) : flK A j l (b + 1) = flK A j l b ++ [nI b - 9] := if_pos h
theorem flK_no {A : AS} {j l b : Nat} (h : ¬ ∀ n, n < 10 → fillP A j l (nI b - 9) n) : flK A j l (b + 1) = flK A j l b := if_neg h
theorem flK_len {A : AS} {j l : Nat} : ∀ b, (flK A j l b).length ≤ b
  | 0 => Nat.le_refl 0
  | b + 1 => by
    have ih := flK_len (A := A) (j := j) (l := l) b
    by_cases h : ∀ n, n < 10 → fillP A j l (nI b - 9) n
    · rw [flK_add h, List.length_append]; show _ + 1 ≤ _; omega
    · rw [flK_no h]; omega
noncomputable def s_gap (A : AS) (p l : Int32) : Int32 × AS := if p < 0 ∨ nI (aNp A) ≤ p then (-1, A) else if l < 0 then (-1, A) else if nI (aN A (tn p)) ≤ l then (-1, A) else if ¬ dp (aO A (tn p)) (aN A (tn p)) = 0 then (-3, A) else if ¬ aO A (tn p) (tn l) = 0 then (-3, A) else (nI (flK A (tn p) (tn l) 19).length, setF A (flK A (tn p) (tn l) 19))
theorem okp_upd {O X Y : Nat → Int32} {n l : Nat} {v : Int32} (h : okp O X Y n) (h0 : O l = 0) : okp O X (upd Y l v) n := by
  refine ⟨h.1, h.2.1, h.2.2.1, fun k hk => ?_⟩
  have q := h.2.2.2 k hk
  by_cases e : k = l
  · subst e
    rw [h0] at q ⊢
    rcases q with q | q | q | q | q | q | q | q | q | q
    · exact Or.inl q
    all_goals exact absurd (by first | exact q.1 | exact q) (by decide)
  · rw [pk_un e]; exact q
theorem lnZ {Y : Nat → Int32} {l n : Nat} {v : Int32} (hn : n ≤ 20) (hl : l < n) : ∀ k, k < n → (if nI k = nI l then v else Y k) = upd Y l v k := by
  intro k hk
  by_cases e : k = l
  · subst e; rw [if_pos rfl, pk_us]
  · rw [if_neg (fun q => e ((nI_eq (by omega) (by omega)).mp q)), pk_un e]
theorem gv_go : ∀ b, b < 20 → ¬ 9 < nI b - 9 → b < 19 := by decide +kernel
theorem gv_end : ∀ b, b < 20 → 9 < nI b - 9 → b = 19 := by decide +kernel
theorem gv_nx : ∀ b, b < 20 → nI b - 9 + 1 = nI (b + 1) - 9 := by decide +kernel
theorem MRel_addF {A : AS} {S : MS} {L : List Int32} {v : Int32} (hM : MRel (setF A L) S) : MRel (setF A (L ++ [v])) (sA (sI S 24 (nI (L.length + 1))) 23 (upd (mA S 23) L.length v)) := by
  refine ⟨hM.1, hM.2.1, hM.2.2.1, hM.2.2.2.1, hM.2.2.2.2.1, hM.2.2.2.2.2.1, hM.2.2.2.2.2.2.1, ⟨?_, fun i x hx => ?_⟩, hM.2.2.2.2.2.2.2.2⟩
  · show nI (L.length + 1) = nI (L ++ [v]).length
    rw [List.length_append]; rfl
  · show upd (mA S 23) L.length v i = x
    have hx : (L ++ [v])[i]? = some x := hx
    by_cases e : i = L.length
    · subst e
      rw [List.getElem?_append_right (Nat.le_refl _), Nat.sub_self] at hx
      cases hx; exact pk_us
    · have hl : i < L.length := by
        have := (List.getElem?_eq_some_iff.mp hx).1
        rw [List.length_append] at this
        have : i < L.length + 1 := this
        omega
      rw [pk_un e]
      rw [List.getElem?_append_left hl] at hx
      exact hM.2.2.2.2.2.2.2.1.2 i x hx
/-- fits as far as end k of input n -/
def fkK (P B : Prop) (f g : Nat → Int32) (k : Nat) : Prop := P ∧ ∀ y, y < k → B ∨ f y = g y
theorem fkK_s {P B : Prop} {f g : Nat → Int32} {k : Nat} : fkK P B f g (k + 1) ↔ fkK P B f g k ∧ (B ∨ f k = g k) := by
  refine ⟨fun h => ⟨⟨h.1, fun z hz => h.2 z (by omega)⟩, h.2 k (by omega)⟩, fun h => ⟨h.1.1, ext_lt h.1.2 h.2⟩⟩
theorem fkK_13 {A : AS} {j l n : Nat} {v : Int32} : fkK (∀ m, m < n → fillP A j l v m) (bothP A j l v n) (endR (aN A j) (gRun A j l v n)) (endR (aN A j) (aRun A j 0 (nI n))) 13 ↔ ∀ m, m < n + 1 → fillP A j l v m := by
  constructor
  · intro h
    refine ext_lt h.1 ?_
    by_cases b : bothP A j l v n
    · exact Or.inl b
    · exact Or.inr (fun y hy => (h.2 y hy).elim (fun z => absurd z b) id)
  · intro h
    refine ⟨fun m hm => h m (by omega), fun y hy => ?_⟩
    rcases h n (by omega) with b | b
    · exact Or.inl b
    · exact Or.inr (b y hy)
theorem alI {P Q : Prop} {al : Int32} (h : (al = 1 ∧ P) ∨ (al = 0 ∧ ¬ P)) (e : P ↔ Q) : (al = 1 ∧ Q) ∨ (al = 0 ∧ ¬ Q) := by
  rcases h with ⟨a, b⟩ | ⟨a, b⟩
  · exact Or.inl ⟨a, e.mp b⟩
  · exact Or.inr ⟨a, fun z => b (e.mpr z)⟩
def rmX5_gap : Room := { frames := 4, cells := 0, slots := 0, locals := 101 }
set_option maxHeartbeats 4000000 in
set_option maxRecDepth 100000 in
theorem kX5_gap (G : TG) (o : Nat) (a : Nat → Nat) (S : MS) (A : AS) (hI : AInv A) (hM : MRel A S) (p l0 : Int32) : CT G yX5_gap cX5_gap 8 (some .int) rmX5_gap 0 0 [.ref (o), .int (p), .int (l0)] (MW G o a S) (fun S : MS => MW G o a S) (Ri (fun r S' => r = (s_gap A p l0).1 ∧ MRel (s_gap A p l0).2 S')) := by
  refine CT.enter (by decide) (Nat.le_of_ble_eq_true rfl) (fun X C hnm => ?_)
  refine V.less [(0, .ref (o)), (1, .int (p)), (2, .int (l0))] ⟨rfl, rfl, rfl, trivial⟩ ?_
  generalize hQ : (QX G X (fun S : MS => MW G o a S) (Ri (fun r S' => r = (s_gap A p l0).1 ∧ MRel (s_gap A p l0).2 S')) 0 0) = Qq
  have hnp := hI.1
  have hnq := hI.2.2.2.2.1
  refine v_aload_n (pc := 0) C dX5_gap_0 rfl ?_
  refine v_iload_n (pc := 1) C dX5_gap_1 rfl ?_
  refine v_callV0 (pc := 2) (st := []) (q0 := 0) C (kX5_isProgram G o a S p) ykX5_isProgram cvX5_isProgram kw3_134 dX5_gap_2 rfl rfl rfl rfl rfl (by decide) (Nat.le_of_ble_eq_true rfl) (by decide) rfl (Ri_kk (fun r_2 u_2 h_2 => ?_))
  obtain ⟨e_2, h_2⟩ := h_2
  rw [e_2]
  rcases (is01 (by omega) hM.1 h_2) with ⟨b_p, rfl⟩ | ⟨j, hj, rfl, rfl⟩
  · refine v_if_eqT (pc := 5) (tgt := 22) C (by decide) dX5_gap_5 (by decide) ?_
    refine v_iconst (pc := 22) (v := (-1)) C dX5_gap_22 (by decide) ?_
    subst hQ
    exact v_iret (pc := 23) C dX5_gap_23 (rfl) (S) rfl (by unfold s_gap; rw [if_pos b_p]; exact ⟨rfl, hM⟩)
  · refine v_if_eqF (pc := 5) (tgt := 22) C (by decide) dX5_gap_5 (by decide) ?_
    refine v_iload_n (pc := 8) C dX5_gap_8 rfl ?_
    refine v_if_lt (pc := 9) (tgt := 22) C dX5_gap_9 (by decide) (fun c_9 => ?_) (fun c_9 => ?_)
    · refine v_iconst (pc := 22) (v := (-1)) C dX5_gap_22 (by decide) ?_
      subst hQ
      exact v_iret (pc := 23) C dX5_gap_23 (rfl) (S) rfl (by unfold s_gap; rw [if_neg (nbad hj (by omega)), tn_nI (n := j) (by omega), if_pos c_9]; exact ⟨rfl, hM⟩)
    · refine v_iload_n (pc := 12) C dX5_gap_12 rfl ?_
      refine v_aload_n (pc := 13) C dX5_gap_13 rfl ?_
      refine v_get (pc := 14) (v := .ref (a 3)) C inX5 0 rfl rfl 3 (by decide) kw3_28 rfl dX5_gap_14 ?_
      refine v_iload_n (pc := 17) C dX5_gap_17 rfl ?_
      refine v_ialdN (pc := 18) (i := (j)) (f := (mA S 3)) C 4 rfl (by omega) (by decide) dX5_gap_18 ?_
      refine v_cv (y := (nI (aN A j))) (hM.2.1 j (by omega)) ?_
      refine v_icmp_lt (pc := 19) (tgt := 24) C dX5_gap_19 (by decide) (fun c_19 => ?_) (fun c_19 => ?_)
      · have hn20 := hI.2.1 j
        obtain ⟨l, hl, rfl⟩ := ixN c_9 (Int32.not_le.mpr c_19) (by omega)
        refine v_aload_n (pc := 24) C dX5_gap_24 rfl ?_
        refine v_iload_n (pc := 25) C dX5_gap_25 rfl ?_
        refine v_callV0 (pc := 26) (st := []) (q0 := 0) C (kX5_isWhole G o a S A hI hM j hj) ykX5_isWhole cvX5_isWhole kw3_157 dX5_gap_26 rfl rfl rfl rfl rfl (by decide) (Nat.le_of_ble_eq_true rfl) (by decide) rfl (Ri_kk (fun r_26 u_26 h_26 => ?_))
        obtain ⟨e_26, h_26⟩ := h_26
        rw [e_26]
        rcases (if01 h_26) with ⟨q_26, rfl⟩ | ⟨q_26, rfl⟩
        · refine v_if_eqT (pc := 29) (tgt := 46) C (by decide) dX5_gap_29 (by decide) ?_
          refine v_bipush (pc := 46) (v := (-3)) C dX5_gap_46 (by decide) ?_
          subst hQ
          exact v_iret (pc := 48) C dX5_gap_48 (rfl) (S) rfl (by unfold s_gap; rw [if_neg (nbad hj (by omega)), tn_nI (n := j) (by omega), tn_nI (n := l) (by omega), if_neg (nI_pos (n := l) (by omega)), if_neg (nI_ge hl (by omega)), if_pos q_26]; exact ⟨rfl, hM⟩)
        · refine v_if_eqF (pc := 29) (tgt := 46) C (by decide) dX5_gap_29 (by decide) ?_
          refine v_aload_n (pc := 32) C dX5_gap_32 rfl ?_
          refine v_get (pc := 33) (v := .ref (a 0)) C inX5 0 rfl rfl 0 (by decide) kw3_25 rfl dX5_gap_33 ?_
          refine v_bipush (pc := 36) (v := 20) C dX5_gap_36 (by decide) ?_
          refine v_iload_n (pc := 38) C dX5_gap_38 rfl ?_
          refine v_imulN (pc := 39) C 20 (j) rfl rfl dX5_gap_39 ?_
          refine v_iload_n (pc := 40) C dX5_gap_40 rfl ?_
          refine v_iaddN (pc := 41) C (20 * (j)) (l) rfl rfl dX5_gap_41 ?_
          refine v_ialdN (pc := 42) (i := ((20 * (j)) + (l))) (f := (mA S 0)) C 1 rfl (by omega) (by decide) dX5_gap_42 ?_
          refine v_cv (y := (aO A j l)) ((hM.2.2.1 j l (by omega) (by omega)).1) ?_
          refine v_if_eq (pc := 43) (tgt := 49) C dX5_gap_43 (by decide) (fun c_43 => ?_) (fun c_43 => ?_)
          · refine v_iconst (pc := 49) (v := 0) C dX5_gap_49 (by decide) ?_
            refine v_istore_n (pc := 50) C dX5_gap_50 (by decide) ?_
            have L51 : ∀ (fu : Nat) (n : Nat) (S1 : MS), (10 < n + fu) → (n ≤ 10) → (∀ z, z < 13 * n → mA S1 25 z = kE A j z) → (MRel A S1) → V G X cX5_gap 8 rmX5_gap Qq 0 0 51 (lvo [(0, .ref (o)), (1, .int (nI (j))), (2, .int (nI (l))), (3, .int (nI (n)))]) [] (MW G o a S1) := by
              intro fu
              induction fu with
              | zero => intro n S1 hf hn10 hkp hM1; exfalso; omega
              | succ fu ih51 =>
                intro n S1 hf hn10 hkp hM1
                refine v_iload_n (pc := 51) C dX5_gap_51 rfl ?_
                refine v_bipush (pc := 52) (v := 10) C dX5_gap_52 (by decide) ?_
                refine v_icmp_geN (pc := 54) (tgt := 106) C (n) 10 rfl rfl (by omega) (by omega) dX5_gap_54 (by decide) (fun c_54 => ?_) (fun c_54 => ?_)
                · refine v_aload_n (pc := 106) C dX5_gap_106 rfl ?_
                  refine v_iconst (pc := 107) (v := 0) C dX5_gap_107 (by decide) ?_
                  refine v_put (pc := 108) C inX5 tyX5 tyX5_ok nmX5 0 rfl rfl 24 (by decide) kw3_49 rfl (rfl) rfl (Nat.le_of_ble_eq_true rfl) dX5_gap_108 (ws' := (MW G o a (sI S1 24 (0 : Int32)))) rfl ?_
                  refine v_bipush (pc := 111) (v := (-9)) C dX5_gap_111 (by decide) ?_
                  refine v_istore_n (pc := 113) C dX5_gap_113 (by decide) ?_
                  have L114 : ∀ (fu : Nat) (b : Nat) (vv : Int32) (S1 : MS), (19 < b + fu) → (b ≤ 19) → (vv = nI b - 9) → (MRel (setF A (flK A j l b)) S1) → (∀ z, z < 130 → mA S1 25 z = kE A j z) → V G X cX5_gap 8 rmX5_gap Qq 0 0 114 (lvo [(0, .ref (o)), (1, .int (nI (j))), (2, .int (nI (l))), (3, .int (vv))]) [] (MW G o a S1) := by
                    intro fu
                    induction fu with
                    | zero => intro b vv S1 hf hb hvv hM1 hkp1; exfalso; omega
                    | succ fu ih114 =>
                      intro b vv S1 hf hb hvv hM1 hkp1
                      have hfl := flK_len (A := A) (j := j) (l := l) b
                      have hIF : AInv (setF A (flK A j l b)) := AInv_setF hI (by omega)
                      refine v_iload_n (pc := 114) C dX5_gap_114 rfl ?_
                      refine v_bipush (pc := 115) (v := 9) C dX5_gap_115 (by decide) ?_
                      refine v_icmp_gt (pc := 117) (tgt := 266) C dX5_gap_117 (by decide) (fun c_117 => ?_) (fun c_117 => ?_)
                      · have hb19 : b = 19 := gv_end b (by omega) (by rw [← hvv]; exact c_117)
                        subst hb19
                        refine v_aload_n (pc := 266) C dX5_gap_266 rfl ?_
                        refine v_get (pc := 267) (v := .int (mI S1 24)) C inX5 0 rfl rfl 24 (by decide) kw3_49 rfl dX5_gap_267 ?_
                        refine v_cv (y := (nI ((flK A j l 19).length))) (hM1.2.2.2.2.2.2.2.1.1) ?_
                        subst hQ
                        exact v_iret (pc := 270) C dX5_gap_270 (rfl) (S1) rfl (by unfold s_gap; rw [if_neg (nbad hj (by omega)), tn_nI (n := j) (by omega), tn_nI (n := l) (by omega), if_neg (nI_pos (n := l) (by omega)), if_neg (nI_ge hl (by omega)), if_neg (fun z => z q_26), if_neg (fun z => z c_43)]; exact ⟨rfl, hM1⟩)
                      · have hb19 : b < 19 := gv_go b (by omega) (by rw [← hvv]; exact c_117)
                        refine v_iconst (pc := 120) (v := 1) C dX5_gap_120 (by decide) ?_
                        refine v_istore (pc := 121) C dX5_gap_121 (by decide) ?_
                        refine v_iconst (pc := 123) (v := 0) C dX5_gap_123 (by decide) ?_
                        refine v_istore (pc := 124) C dX5_gap_124 (by decide) ?_
                        have L126 : ∀ (fu : Nat) (n : Nat) (al : Int32) (S2 : MS), (10 < n + fu) → (n ≤ 10) → ((al = 1 ∧ ∀ m, m < n → fillP A j l vv m) ∨ (al = 0 ∧ ¬ (∀ m, m < n → fillP A j l vv m))) → (MRel (setF A (flK A j l b)) S2) → (∀ z, z < 130 → mA S2 25 z = kE A j z) → V G X cX5_gap 8 rmX5_gap Qq 0 0 126 (lvo [(0, .ref (o)), (1, .int (nI (j))), (2, .int (nI (l))), (3, .int (vv)), (4, .int (al)), (5, .int (nI (n)))]) [] (MW G o a S2) := by
                          intro fu
                          induction fu with
                          | zero => intro n al S2 hf hn10 hal hM2 hkp2; exfalso; omega
                          | succ fu ih126 =>
                            intro n al S2 hf hn10 hal hM2 hkp2
                            refine v_iload (pc := 126) C dX5_gap_126 rfl ?_
                            refine v_bipush (pc := 128) (v := 10) C dX5_gap_128 (by decide) ?_
                            refine v_icmp_geN (pc := 130) (tgt := 235) C (n) 10 rfl rfl (by omega) (by omega) dX5_gap_130 (by decide) (fun c_130 => ?_) (fun c_130 => ?_)
                            · have hn : n = 10 := by omega
                              subst hn
                              refine v_iload (pc := 235) C dX5_gap_235 rfl ?_
                              refine v_if_eq (pc := 237) (tgt := 260) C dX5_gap_237 (by decide) (fun c_237 => ?_) (fun c_237 => ?_)
                              · have hno : ¬ ∀ n, n < 10 → fillP A j l (nI b - 9) n := by rw [← hvv]; exact al0 hal c_237
                                refine v_iincI (pc := 260) C dX5_gap_260 rfl ?_
                                refine v_goto (pc := 263) (tgt := 114) C dX5_gap_263 (by decide) ?_
                                exact V.lessE (ih114  (b + 1) (((vv) + 1)) (S2) (by omega) (by omega) (by rw [hvv]; exact gv_nx b (by omega)) (by rw [flK_no hno]; exact hM2) (hkp2)) ⟨rfl, rfl, rfl, rfl, trivial⟩
                              · have hyes : ∀ n, n < 10 → fillP A j l (nI b - 9) n := by rw [← hvv]; exact al1 hal c_237
                                refine v_aload_n (pc := 240) C dX5_gap_240 rfl ?_
                                refine v_get (pc := 241) (v := .ref (a 23)) C inX5 0 rfl rfl 23 (by decide) kw3_48 rfl dX5_gap_241 ?_
                                refine v_aload_n (pc := 244) C dX5_gap_244 rfl ?_
                                refine v_get (pc := 245) (v := .int (mI S2 24)) C inX5 0 rfl rfl 24 (by decide) kw3_49 rfl dX5_gap_245 ?_
                                refine v_cv (y := (nI ((flK A j l b).length))) (hM2.2.2.2.2.2.2.2.1.1) ?_
                                refine v_iload_n (pc := 248) C dX5_gap_248 rfl ?_
                                refine v_iastN (pc := 249) (i := ((flK A j l b).length)) (f := (mA S2 23)) C 18 rfl (by omega) (by decide) dX5_gap_249 (ws' := (MW G o a (sA S2 23 (upd ((mA S2 23)) ((flK A j l b).length) (vv))))) rfl ?_
                                refine v_aload_n (pc := 250) C dX5_gap_250 rfl ?_
                                refine v_dup (pc := 251) C dX5_gap_251 rfl ?_
                                refine v_get (pc := 252) (v := .int (mI S2 24)) C inX5 0 rfl rfl 24 (by decide) kw3_49 rfl dX5_gap_252 ?_
                                refine v_cv (y := (nI ((flK A j l b).length))) (hM2.2.2.2.2.2.2.2.1.1) ?_
                                refine v_iconst (pc := 255) (v := 1) C dX5_gap_255 (by decide) ?_
                                refine v_iaddN (pc := 256) C ((flK A j l b).length) 1 rfl rfl dX5_gap_256 ?_
                                refine v_put (pc := 257) C inX5 tyX5 tyX5_ok nmX5 0 rfl rfl 24 (by decide) kw3_49 rfl (rfl) rfl (Nat.le_of_ble_eq_true rfl) dX5_gap_257 (ws' := (MW G o a (sA (sI S2 24 (nI (((flK A j l b).length) + 1))) 23 (upd ((mA S2 23)) ((flK A j l b).length) (vv))))) rfl ?_
                                refine v_iincI (pc := 260) C dX5_gap_260 rfl ?_
                                refine v_goto (pc := 263) (tgt := 114) C dX5_gap_263 (by decide) ?_
                                exact V.lessE (ih114  (b + 1) (((vv) + 1)) ((sA (sI S2 24 (nI (((flK A j l b).length) + 1))) 23 (upd ((mA S2 23)) ((flK A j l b).length) (vv)))) (by omega) (by omega) (by rw [hvv]; exact gv_nx b (by omega)) (by rw [flK_add hyes, ← hvv]; exact MRel_addF hM2) (hkp2)) ⟨rfl, rfl, rfl, rfl, trivial⟩
                            · refine v_aload_n (pc := 133) C dX5_gap_133 rfl ?_
                              refine v_iload_n (pc := 134) C dX5_gap_134 rfl ?_
                              refine v_iload (pc := 135) C dX5_gap_135 rfl ?_
                              refine v_iconst (pc := 137) (v := 0) C dX5_gap_137 (by decide) ?_
                              refine v_iload_n (pc := 138) C dX5_gap_138 rfl ?_
                              refine v_iload_n (pc := 139) C dX5_gap_139 rfl ?_
                              refine v_callV0 (pc := 140) (st := []) (q0 := 0) C (kX5_runA G o a S2 (setF A (flK A j l b)) hIF hM2 j hj (nI n) 0 (nI l) vv (upd (aY A j) l vv) (lnZ hn20 hl) (okp_upd (okp_of hI hj q_26) c_43)) ykX5_runLines cvX5_runLines kw3_165 dX5_gap_140 rfl rfl rfl rfl rfl (by decide) (Nat.le_of_ble_eq_true rfl) (by decide) rfl (Rv_kk (fun u_140 h_140 => ?_))
                              obtain ⟨R, e_140, hxR, hrR⟩ := h_140
                              have hM_R : MRel (setF A (flK A j l b)) u_140 := by rw [e_140]; exact hM2
                              have h7R : okr (mA u_140 7) := by rw [e_140]; exact hrR
                              have h11R : mI u_140 11 = (if R.2.2.1 < aN A j then 1 else 0) := by rw [e_140]; rfl
                              have hER : ∀ k, endM u_140 k = endR (aN A j) R k := fun k => by rw [e_140]; exact endM_put _ _ _ _
                              have h25 : ∀ z, z < 130 → mA u_140 25 z = kE A j z := fun z hz => by rw [show mA u_140 25 = mA S2 25 by rw [e_140]; rfl]; exact hkp2 z hz
                              have hsp : (R.2.2.1 < aN A j) = ((gRun A j l vv n).2.2.1 < aN A j) := by rw [hxR.2.2.1]; rfl
                              have J172 : ∀ (bs : Int32), ((bs = 1 ∧ bothP A j l vv n) ∨ (bs = 0 ∧ ¬ (bothP A j l vv n))) → V G X cX5_gap 8 rmX5_gap Qq 0 0 172 (lvo [(0, .ref (o)), (1, .int (nI (j))), (2, .int (nI (l))), (3, .int (vv)), (4, .int (al)), (5, .int (nI (n)))]) [.int (bs)] (MW G o a u_140) := by
                                intro bs hbs
                                refine v_istore (pc := 172) C dX5_gap_172 (by decide) ?_
                                refine v_iconst (pc := 174) (v := 0) C dX5_gap_174 (by decide) ?_
                                refine v_istore (pc := 175) C dX5_gap_175 (by decide) ?_
                                have L177 : ∀ (fu : Nat) (k : Nat) (al2 : Int32), (13 < k + fu) → (k ≤ 13) → ((al2 = 1 ∧ fkK (∀ m, m < n → fillP A j l vv m) (bothP A j l vv n) (endR (aN A j) (gRun A j l vv n)) (endR (aN A j) (aRun A j 0 (nI n))) k) ∨ (al2 = 0 ∧ ¬ (fkK (∀ m, m < n → fillP A j l vv m) (bothP A j l vv n) (endR (aN A j) (gRun A j l vv n)) (endR (aN A j) (aRun A j 0 (nI n))) k))) → V G X cX5_gap 8 rmX5_gap Qq 0 0 177 (lvo [(0, .ref (o)), (1, .int (nI (j))), (2, .int (nI (l))), (3, .int (vv)), (4, .int (al2)), (5, .int (nI (n))), (6, .int (bs)), (7, .int (nI (k)))]) [] (MW G o a u_140) := by
                                  intro fu
                                  induction fu with
                                  | zero => intro k al2 hf hk hal2; exfalso; omega
                                  | succ fu ih177 =>
                                    intro k al2 hf hk hal2
                                    refine v_iload (pc := 177) C dX5_gap_177 rfl ?_
                                    refine v_bipush (pc := 179) (v := 13) C dX5_gap_179 (by decide) ?_
                                    refine v_icmp_geN (pc := 181) (tgt := 229) C (k) 13 rfl rfl (by omega) (by omega) dX5_gap_181 (by decide) (fun c_181 => ?_) (fun c_181 => ?_)
                                    · refine v_iinc1 (pc := 229) C (n) rfl dX5_gap_229 rfl ?_
                                      refine v_goto (pc := 232) (tgt := 126) C dX5_gap_232 (by decide) ?_
                                      exact V.lessE (ih126  (((n) + 1)) ((al2)) (u_140) (by omega) (by omega) (alI hal2 (by rw [show k = 13 by omega]; exact fkK_13)) (hM_R) (h25)) ⟨rfl, rfl, rfl, rfl, rfl, rfl, trivial⟩
                                    · refine v_iload (pc := 184) C dX5_gap_184 rfl ?_
                                      refine v_if_eq (pc := 186) (tgt := 220) C dX5_gap_186 (by decide) (fun c_186 => ?_) (fun c_186 => ?_)
                                      · refine v_iconst (pc := 220) (v := 0) C dX5_gap_220 (by decide) ?_
                                        refine v_istore (pc := 221) C dX5_gap_221 (by decide) ?_
                                        refine v_iinc1 (pc := 223) C (k) rfl dX5_gap_223 rfl ?_
                                        refine v_goto (pc := 226) (tgt := 177) C dX5_gap_226 (by decide) ?_
                                        exact V.lessE (ih177  (((k) + 1)) ((0 : Int32)) (by omega) (by omega) (Or.inr ⟨rfl, fun z9 => al0 hal2 c_186 (fkK_s.mp z9).1⟩)) ⟨rfl, rfl, rfl, rfl, rfl, rfl, rfl, rfl, trivial⟩
                                      · refine v_iload (pc := 189) C dX5_gap_189 rfl ?_
                                        refine v_if_ne (pc := 191) (tgt := 216) C dX5_gap_191 (by decide) (fun c_191 => ?_) (fun c_191 => ?_)
                                        · refine v_iconst (pc := 216) (v := 1) C dX5_gap_216 (by decide) ?_
                                          refine v_goto (pc := 217) (tgt := 221) C dX5_gap_217 (by decide) ?_
                                          refine v_istore (pc := 221) C dX5_gap_221 (by decide) ?_
                                          refine v_iinc1 (pc := 223) C (k) rfl dX5_gap_223 rfl ?_
                                          refine v_goto (pc := 226) (tgt := 177) C dX5_gap_226 (by decide) ?_
                                          exact V.lessE (ih177  (((k) + 1)) ((1 : Int32)) (by omega) (by omega) (Or.inl ⟨rfl, fkK_s.mpr ⟨al1 hal2 c_186, Or.inl (al1 hbs c_191)⟩⟩)) ⟨rfl, rfl, rfl, rfl, rfl, rfl, rfl, rfl, trivial⟩
                                        · refine v_aload_n (pc := 194) C dX5_gap_194 rfl ?_
                                          refine v_iload (pc := 195) C dX5_gap_195 rfl ?_
                                          refine v_callV0 (pc := 197) (st := []) (q0 := 0) C (kX5_end G o a u_140 (k) (by omega) h7R) ykX5_end cvX5_end kw3_192 dX5_gap_197 rfl rfl rfl rfl rfl (by decide) (Nat.le_of_ble_eq_true rfl) (by decide) rfl (Ri_kk (fun r_197 u_197 h_197 => ?_))
                                          obtain ⟨e_197, er_197⟩ := h_197
                                          rw [e_197]
                                          refine v_cv (y := (endR (aN A j) (gRun A j l vv n) k)) (er_197.trans ((hER k).trans (endR_x hxR))) ?_
                                          refine v_aload_n (pc := 200) C dX5_gap_200 rfl ?_
                                          refine v_get (pc := 201) (v := .ref (a 25)) C inX5 0 rfl rfl 25 (by decide) kw3_50 rfl dX5_gap_201 ?_
                                          refine v_bipush (pc := 204) (v := 13) C dX5_gap_204 (by decide) ?_
                                          refine v_iload (pc := 206) C dX5_gap_206 rfl ?_
                                          refine v_imulN (pc := 208) C 13 (n) rfl rfl dX5_gap_208 ?_
                                          refine v_iload (pc := 209) C dX5_gap_209 rfl ?_
                                          refine v_iaddN (pc := 211) C (13 * (n)) (k) rfl rfl dX5_gap_211 ?_
                                          refine v_ialdN (pc := 212) (i := ((13 * (n)) + (k))) (f := (mA u_140 25)) C 19 rfl (by omega) (by decide) dX5_gap_212 ?_
                                          refine v_cv (y := (endR (aN A j) (aRun A j 0 (nI n)) k)) (by rw [h25 _ (by omega), kE_at (by omega)]) ?_
                                          refine v_icmp_ne (pc := 213) (tgt := 220) C dX5_gap_213 (by decide) (fun c_213 => ?_) (fun c_213 => ?_)
                                          · refine v_iconst (pc := 220) (v := 0) C dX5_gap_220 (by decide) ?_
                                            refine v_istore (pc := 221) C dX5_gap_221 (by decide) ?_
                                            refine v_iinc1 (pc := 223) C (k) rfl dX5_gap_223 rfl ?_
                                            refine v_goto (pc := 226) (tgt := 177) C dX5_gap_226 (by decide) ?_
                                            exact V.lessE (ih177  (((k) + 1)) ((0 : Int32)) (by omega) (by omega) (Or.inr ⟨rfl, fun z9 => (fkK_s.mp z9).2.elim (fun y => al0 hbs c_191 y) (fun y => c_213 y)⟩)) ⟨rfl, rfl, rfl, rfl, rfl, rfl, rfl, rfl, trivial⟩
                                          · refine v_iconst (pc := 216) (v := 1) C dX5_gap_216 (by decide) ?_
                                            refine v_goto (pc := 217) (tgt := 221) C dX5_gap_217 (by decide) ?_
                                            refine v_istore (pc := 221) C dX5_gap_221 (by decide) ?_
                                            refine v_iinc1 (pc := 223) C (k) rfl dX5_gap_223 rfl ?_
                                            refine v_goto (pc := 226) (tgt := 177) C dX5_gap_226 (by decide) ?_
                                            exact V.lessE (ih177  (((k) + 1)) ((1 : Int32)) (by omega) (by omega) (Or.inl ⟨rfl, fkK_s.mpr ⟨al1 hal2 c_186, Or.inr c_213⟩⟩)) ⟨rfl, rfl, rfl, rfl, rfl, rfl, rfl, rfl, trivial⟩
                                exact V.lessE (L177 (14) (0) ((al)) (by omega) (by omega) (alI hal ⟨fun z => ⟨z, fun y hy => absurd hy (Nat.not_lt_zero y)⟩, fun z => z.1⟩)) ⟨rfl, rfl, rfl, rfl, rfl, rfl, rfl, rfl, trivial⟩
                              refine v_aload_n (pc := 143) C dX5_gap_143 rfl ?_
                              refine v_get (pc := 144) (v := .int (mI u_140 11)) C inX5 0 rfl rfl 11 (by decide) kw3_36 rfl dX5_gap_144 ?_
                              refine v_cv (y := ((if R.2.2.1 < aN A j then (1 : Int32) else 0))) (h11R) ?_
                              refine v_if_eq (pc := 147) (tgt := 171) C dX5_gap_147 (by decide) (fun c_147 => ?_) (fun c_147 => ?_)
                              · refine v_iconst (pc := 171) (v := 0) C dX5_gap_171 (by decide) ?_
                                exact V.lessE (J172  ((0 : Int32)) (Or.inr ⟨rfl, fun y => sp_f c_147 (hsp.mpr y.1)⟩)) ⟨rfl, rfl, rfl, rfl, rfl, rfl, trivial⟩
                              · refine v_aload_n (pc := 150) C dX5_gap_150 rfl ?_
                                refine v_get (pc := 151) (v := .ref (a 25)) C inX5 0 rfl rfl 25 (by decide) kw3_50 rfl dX5_gap_151 ?_
                                refine v_bipush (pc := 154) (v := 13) C dX5_gap_154 (by decide) ?_
                                refine v_iload (pc := 156) C dX5_gap_156 rfl ?_
                                refine v_imulN (pc := 158) C 13 (n) rfl rfl dX5_gap_158 ?_
                                refine v_bipush (pc := 159) (v := 12) C dX5_gap_159 (by decide) ?_
                                refine v_iaddN (pc := 161) C (13 * (n)) 12 rfl rfl dX5_gap_161 ?_
                                refine v_ialdN (pc := 162) (i := ((13 * (n)) + 12)) (f := (mA u_140 25)) C 19 rfl (by omega) (by decide) dX5_gap_162 ?_
                                refine v_cv (y := ((if (aRun A j 0 (nI n)).2.2.1 < aN A j then (1 : Int32) else 0))) (by rw [h25 _ (by omega), kE_at (by omega)]; rfl) ?_
                                refine v_iconst (pc := 163) (v := 1) C dX5_gap_163 (by decide) ?_
                                refine v_icmp_ne (pc := 164) (tgt := 171) C dX5_gap_164 (by decide) (fun c_164 => ?_) (fun c_164 => ?_)
                                · refine v_iconst (pc := 171) (v := 0) C dX5_gap_171 (by decide) ?_
                                  exact V.lessE (J172  ((0 : Int32)) (Or.inr ⟨rfl, fun y => c_164 (if_pos y.2)⟩)) ⟨rfl, rfl, rfl, rfl, rfl, rfl, trivial⟩
                                · refine v_iconst (pc := 167) (v := 1) C dX5_gap_167 (by decide) ?_
                                  refine v_goto (pc := 168) (tgt := 172) C dX5_gap_168 (by decide) ?_
                                  exact V.lessE (J172  ((1 : Int32)) (Or.inl ⟨rfl, hsp.mp (sp_t c_147), sp_t (fun q => absurd (q.symm.trans c_164) (by decide))⟩)) ⟨rfl, rfl, rfl, rfl, rfl, rfl, trivial⟩
                        exact V.lessE (L126 (11) (0) ((1 : Int32)) (S1) (by omega) (by omega) (Or.inl ⟨rfl, fun m hm => absurd hm (Nat.not_lt_zero m)⟩) (hM1) (hkp1)) ⟨rfl, rfl, rfl, rfl, rfl, rfl, trivial⟩
                  exact V.lessE (L114 (20) (0) ((-9 : Int32)) ((sI S1 24 (0 : Int32))) (by omega) (by omega) (by decide) (⟨hM1.1, hM1.2.1, hM1.2.2.1, hM1.2.2.2.1, hM1.2.2.2.2.1, hM1.2.2.2.2.2.1, hM1.2.2.2.2.2.2.1, ⟨rfl, fun i v h => by cases h⟩, hM1.2.2.2.2.2.2.2.2⟩) (fun z hz => hkp z (by omega))) ⟨rfl, rfl, rfl, rfl, trivial⟩
                · refine v_aload_n (pc := 57) C dX5_gap_57 rfl ?_
                  refine v_iload_n (pc := 58) C dX5_gap_58 rfl ?_
                  refine v_iload_n (pc := 59) C dX5_gap_59 rfl ?_
                  refine v_iconst (pc := 60) (v := 0) C dX5_gap_60 (by decide) ?_
                  refine v_iconst (pc := 61) (v := (-1)) C dX5_gap_61 (by decide) ?_
                  refine v_iconst (pc := 62) (v := 0) C dX5_gap_62 (by decide) ?_
                  refine v_callV0 (pc := 63) (st := []) (q0 := 0) C (kX5_runA G o a S1 A hI hM1 (j) (hj) (nI n) (0) (-1) 0 (aY A (j)) (noLn (hI.2.1 (j))) (okp_of hI (hj) q_26)) ykX5_runLines cvX5_runLines kw3_165 dX5_gap_63 rfl rfl rfl rfl rfl (by decide) (Nat.le_of_ble_eq_true rfl) (by decide) rfl (Rv_kk (fun u_63 h_63 => ?_))
                  obtain ⟨R, e_63, hxR, hrR⟩ := h_63
                  have hM_R : MRel A u_63 := by rw [e_63]; exact hM1
                  have h5R : mA u_63 5 = R.2.2.2.1 := by rw [e_63]; rfl
                  have h7R : okr (mA u_63 7) := by rw [e_63]; exact hrR
                  have h11R : mI u_63 11 = (if R.2.2.1 < (aN A (j)) then 1 else 0) := by rw [e_63]; rfl
                  have hER : ∀ k, endM u_63 k = endR (aN A (j)) R k := fun k => by rw [e_63]; exact endM_put _ _ _ _
                  have h25 : mA u_63 25 = mA S1 25 := by rw [e_63]; rfl
                  refine v_iconst (pc := 66) (v := 0) C dX5_gap_66 (by decide) ?_
                  refine v_istore (pc := 67) C dX5_gap_67 (by decide) ?_
                  have L69 : ∀ (fu : Nat) (k : Nat) (t : Nat → Int32), (13 < k + fu) → (k ≤ 13) → (∀ z, z < 13 * n + k → t z = kE A j z) → V G X cX5_gap 8 rmX5_gap Qq 0 0 69 (lvo [(0, .ref (o)), (1, .int (nI (j))), (2, .int (nI (l))), (3, .int (nI (n))), (4, .int (nI (k)))]) [] (MW G o a (sA u_63 25 t)) := by
                    intro fu
                    induction fu with
                    | zero => intro k t hf hk ht; exfalso; omega
                    | succ fu ih69 =>
                      intro k t hf hk ht
                      refine v_iload (pc := 69) C dX5_gap_69 rfl ?_
                      refine v_bipush (pc := 71) (v := 13) C dX5_gap_71 (by decide) ?_
                      refine v_icmp_geN (pc := 73) (tgt := 100) C (k) 13 rfl rfl (by omega) (by omega) dX5_gap_73 (by decide) (fun c_73 => ?_) (fun c_73 => ?_)
                      · refine v_iinc1 (pc := 100) C (n) rfl dX5_gap_100 rfl ?_
                        refine v_goto (pc := 103) (tgt := 51) C dX5_gap_103 (by decide) ?_
                        exact V.lessE (ih51  (((n) + 1)) ((sA u_63 25 t)) (by omega) (by omega) (fun z hz => ht z (by omega)) (hM_R)) ⟨rfl, rfl, rfl, rfl, trivial⟩
                      · refine v_aload_n (pc := 76) C dX5_gap_76 rfl ?_
                        refine v_get (pc := 77) (v := .ref (a 25)) C inX5 0 rfl rfl 25 (by decide) kw3_50 rfl dX5_gap_77 ?_
                        refine v_bipush (pc := 80) (v := 13) C dX5_gap_80 (by decide) ?_
                        refine v_iload_n (pc := 82) C dX5_gap_82 rfl ?_
                        refine v_imulN (pc := 83) C 13 (n) rfl rfl dX5_gap_83 ?_
                        refine v_iload (pc := 84) C dX5_gap_84 rfl ?_
                        refine v_iaddN (pc := 86) C (13 * (n)) (k) rfl rfl dX5_gap_86 ?_
                        refine v_aload_n (pc := 87) C dX5_gap_87 rfl ?_
                        refine v_iload (pc := 88) C dX5_gap_88 rfl ?_
                        refine v_callV0 (pc := 90) (st := [.int (nI ((13 * (n)) + (k))), .ref (a 25)]) (q0 := 0) C (kX5_end G o a (sA u_63 25 t) (k) (by omega) h7R) ykX5_end cvX5_end kw3_192 dX5_gap_90 rfl rfl rfl rfl rfl (by decide) (Nat.le_of_ble_eq_true rfl) (by decide) rfl (Ri_kk (fun r_90 u_90 h_90 => ?_))
                        obtain ⟨e_90, er_90⟩ := h_90
                        rw [e_90]
                        refine v_iastN (pc := 93) (i := ((13 * (n)) + (k))) (f := t) C 19 rfl (by omega) (by decide) dX5_gap_93 (ws' := (MW G o a (sA u_63 25 (upd (t) ((13 * (n)) + (k)) (r_90))))) rfl ?_
                        refine v_iinc1 (pc := 94) C (k) rfl dX5_gap_94 rfl ?_
                        refine v_goto (pc := 97) (tgt := 69) C dX5_gap_97 (by decide) ?_
                        exact V.lessE (ih69  (((k) + 1)) ((upd (t) ((13 * (n)) + (k)) (r_90))) (by omega) (by omega) (upd_in ht (er_90.trans ((hER k).trans ((endR_x hxR).trans (kE_at (by omega)).symm))))) ⟨rfl, rfl, rfl, rfl, rfl, trivial⟩
                  exact V.lessE (L69 (14) (0) ((mA u_63 25)) (by omega) (by omega) (fun z hz => by rw [h25]; exact hkp z (by omega))) ⟨rfl, rfl, rfl, rfl, rfl, trivial⟩
            exact V.lessE (L51 (11) (0) (S) (by omega) (by omega) (fun z hz => absurd hz (by omega)) (hM)) ⟨rfl, rfl, rfl, rfl, trivial⟩
          · refine v_bipush (pc := 46) (v := (-3)) C dX5_gap_46 (by decide) ?_
            subst hQ
            exact v_iret (pc := 48) C dX5_gap_48 (rfl) (S) rfl (by unfold s_gap; rw [if_neg (nbad hj (by omega)), tn_nI (n := j) (by omega), tn_nI (n := l) (by omega), if_neg (nI_pos (n := l) (by omega)), if_neg (nI_ge hl (by omega)), if_neg (fun z => z q_26), if_pos c_43]; exact ⟨rfl, hM⟩)
      · refine v_iconst (pc := 22) (v := (-1)) C dX5_gap_22 (by decide) ?_
        subst hQ
        exact v_iret (pc := 23) C dX5_gap_23 (rfl) (S) rfl (by unfold s_gap; rw [if_neg (nbad hj (by omega)), tn_nI (n := j) (by omega), if_neg c_9, if_pos (Int32.not_lt.mp c_19)]; exact ⟨rfl, hM⟩)
