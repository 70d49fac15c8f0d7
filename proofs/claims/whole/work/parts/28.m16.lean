/-! the reference: choices -/
/-- the seven machines of at most one slip -/
def smN (i : Nat) : Nat := if i = 0 then 0 else 2 ^ (i - 1)
theorem smN_lt : ∀ i, i < 7 → smN i < 64 := by decide
theorem sm_neg : ∀ i, i < 7 → ¬ 0 ≤ nI i - 1 → (0 : Int32) = nI (smN i) := by decide +kernel
theorem sm_pos : ∀ i, i < 7 → 0 ≤ nI i - 1 → (1 : Int32) <<< ((nI i - 1) &&& 31) = nI (smN i) := by decide +kernel
theorem sm_end : ∀ i, i < 8 → 6 ≤ nI i - 1 → i = 7 := by decide +kernel
theorem sm_go : ∀ i, i < 8 → ¬ 6 ≤ nI i - 1 → i < 7 := by decide +kernel
theorem sm_nx : ∀ i, i < 8 → nI i - 1 + 1 = nI (i + 1) - 1 := by decide +kernel
noncomputable def chK (A : AS) (q : Nat) : Nat → List (Int32 × Int32)
  | 0 => []
  | i + 1 => if ansA A q (nI (smN i)) ∈ (chK A q i).map Prod.fst then chK A q i else chK A q i ++ [(ansA A q (nI (smN i)), nI (smN i))]
theorem chK_len {A : AS} {q : Nat} : ∀ i, (chK A q i).length ≤ i
  | 0 => Nat.le_refl 0
  | i + 1 => by
    have := chK_len (A := A) (q := q) i
    unfold chK
    split
    · omega
    · rw [List.length_append]; show _ + 1 ≤ _; omega
/-- the value v is new among the first z of L, and L may grow -/
def unK (L : List (Int32 × Int32)) (v : Int32) (n z : Nat) : Prop := L.length < n ∧ ∀ y, y < z → ∀ w, L[y]? = some w → w.1 ≠ v
theorem unK_s {L : List (Int32 × Int32)} {v : Int32} {n z : Nat} {w : Int32 × Int32} (hw : L[z]? = some w) : unK L v n (z + 1) ↔ unK L v n z ∧ w.1 ≠ v := by
  refine ⟨fun h => ⟨⟨h.1, fun y hy => h.2 y (by omega)⟩, h.2 z (by omega) w hw⟩, fun h => ⟨h.1.1, fun y hy u hu => ?_⟩⟩
  rcases Nat.lt_or_ge y z with q | q
  · exact h.1.2 y q u hu
  · have : y = z := by omega
    subst this
    rw [hw] at hu; cases hu; exact h.2
theorem unK_mem {L : List (Int32 × Int32)} {v : Int32} {n : Nat} (hn : L.length < n) : unK L v n L.length ↔ ¬ v ∈ L.map Prod.fst := by
  constructor
  · intro h hm
    obtain ⟨w, hw, e⟩ := List.mem_map.mp hm
    obtain ⟨y, hy⟩ := List.getElem?_of_mem hw
    exact h.2 y (List.getElem?_eq_some_iff.mp hy).1 w hy e
  · intro h
    exact ⟨hn, fun y _ w hw e => h (List.mem_map.mpr ⟨w, List.mem_of_getElem? hw, e⟩)⟩
theorem chT_add {A : AS} {q i n : Nat} (h : unK ((chK A q i).take n) (ansA A q (nI (smN i))) n ((chK A q i).take n).length) : (chK A q (i + 1)).take n = (chK A q i).take n ++ [(ansA A q (nI (smN i)), nI (smN i))] := by
  have hl := h.1
  rw [List.length_take] at hl
  have e : (chK A q i).take n = chK A q i := List.take_of_length_le (by omega)
  rw [e] at h
  have hm := (unK_mem h.1).mp h
  rw [e, show chK A q (i + 1) = chK A q i ++ [(ansA A q (nI (smN i)), nI (smN i))] from if_neg hm]
  refine List.take_of_length_le ?_
  rw [List.length_append]
  show (chK A q i).length + 1 ≤ n
  omega
theorem chT_no {A : AS} {q i n : Nat} (h : ¬ unK ((chK A q i).take n) (ansA A q (nI (smN i))) n ((chK A q i).take n).length) : (chK A q (i + 1)).take n = (chK A q i).take n := by
  rcases Nat.lt_or_ge (chK A q i).length n with z | z
  · have e : (chK A q i).take n = chK A q i := List.take_of_length_le (by omega)
    rw [e] at h
    have hm : ansA A q (nI (smN i)) ∈ (chK A q i).map Prod.fst := Classical.byContradiction (fun y => h ((unK_mem z).mpr y))
    conv => lhs; unfold chK
    rw [if_pos hm]
  · conv => lhs; unfold chK
    split
    · rfl
    · exact List.take_append_of_le_length z
/-- found so far, as the reference holds it -/
def MCh (L : List (Int32 × Int32)) (S : MS) : Prop := ∀ y w, L[y]? = some w → mA S 31 y = w.1 ∧ mA S 29 y = w.2
def Keep4 (S T : MS) : Prop := (∀ k, k ≠ 5 → k ≠ 6 → k ≠ 7 → k ≠ 9 → k ≠ 29 → k ≠ 31 → mA T k = mA S k) ∧ ∀ k, k ≠ 10 → k ≠ 11 → mI T k = mI S k
theorem Keep.four {S T : MS} (h : Keep S T) : Keep4 S T := ⟨fun k a b c d _ _ => h.1 k a b c d, fun k a b => h.2 k a b⟩
theorem Keep4.trans {S T U : MS} (h : Keep4 S T) (g : Keep4 T U) : Keep4 S U := ⟨fun k a b c d e f => (g.1 k a b c d e f).trans (h.1 k a b c d e f), fun k a b => (g.2 k a b).trans (h.2 k a b)⟩
theorem Keep4_b {S : MS} {f g : Nat → Int32} : Keep4 S (sA (sA S 29 f) 31 g) := ⟨fun _ _ _ _ _ e h => (mA_ne h).trans (mA_ne e), fun _ _ _ => rfl⟩
theorem MRel_keep4 {A : AS} {S T : MS} (h : MRel A S) (hk : Keep4 S T) : MRel A T := by
  have h1 : Keep S (sA (sA T 29 (mA S 29)) 31 (mA S 31)) := by
    refine ⟨fun k a b c d => ?_, fun k a b => hk.2 k a b⟩
    by_cases e : k = 31
    · subst e; exact mA_same
    · by_cases e2 : k = 29
      · subst e2; exact (mA_ne e).trans mA_same
      · exact (mA_ne e).trans ((mA_ne e2).trans (hk.1 k a b c d e2 e))
  show MRel A (sA (sA T 29 (mA S 29)) 31 (mA S 31))
  exact MRel_keep h h1
theorem MCh_keep {L : List (Int32 × Int32)} {S T : MS} (h : MCh L S) (hk : Keep S T) : MCh L T := by
  unfold MCh
  rw [hk.1 31 (by decide) (by decide) (by decide) (by decide), hk.1 29 (by decide) (by decide) (by decide) (by decide)]
  exact h
theorem MCh_add {L : List (Int32 × Int32)} {S : MS} {v s : Int32} {f : Nat} (h : MCh L S) (hf : f = L.length) : MCh (L ++ [(v, s)]) (sA (sA S 29 (upd (mA S 29) f s)) 31 (upd (mA S 31) f v)) := by
  subst hf
  intro y w hw
  show upd (mA S 31) L.length v y = w.1 ∧ upd (mA S 29) L.length s y = w.2
  by_cases e : y = L.length
  · subst e
    rw [List.getElem?_append_right (Nat.le_refl _), Nat.sub_self] at hw
    cases hw
    exact ⟨pk_us, pk_us⟩
  · have hl : y < L.length := by
      have := (List.getElem?_eq_some_iff.mp hw).1
      rw [List.length_append] at this
      have : y < L.length + 1 := this
      omega
    rw [pk_un e, pk_un e]
    rw [List.getElem?_append_left hl] at hw
    exact h y w hw
theorem n26 {v : Int32} (h : ¬ (v < 2 ∨ 6 < v)) : ∃ n, 2 ≤ n ∧ n ≤ 6 ∧ v = nI n := by
  have h0 : ¬ (v < 0 ∨ nI 6 < v) := fun z => z.elim (fun y => h (Or.inl (Int32.lt_trans y (by decide)))) (fun y => h (Or.inr y))
  obtain ⟨j, hj, e⟩ := wN h0
  subst e
  refine ⟨j, ?_, by omega, rfl⟩
  rcases (show j = 0 ∨ j = 1 ∨ 2 ≤ j by omega) with q | q | q
  · subst q; exact absurd (Or.inl (by decide)) h
  · subst q; exact absurd (Or.inl (by decide)) h
  · exact q
def setC (A : AS) (L : List (Int32 × Int32)) : AS := (A.1, A.2.1, A.2.2.1, L, A.2.2.2.2)
noncomputable def s_choices (A : AS) (q n : Int32) : Int32 × AS := if q < 0 ∨ nI (aNq A) ≤ q then (-1, A) else if n < 2 ∨ 6 < n then (-1, A) else if (chK A (tn q) 7).length < tn n then (-3, A) else (n, setC A ((chK A (tn q) 7).take (tn n)))
theorem MRel_setC {A : AS} {S : MS} {L : List (Int32 × Int32)} {f g : Nat → Int32} (hM : MRel A S) (h : ∀ y w, L[y]? = some w → f y = w.1 ∧ g y = w.2) : MRel (setC A L) (sA (sA (sI S 22 (nI L.length)) 20 f) 21 g) :=
  ⟨hM.1, hM.2.1, hM.2.2.1, hM.2.2.2.1, hM.2.2.2.2.1, hM.2.2.2.2.2.1, ⟨rfl, fun i v s hi => h i (v, s) hi⟩, hM.2.2.2.2.2.2.2⟩
def rmX5_choices : Room := { frames := 5, cells := 0, slots := 0, locals := 123 }
set_option maxHeartbeats 4000000 in
set_option maxRecDepth 100000 in
theorem kX5_choices (G : TG) (o : Nat) (a : Nat → Nat) (S : MS) (A : AS) (hI : AInv A) (hM : MRel A S) (q n : Int32) : CT G yX5_choices cX5_choices 8 (some .int) rmX5_choices 0 0 [.ref (o), .int (q), .int (n)] (MW G o a S) (fun S : MS => MW G o a S) (Ri (fun r S' => r = (s_choices A q n).1 ∧ MRel (s_choices A q n).2 S')) := by
  refine CT.enter (by decide) (Nat.le_of_ble_eq_true rfl) (fun X C hnm => ?_)
  refine V.less [(0, .ref (o)), (1, .int (q)), (2, .int (n))] ⟨rfl, rfl, rfl, trivial⟩ ?_
  generalize hQ : (QX G X (fun S : MS => MW G o a S) (Ri (fun r S' => r = (s_choices A q n).1 ∧ MRel (s_choices A q n).2 S')) 0 0) = Qq
  have hnp := hI.1
  have hnq := hI.2.2.2.2.1
  refine v_aload_n (pc := 0) C dX5_choices_0 rfl ?_
  refine v_iload_n (pc := 1) C dX5_choices_1 rfl ?_
  refine v_callV0 (pc := 2) (st := []) (q0 := 0) C (kX5_isQuestion G o a S q) ykX5_isQuestion cvX5_isQuestion kw3_212 dX5_choices_2 rfl rfl rfl rfl rfl (by decide) (Nat.le_of_ble_eq_true rfl) (by decide) rfl (Ri_kk (fun r_2 u_2 h_2 => ?_))
  obtain ⟨e_2, h_2⟩ := h_2
  rw [e_2]
  rcases (is01 (by omega) hM.2.2.2.1 h_2) with ⟨b_q, rfl⟩ | ⟨j, hj, rfl, rfl⟩
  · refine v_if_eqT (pc := 5) (tgt := 18) C (by decide) dX5_choices_5 (by decide) ?_
    refine v_iconst (pc := 18) (v := (-1)) C dX5_choices_18 (by decide) ?_
    subst hQ
    exact v_iret (pc := 19) C dX5_choices_19 (rfl) (S) rfl (by unfold s_choices; rw [if_pos b_q]; exact ⟨rfl, hM⟩)
  · refine v_if_eqF (pc := 5) (tgt := 18) C (by decide) dX5_choices_5 (by decide) ?_
    refine v_iload_n (pc := 8) C dX5_choices_8 rfl ?_
    refine v_iconst (pc := 9) (v := 2) C dX5_choices_9 (by decide) ?_
    refine v_bipush (pc := 10) (v := 6) C dX5_choices_10 (by decide) ?_
    refine v_callS0 (pc := 12) (st := []) C (kX5_within G _ n 2 6) ykX5_within kw3_142 kw3_141 dX5_choices_12 rfl rfl rfl (by decide) (Nat.le_of_ble_eq_true rfl) (by decide) rfl (Ri_kk (fun r_12 u_12 h_12 => ?_))
    rcases (w01 h_12) with ⟨q_12, rfl⟩ | ⟨q_12, rfl⟩
    · refine v_if_neF (pc := 15) (tgt := 20) C (by decide) dX5_choices_15 (by decide) ?_
      refine v_iconst (pc := 18) (v := (-1)) C dX5_choices_18 (by decide) ?_
      subst hQ
      exact v_iret (pc := 19) C dX5_choices_19 (rfl) (S) rfl (by unfold s_choices; rw [if_neg (nbad hj (by omega)), if_pos q_12]; exact ⟨rfl, hM⟩)
    · refine v_if_neT (pc := 15) (tgt := 20) C (by decide) dX5_choices_15 (by decide) ?_
      obtain ⟨ν, hν2, hν6, rfl⟩ := n26 q_12
      refine v_iconst (pc := 20) (v := 0) C dX5_choices_20 (by decide) ?_
      refine v_istore_n (pc := 21) C dX5_choices_21 (by decide) ?_
      refine v_iconst (pc := 22) (v := (-1)) C dX5_choices_22 (by decide) ?_
      refine v_istore (pc := 23) C dX5_choices_23 (by decide) ?_
      have L25 : ∀ (fu : Nat) (i : Nat) (f : Nat) (kk : Int32) (S1 : MS), (7 < i + fu) → (i ≤ 7) → (f = (List.take ν (chK A j i)).length) → (kk = nI i - 1) → (MCh (List.take ν (chK A j i)) S1) → (Keep4 S S1) → V G X cX5_choices 8 rmX5_choices Qq 0 0 25 (lvo [(0, .ref (o)), (1, .int (nI (j))), (2, .int (nI (ν))), (3, .int (nI (f))), (4, .int (kk))]) [] (MW G o a S1) := by
        intro fu
        induction fu with
        | zero => intro i f kk S1 hf hi hfl hkk hs hK1; exfalso; omega
        | succ fu ih25 =>
          intro i f kk S1 hf hi hfl hkk hs hK1
          have hM1 := MRel_keep4 hM hK1
          have hf6 : f ≤ ν := by rw [hfl, List.length_take]; omega
          refine v_iload (pc := 25) C dX5_choices_25 rfl ?_
          refine v_bipush (pc := 27) (v := 6) C dX5_choices_27 (by decide) ?_
          refine v_icmp_ge (pc := 29) (tgt := 144) C dX5_choices_29 (by decide) (fun c_29 => ?_) (fun c_29 => ?_)
          · have hi7 : i = 7 := sm_end i (by omega) (by rw [← hkk]; exact c_29)
            subst hi7
            have hlen := List.length_take (l := chK A j 7) (i := ν)
            refine v_iload_n (pc := 144) C dX5_choices_144 rfl ?_
            refine v_iload_n (pc := 145) C dX5_choices_145 rfl ?_
            refine v_icmp_geN (pc := 146) (tgt := 152) C (f) (ν) rfl rfl (by omega) (by omega) dX5_choices_146 (by decide) (fun c_146 => ?_) (fun c_146 => ?_)
            · refine v_aload_n (pc := 152) C dX5_choices_152 rfl ?_
              refine v_iload_n (pc := 153) C dX5_choices_153 rfl ?_
              refine v_put (pc := 154) C inX5 tyX5 tyX5_ok nmX5 0 rfl rfl 22 (by decide) kw3_47 rfl (rfl) rfl (Nat.le_of_ble_eq_true rfl) dX5_choices_154 (ws' := (MW G o a (sI S1 22 (nI (ν))))) rfl ?_
              refine v_iconst (pc := 157) (v := 0) C dX5_choices_157 (by decide) ?_
              refine v_istore (pc := 158) C dX5_choices_158 (by decide) ?_
              have L160 : ∀ (fu : Nat) (z : Nat) (t : Nat → Int32) (s : Nat → Int32), (ν < z + fu) → (z ≤ ν) → (∀ y, y < z → t y = mA S1 31 y) → (∀ y, y < z → s y = mA S1 29 y) → V G X cX5_choices 8 rmX5_choices Qq 0 0 160 (lvo [(0, .ref (o)), (1, .int (nI (j))), (2, .int (nI (ν))), (3, .int (nI (f))), (4, .int (nI (z)))]) [] (MW G o a (sA (sA (sI S1 22 (nI (ν))) 20 t) 21 s)) := by
                intro fu
                induction fu with
                | zero => intro z t s hf hz ht hs9; exfalso; omega
                | succ fu ih160 =>
                  intro z t s hf hz ht hs9
                  refine v_iload (pc := 160) C dX5_choices_160 rfl ?_
                  refine v_iload_n (pc := 162) C dX5_choices_162 rfl ?_
                  refine v_icmp_geN (pc := 163) (tgt := 200) C (z) (ν) rfl rfl (by omega) (by omega) dX5_choices_163 (by decide) (fun c_163 => ?_) (fun c_163 => ?_)
                  · refine v_iload_n (pc := 200) C dX5_choices_200 rfl ?_
                    subst hQ
                    exact v_iret (pc := 201) C dX5_choices_201 (rfl) ((sA (sA (sI S1 22 (nI (ν))) 20 t) 21 s)) rfl (by unfold s_choices; rw [if_neg (nbad hj (by omega)), if_neg q_12, tn_nI (n := j) (by omega), tn_nI (n := ν) (by omega), if_neg (by omega)]; refine ⟨rfl, ?_⟩; have hfin := MRel_setC (f := t) (g := s) (L := List.take ν (chK A j 7)) hM1 (fun y w hw => by have hy := (List.getElem?_eq_some_iff.mp hw).1; rw [ht y (by omega), hs9 y (by omega)]; exact hs y w hw); rw [show (List.take ν (chK A j 7)).length = ν by omega] at hfin; exact hfin)
                  · refine v_aload_n (pc := 166) C dX5_choices_166 rfl ?_
                    refine v_get (pc := 167) (v := .ref (a 20)) C inX5 0 rfl rfl 20 (by decide) kw3_45 rfl dX5_choices_167 ?_
                    refine v_iload (pc := 170) C dX5_choices_170 rfl ?_
                    refine v_aload_n (pc := 172) C dX5_choices_172 rfl ?_
                    refine v_get (pc := 173) (v := .ref (a 31)) C inX5 0 rfl rfl 31 (by decide) kw3_56 rfl dX5_choices_173 ?_
                    refine v_iload (pc := 176) C dX5_choices_176 rfl ?_
                    refine v_ialdN (pc := 178) (i := (z)) (f := (mA S1 31)) C 24 rfl (by omega) (by decide) dX5_choices_178 ?_
                    refine v_iastN (pc := 179) (i := (z)) (f := t) C 16 rfl (by omega) (by decide) dX5_choices_179 (ws' := (MW G o a (sA (sA (sI S1 22 (nI (ν))) 20 (upd (t) (z) ((mA S1 31) (z)))) 21 s))) rfl ?_
                    refine v_aload_n (pc := 180) C dX5_choices_180 rfl ?_
                    refine v_get (pc := 181) (v := .ref (a 21)) C inX5 0 rfl rfl 21 (by decide) kw3_46 rfl dX5_choices_181 ?_
                    refine v_iload (pc := 184) C dX5_choices_184 rfl ?_
                    refine v_aload_n (pc := 186) C dX5_choices_186 rfl ?_
                    refine v_get (pc := 187) (v := .ref (a 29)) C inX5 0 rfl rfl 29 (by decide) kw3_54 rfl dX5_choices_187 ?_
                    refine v_iload (pc := 190) C dX5_choices_190 rfl ?_
                    refine v_ialdN (pc := 192) (i := (z)) (f := (mA S1 29)) C 23 rfl (by omega) (by decide) dX5_choices_192 ?_
                    refine v_iastN (pc := 193) (i := (z)) (f := s) C 17 rfl (by omega) (by decide) dX5_choices_193 (ws' := (MW G o a (sA (sA (sI S1 22 (nI (ν))) 20 (upd (t) (z) ((mA S1 31) (z)))) 21 (upd (s) (z) ((mA S1 29) (z)))))) rfl ?_
                    refine v_iinc1 (pc := 194) C (z) rfl dX5_choices_194 rfl ?_
                    refine v_goto (pc := 197) (tgt := 160) C dX5_choices_197 (by decide) ?_
                    exact V.lessE (ih160  (((z) + 1)) ((upd (t) (z) ((mA S1 31) (z)))) ((upd (s) (z) ((mA S1 29) (z)))) (by omega) (by omega) (upd_in ht rfl) (upd_in hs9 rfl)) ⟨rfl, rfl, rfl, rfl, rfl, trivial⟩
              exact V.lessE (L160 (ν + 1) (0) ((mA S1 20)) ((mA S1 21)) (by omega) (by omega) (fun z hz => absurd hz (Nat.not_lt_zero z)) (fun z hz => absurd hz (Nat.not_lt_zero z))) ⟨rfl, rfl, rfl, rfl, rfl, trivial⟩
            · refine v_bipush (pc := 149) (v := (-3)) C dX5_choices_149 (by decide) ?_
              subst hQ
              exact v_iret (pc := 151) C dX5_choices_151 (rfl) (S1) rfl (by unfold s_choices; rw [if_neg (nbad hj (by omega)), if_neg q_12, tn_nI (n := j) (by omega), tn_nI (n := ν) (by omega), if_pos (by omega)]; exact ⟨rfl, hM1⟩)
          · have hi7 : i < 7 := sm_go i (by omega) (by rw [← hkk]; exact c_29)
            refine v_aload_n (pc := 32) C dX5_choices_32 rfl ?_
            refine v_iload_n (pc := 33) C dX5_choices_33 rfl ?_
            have J47 : V G X cX5_choices 8 rmX5_choices Qq 0 0 47 (lvo [(0, .ref (o)), (1, .int (nI (j))), (2, .int (nI (ν))), (3, .int (nI (f))), (4, .int (kk))]) [.int (nI (smN i)), .int (nI (j)), .ref (o)] (MW G o a S1) := by
              skip
              refine v_callV0 (pc := 47) (st := []) (q0 := 0) C (kX5_answerOf G o a S1 A hI hM1 j hj (nI (smN i))) ykX5_answerOf cvX5_answerOf kw3_216 dX5_choices_47 rfl rfl rfl rfl rfl (by decide) (Nat.le_of_ble_eq_true rfl) (by decide) rfl (Ri_kk (fun r_47 u_47 h_47 => ?_))
              obtain ⟨er, hK2⟩ := h_47
              subst er
              have hs2 := MCh_keep hs hK2
              refine v_istore (pc := 50) C dX5_choices_50 (by decide) ?_
              have J62 : ∀ (al : Int32), ((al = 1 ∧ unK (List.take ν (chK A j i)) (ansA A j (nI (smN i))) ν 0) ∨ (al = 0 ∧ ¬ unK (List.take ν (chK A j i)) (ansA A j (nI (smN i))) ν 0)) → V G X cX5_choices 8 rmX5_choices Qq 0 0 62 (lvo [(0, .ref (o)), (1, .int (nI (j))), (2, .int (nI (ν))), (3, .int (nI (f))), (4, .int (kk)), (5, .int (ansA A j (nI (smN i))))]) [.int (al)] (MW G o a u_47) := by
                intro al hal0
                refine v_istore (pc := 62) C dX5_choices_62 (by decide) ?_
                refine v_iconst (pc := 64) (v := 0) C dX5_choices_64 (by decide) ?_
                refine v_istore (pc := 65) C dX5_choices_65 (by decide) ?_
                have L67 : ∀ (fu : Nat) (z : Nat) (al : Int32), (f < z + fu) → (z ≤ f) → ((al = 1 ∧ unK (List.take ν (chK A j i)) (ansA A j (nI (smN i))) ν z) ∨ (al = 0 ∧ ¬ unK (List.take ν (chK A j i)) (ansA A j (nI (smN i))) ν z)) → V G X cX5_choices 8 rmX5_choices Qq 0 0 67 (lvo [(0, .ref (o)), (1, .int (nI (j))), (2, .int (nI (ν))), (3, .int (nI (f))), (4, .int (kk)), (5, .int (ansA A j (nI (smN i)))), (6, .int (al)), (7, .int (nI (z)))]) [] (MW G o a u_47) := by
                  intro fu
                  induction fu with
                  | zero => intro z al hf hz hal; exfalso; omega
                  | succ fu ih67 =>
                    intro z al hf hz hal
                    refine v_iload (pc := 67) C dX5_choices_67 rfl ?_
                    refine v_iload_n (pc := 69) C dX5_choices_69 rfl ?_
                    refine v_icmp_geN (pc := 70) (tgt := 103) C (z) (f) rfl rfl (by omega) (by omega) dX5_choices_70 (by decide) (fun c_70 => ?_) (fun c_70 => ?_)
                    · have hzf : z = (List.take ν (chK A j i)).length := by omega
                      refine v_iload (pc := 103) C dX5_choices_103 rfl ?_
                      refine v_if_eq (pc := 105) (tgt := 138) C dX5_choices_105 (by decide) (fun c_105 => ?_) (fun c_105 => ?_)
                      · have hno : ¬ unK (List.take ν (chK A j i)) (ansA A j (nI (smN i))) ν (List.take ν (chK A j i)).length := by rw [← hzf]; exact al0 hal c_105
                        refine v_iincI (pc := 138) C dX5_choices_138 rfl ?_
                        refine v_goto (pc := 141) (tgt := 25) C dX5_choices_141 (by decide) ?_
                        exact V.lessE (ih25  (i + 1) ((f)) (((kk) + 1)) (u_47) (by omega) (by omega) (by rw [chT_no hno]; exact hfl) (by rw [hkk]; exact sm_nx i (by omega)) (by rw [chT_no hno]; exact hs2) (hK1.trans hK2.four)) ⟨rfl, rfl, rfl, rfl, rfl, trivial⟩
                      · have hyes : unK (List.take ν (chK A j i)) (ansA A j (nI (smN i))) ν (List.take ν (chK A j i)).length := by rw [← hzf]; exact al1 hal c_105
                        have hlt := hyes.1
                        refine v_aload_n (pc := 108) C dX5_choices_108 rfl ?_
                        refine v_get (pc := 109) (v := .ref (a 31)) C inX5 0 rfl rfl 31 (by decide) kw3_56 rfl dX5_choices_109 ?_
                        refine v_iload_n (pc := 112) C dX5_choices_112 rfl ?_
                        refine v_iload (pc := 113) C dX5_choices_113 rfl ?_
                        refine v_iastN (pc := 115) (i := (f)) (f := (mA u_47 31)) C 24 rfl (by omega) (by decide) dX5_choices_115 (ws' := (MW G o a (sA u_47 31 (upd ((mA u_47 31)) (f) (ansA A j (nI (smN i))))))) rfl ?_
                        refine v_aload_n (pc := 116) C dX5_choices_116 rfl ?_
                        refine v_get (pc := 117) (v := .ref (a 29)) C inX5 0 rfl rfl 29 (by decide) kw3_54 rfl dX5_choices_117 ?_
                        refine v_iload_n (pc := 120) C dX5_choices_120 rfl ?_
                        have J134 : V G X cX5_choices 8 rmX5_choices Qq 0 0 134 (lvo [(0, .ref (o)), (1, .int (nI (j))), (2, .int (nI (ν))), (3, .int (nI (f))), (4, .int (kk)), (5, .int (ansA A j (nI (smN i)))), (6, .int (al)), (7, .int (nI (z)))]) [.int (nI (smN i)), .int (nI (f)), .ref (a 29)] (MW G o a (sA u_47 31 (upd ((mA u_47 31)) (f) (ansA A j (nI (smN i)))))) := by
                          skip
                          refine v_iastN (pc := 134) (i := (f)) (f := (mA u_47 29)) C 23 rfl (by omega) (by decide) dX5_choices_134 (ws' := (MW G o a (sA (sA u_47 29 (upd ((mA u_47 29)) (f) (nI (smN i)))) 31 (upd ((mA u_47 31)) (f) (ansA A j (nI (smN i))))))) rfl ?_
                          refine v_iinc1 (pc := 135) C (f) rfl dX5_choices_135 rfl ?_
                          refine v_iincI (pc := 138) C dX5_choices_138 rfl ?_
                          refine v_goto (pc := 141) (tgt := 25) C dX5_choices_141 (by decide) ?_
                          exact V.lessE (ih25  (i + 1) (((f) + 1)) (((kk) + 1)) ((sA (sA u_47 29 (upd ((mA u_47 29)) (f) (nI (smN i)))) 31 (upd ((mA u_47 31)) (f) (ansA A j (nI (smN i)))))) (by omega) (by omega) (by rw [chT_add hyes, List.length_append, ← hfl]; rfl) (by rw [hkk]; exact sm_nx i (by omega)) (by rw [chT_add hyes]; exact MCh_add hs2 hfl) ((hK1.trans hK2.four).trans Keep4_b)) ⟨rfl, rfl, rfl, rfl, rfl, trivial⟩
                        refine v_iload (pc := 121) C dX5_choices_121 rfl ?_
                        refine v_if_ge (pc := 123) (tgt := 130) C dX5_choices_123 (by decide) (fun c_123 => ?_) (fun c_123 => ?_)
                        · refine v_iconst (pc := 130) (v := 1) C dX5_choices_130 (by decide) ?_
                          refine v_iload (pc := 131) C dX5_choices_131 rfl ?_
                          refine v_ishl (pc := 133) C dX5_choices_133 ?_
                          refine v_cv (y := (nI (smN i))) (by rw [hkk]; exact sm_pos i (by omega) (by rw [← hkk]; exact c_123)) ?_
                          exact V.lessE (J134   ) ⟨rfl, rfl, rfl, rfl, rfl, rfl, rfl, rfl, trivial⟩
                        · refine v_iconst (pc := 126) (v := 0) C dX5_choices_126 (by decide) ?_
                          refine v_cv (y := (nI (smN i))) (sm_neg i (by omega) (by rw [← hkk]; exact c_123)) ?_
                          refine v_goto (pc := 127) (tgt := 134) C dX5_choices_127 (by decide) ?_
                          exact V.lessE (J134   ) ⟨rfl, rfl, rfl, rfl, rfl, rfl, rfl, rfl, trivial⟩
                    · obtain ⟨w, hw⟩ : ∃ w, (List.take ν (chK A j i))[z]? = some w := ⟨_, List.getElem?_eq_getElem (by omega)⟩
                      refine v_iload (pc := 73) C dX5_choices_73 rfl ?_
                      refine v_if_eq (pc := 75) (tgt := 94) C dX5_choices_75 (by decide) (fun c_75 => ?_) (fun c_75 => ?_)
                      · refine v_iconst (pc := 94) (v := 0) C dX5_choices_94 (by decide) ?_
                        refine v_istore (pc := 95) C dX5_choices_95 (by decide) ?_
                        refine v_iinc1 (pc := 97) C (z) rfl dX5_choices_97 rfl ?_
                        refine v_goto (pc := 100) (tgt := 67) C dX5_choices_100 (by decide) ?_
                        exact V.lessE (ih67  (((z) + 1)) ((0 : Int32)) (by omega) (by omega) (Or.inr ⟨rfl, fun z9 => al0 hal c_75 ((unK_s hw).mp z9).1⟩)) ⟨rfl, rfl, rfl, rfl, rfl, rfl, rfl, rfl, trivial⟩
                      · refine v_aload_n (pc := 78) C dX5_choices_78 rfl ?_
                        refine v_get (pc := 79) (v := .ref (a 31)) C inX5 0 rfl rfl 31 (by decide) kw3_56 rfl dX5_choices_79 ?_
                        refine v_iload (pc := 82) C dX5_choices_82 rfl ?_
                        refine v_ialdN (pc := 84) (i := (z)) (f := (mA u_47 31)) C 24 rfl (by omega) (by decide) dX5_choices_84 ?_
                        refine v_iload (pc := 85) C dX5_choices_85 rfl ?_
                        refine v_icmp_eq (pc := 87) (tgt := 94) C dX5_choices_87 (by decide) (fun c_87 => ?_) (fun c_87 => ?_)
                        · refine v_iconst (pc := 94) (v := 0) C dX5_choices_94 (by decide) ?_
                          refine v_istore (pc := 95) C dX5_choices_95 (by decide) ?_
                          refine v_iinc1 (pc := 97) C (z) rfl dX5_choices_97 rfl ?_
                          refine v_goto (pc := 100) (tgt := 67) C dX5_choices_100 (by decide) ?_
                          exact V.lessE (ih67  (((z) + 1)) ((0 : Int32)) (by omega) (by omega) (Or.inr ⟨rfl, fun z9 => ((unK_s hw).mp z9).2 ((hs2 z w hw).1.symm.trans c_87)⟩)) ⟨rfl, rfl, rfl, rfl, rfl, rfl, rfl, rfl, trivial⟩
                        · refine v_iconst (pc := 90) (v := 1) C dX5_choices_90 (by decide) ?_
                          refine v_goto (pc := 91) (tgt := 95) C dX5_choices_91 (by decide) ?_
                          refine v_istore (pc := 95) C dX5_choices_95 (by decide) ?_
                          refine v_iinc1 (pc := 97) C (z) rfl dX5_choices_97 rfl ?_
                          refine v_goto (pc := 100) (tgt := 67) C dX5_choices_100 (by decide) ?_
                          exact V.lessE (ih67  (((z) + 1)) ((1 : Int32)) (by omega) (by omega) (Or.inl ⟨rfl, (unK_s hw).mpr ⟨al1 hal c_75, fun y => c_87 ((hs2 z w hw).1.trans y)⟩⟩)) ⟨rfl, rfl, rfl, rfl, rfl, rfl, rfl, rfl, trivial⟩
                exact V.lessE (L67 (f + 1) (0) ((al)) (by omega) (by omega) (hal0)) ⟨rfl, rfl, rfl, rfl, rfl, rfl, rfl, rfl, trivial⟩
              refine v_iload_n (pc := 52) C dX5_choices_52 rfl ?_
              refine v_iload_n (pc := 53) C dX5_choices_53 rfl ?_
              refine v_icmp_geN (pc := 54) (tgt := 61) C (f) (ν) rfl rfl (by omega) (by omega) dX5_choices_54 (by decide) (fun c_54 => ?_) (fun c_54 => ?_)
              · refine v_iconst (pc := 61) (v := 0) C dX5_choices_61 (by decide) ?_
                exact V.lessE (J62  ((0 : Int32)) (Or.inr ⟨rfl, fun y => absurd y.1 (by omega)⟩)) ⟨rfl, rfl, rfl, rfl, rfl, rfl, trivial⟩
              · refine v_iconst (pc := 57) (v := 1) C dX5_choices_57 (by decide) ?_
                refine v_goto (pc := 58) (tgt := 62) C dX5_choices_58 (by decide) ?_
                exact V.lessE (J62  ((1 : Int32)) (Or.inl ⟨rfl, by omega, fun y hy => absurd hy (Nat.not_lt_zero y)⟩)) ⟨rfl, rfl, rfl, rfl, rfl, rfl, trivial⟩
            refine v_iload (pc := 34) C dX5_choices_34 rfl ?_
            refine v_if_ge (pc := 36) (tgt := 43) C dX5_choices_36 (by decide) (fun c_36 => ?_) (fun c_36 => ?_)
            · refine v_iconst (pc := 43) (v := 1) C dX5_choices_43 (by decide) ?_
              refine v_iload (pc := 44) C dX5_choices_44 rfl ?_
              refine v_ishl (pc := 46) C dX5_choices_46 ?_
              refine v_cv (y := (nI (smN i))) (by rw [hkk]; exact sm_pos i (by omega) (by rw [← hkk]; exact c_36)) ?_
              exact V.lessE (J47   ) ⟨rfl, rfl, rfl, rfl, rfl, trivial⟩
            · refine v_iconst (pc := 39) (v := 0) C dX5_choices_39 (by decide) ?_
              refine v_cv (y := (nI (smN i))) (sm_neg i (by omega) (by rw [← hkk]; exact c_36)) ?_
              refine v_goto (pc := 40) (tgt := 47) C dX5_choices_40 (by decide) ?_
              exact V.lessE (J47   ) ⟨rfl, rfl, rfl, rfl, rfl, trivial⟩
      exact V.lessE (L25 (8) (0) (0) ((-1 : Int32)) (S) (by omega) (by omega) (by rw [show chK A j 0 = [] from rfl, List.take_nil]; rfl) (by decide) (fun y w hw => by rw [show chK A j 0 = [] from rfl, List.take_nil] at hw; cases hw) ((Keep.refl S).four)) ⟨rfl, rfl, rfl, rfl, rfl, trivial⟩
