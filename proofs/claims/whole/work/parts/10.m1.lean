/-! the reference: small methods -/
def bitsI (m : Int32) : Nat → Int32
  | 0 => 0
  | k + 1 => bitsI m k + ((m >>> (nI k &&& 31)) &&& 1)
/-- how many LOOPs and LESSes are open ahead of line k -/
def oaI (f : Nat → Int32) : Nat → Int32
  | 0 => 0
  | k + 1 => oaI f k + (if f k = 4 ∨ f k = 5 then 1 else if f k = 6 then -1 else 0)
def rmX5_within : Room := { frames := 0, cells := 0, slots := 0, locals := 0 }
set_option maxHeartbeats 4000000 in
set_option maxRecDepth 100000 in
theorem kX5_within (G : TG) (ws : va_W) (v lo hi : Int32) : CT G yX5_within cX5_within 3 (some .boolean) rmX5_within 0 0 [.int (v), .int (lo), .int (hi)] ws (fun _ : Unit => ws) (Ri (fun r _ => r = if v < lo ∨ hi < v then 0 else 1)) := by
  refine CT.enter (by decide) (Nat.le_of_ble_eq_true rfl) (fun X C hnm => ?_)
  refine V.less [(0, .int (v)), (1, .int (lo)), (2, .int (hi))] ⟨rfl, rfl, rfl, trivial⟩ ?_
  refine v_iload_n (pc := 0) C dX5_within_0 rfl ?_
  refine v_iload_n (pc := 1) C dX5_within_1 rfl ?_
  refine v_icmp_lt (pc := 2) (tgt := 14) C dX5_within_2 (by decide) (fun c_2 => ?_) (fun c_2 => ?_)
  · refine v_iconst (pc := 14) (v := 0) C dX5_within_14 (by decide) ?_
    exact v_iret (pc := 15) C dX5_within_15 (rfl) (()) rfl (by simp [c_2])
  · refine v_iload_n (pc := 5) C dX5_within_5 rfl ?_
    refine v_iload_n (pc := 6) C dX5_within_6 rfl ?_
    refine v_icmp_gt (pc := 7) (tgt := 14) C dX5_within_7 (by decide) (fun c_7 => ?_) (fun c_7 => ?_)
    · refine v_iconst (pc := 14) (v := 0) C dX5_within_14 (by decide) ?_
      exact v_iret (pc := 15) C dX5_within_15 (rfl) (()) rfl (by simp [c_2, c_7])
    · refine v_iconst (pc := 10) (v := 1) C dX5_within_10 (by decide) ?_
      refine v_goto (pc := 11) (tgt := 15) C dX5_within_11 (by decide) ?_
      exact v_iret (pc := 15) C dX5_within_15 (rfl) (()) rfl (by simp [c_2, c_7])
def rmX5_isProgram : Room := { frames := 0, cells := 0, slots := 0, locals := 0 }
set_option maxHeartbeats 4000000 in
set_option maxRecDepth 100000 in
theorem kX5_isProgram (G : TG) (o : Nat) (a : Nat → Nat) (S : MS) (p : Int32) : CT G yX5_isProgram cX5_isProgram 2 (some .boolean) rmX5_isProgram 0 0 [.ref (o), .int (p)] (MW G o a S) (fun S : MS => MW G o a S) (Ri (fun r S' => S' = S ∧ r = if p < 0 ∨ mI S 4 ≤ p then 0 else 1)) := by
  refine CT.enter (by decide) (Nat.le_of_ble_eq_true rfl) (fun X C hnm => ?_)
  refine V.less [(0, .ref (o)), (1, .int (p))] ⟨rfl, rfl, trivial⟩ ?_
  refine v_iload_n (pc := 0) C dX5_isProgram_0 rfl ?_
  refine v_if_lt (pc := 1) (tgt := 16) C dX5_isProgram_1 (by decide) (fun c_1 => ?_) (fun c_1 => ?_)
  · refine v_iconst (pc := 16) (v := 0) C dX5_isProgram_16 (by decide) ?_
    exact v_iret (pc := 17) C dX5_isProgram_17 (rfl) (S) rfl (by simp [c_1])
  · refine v_iload_n (pc := 4) C dX5_isProgram_4 rfl ?_
    refine v_aload_n (pc := 5) C dX5_isProgram_5 rfl ?_
    refine v_get (pc := 6) (v := .int (mI S 4)) C inX5 0 rfl rfl 4 (by decide) kw3_29 rfl dX5_isProgram_6 ?_
    refine v_icmp_ge (pc := 9) (tgt := 16) C dX5_isProgram_9 (by decide) (fun c_9 => ?_) (fun c_9 => ?_)
    · refine v_iconst (pc := 16) (v := 0) C dX5_isProgram_16 (by decide) ?_
      exact v_iret (pc := 17) C dX5_isProgram_17 (rfl) (S) rfl (by simp [c_1, c_9])
    · refine v_iconst (pc := 12) (v := 1) C dX5_isProgram_12 (by decide) ?_
      refine v_goto (pc := 13) (tgt := 17) C dX5_isProgram_13 (by decide) ?_
      exact v_iret (pc := 17) C dX5_isProgram_17 (rfl) (S) rfl (by simp [c_1, c_9])
def rmX5_isQuestion : Room := { frames := 0, cells := 0, slots := 0, locals := 0 }
set_option maxHeartbeats 4000000 in
set_option maxRecDepth 100000 in
theorem kX5_isQuestion (G : TG) (o : Nat) (a : Nat → Nat) (S : MS) (p : Int32) : CT G yX5_isQuestion cX5_isQuestion 2 (some .boolean) rmX5_isQuestion 0 0 [.ref (o), .int (p)] (MW G o a S) (fun S : MS => MW G o a S) (Ri (fun r S' => S' = S ∧ r = if p < 0 ∨ mI S 19 ≤ p then 0 else 1)) := by
  refine CT.enter (by decide) (Nat.le_of_ble_eq_true rfl) (fun X C hnm => ?_)
  refine V.less [(0, .ref (o)), (1, .int (p))] ⟨rfl, rfl, trivial⟩ ?_
  refine v_iload_n (pc := 0) C dX5_isQuestion_0 rfl ?_
  refine v_if_lt (pc := 1) (tgt := 16) C dX5_isQuestion_1 (by decide) (fun c_1 => ?_) (fun c_1 => ?_)
  · refine v_iconst (pc := 16) (v := 0) C dX5_isQuestion_16 (by decide) ?_
    exact v_iret (pc := 17) C dX5_isQuestion_17 (rfl) (S) rfl (by simp [c_1])
  · refine v_iload_n (pc := 4) C dX5_isQuestion_4 rfl ?_
    refine v_aload_n (pc := 5) C dX5_isQuestion_5 rfl ?_
    refine v_get (pc := 6) (v := .int (mI S 19)) C inX5 0 rfl rfl 19 (by decide) kw3_44 rfl dX5_isQuestion_6 ?_
    refine v_icmp_ge (pc := 9) (tgt := 16) C dX5_isQuestion_9 (by decide) (fun c_9 => ?_) (fun c_9 => ?_)
    · refine v_iconst (pc := 16) (v := 0) C dX5_isQuestion_16 (by decide) ?_
      exact v_iret (pc := 17) C dX5_isQuestion_17 (rfl) (S) rfl (by simp [c_1, c_9])
    · refine v_iconst (pc := 12) (v := 1) C dX5_isQuestion_12 (by decide) ?_
      refine v_goto (pc := 13) (tgt := 17) C dX5_isQuestion_13 (by decide) ?_
      exact v_iret (pc := 17) C dX5_isQuestion_17 (rfl) (S) rfl (by simp [c_1, c_9])
def rmX5_has : Room := { frames := 0, cells := 0, slots := 0, locals := 0 }
set_option maxHeartbeats 4000000 in
set_option maxRecDepth 100000 in
theorem kX5_has (G : TG) (ws : va_W) (m b : Int32) : CT G yX5_has cX5_has 2 (some .boolean) rmX5_has 0 0 [.int (m), .int (b)] ws (fun _ : Unit => ws) (Ri (fun r _ => r = if m &&& b = 0 then 0 else 1)) := by
  refine CT.enter (by decide) (Nat.le_of_ble_eq_true rfl) (fun X C hnm => ?_)
  refine V.less [(0, .int (m)), (1, .int (b))] ⟨rfl, rfl, trivial⟩ ?_
  refine v_iload_n (pc := 0) C dX5_has_0 rfl ?_
  refine v_iload_n (pc := 1) C dX5_has_1 rfl ?_
  refine v_iand (pc := 2) C dX5_has_2 ?_
  refine v_if_eq (pc := 3) (tgt := 10) C dX5_has_3 (by decide) (fun c_3 => ?_) (fun c_3 => ?_)
  · refine v_iconst (pc := 10) (v := 0) C dX5_has_10 (by decide) ?_
    exact v_iret (pc := 11) C dX5_has_11 (rfl) (()) rfl (by simp [c_3])
  · refine v_iconst (pc := 6) (v := 1) C dX5_has_6 (by decide) ?_
    refine v_goto (pc := 7) (tgt := 11) C dX5_has_7 (by decide) ?_
    exact v_iret (pc := 11) C dX5_has_11 (rfl) (()) rfl (by simp [c_3])
def rmX5_isPupil : Room := { frames := 0, cells := 0, slots := 0, locals := 0 }
set_option maxHeartbeats 4000000 in
set_option maxRecDepth 100000 in
theorem kX5_isPupil (G : TG) (ws : va_W) (p : Int32) : CT G yX5_isPupil cX5_isPupil 1 (some .boolean) rmX5_isPupil 0 0 [.int (p)] ws (fun _ : Unit => ws) (Ri (fun r _ => r = if p < 0 ∨ 10 ≤ p then 0 else 1)) := by
  refine CT.enter (by decide) (Nat.le_of_ble_eq_true rfl) (fun X C hnm => ?_)
  refine V.less [(0, .int (p))] ⟨rfl, trivial⟩ ?_
  refine v_iload_n (pc := 0) C dX5_isPupil_0 rfl ?_
  refine v_if_lt (pc := 1) (tgt := 14) C dX5_isPupil_1 (by decide) (fun c_1 => ?_) (fun c_1 => ?_)
  · refine v_iconst (pc := 14) (v := 0) C dX5_isPupil_14 (by decide) ?_
    exact v_iret (pc := 15) C dX5_isPupil_15 (rfl) (()) rfl (by simp [c_1])
  · refine v_iload_n (pc := 4) C dX5_isPupil_4 rfl ?_
    refine v_bipush (pc := 5) (v := 10) C dX5_isPupil_5 (by decide) ?_
    refine v_icmp_ge (pc := 7) (tgt := 14) C dX5_isPupil_7 (by decide) (fun c_7 => ?_) (fun c_7 => ?_)
    · refine v_iconst (pc := 14) (v := 0) C dX5_isPupil_14 (by decide) ?_
      exact v_iret (pc := 15) C dX5_isPupil_15 (rfl) (()) rfl (by simp [c_1, c_7])
    · refine v_iconst (pc := 10) (v := 1) C dX5_isPupil_10 (by decide) ?_
      refine v_goto (pc := 11) (tgt := 15) C dX5_isPupil_11 (by decide) ?_
      exact v_iret (pc := 15) C dX5_isPupil_15 (rfl) (()) rfl (by simp [c_1, c_7])
def rmX5_bits : Room := { frames := 0, cells := 0, slots := 0, locals := 0 }
set_option maxHeartbeats 4000000 in
set_option maxRecDepth 100000 in
theorem kX5_bits (G : TG) (ws : va_W) (m : Int32) : CT G yX5_bits cX5_bits 3 (some .int) rmX5_bits 0 0 [.int (m)] ws (fun _ : Unit => ws) (Ri (fun r _ => r = bitsI m 6)) := by
  refine CT.enter (by decide) (Nat.le_of_ble_eq_true rfl) (fun X C hnm => ?_)
  refine V.less [(0, .int (m))] ⟨rfl, trivial⟩ ?_
  refine v_iconst (pc := 0) (v := 0) C dX5_bits_0 (by decide) ?_
  refine v_istore_n (pc := 1) C dX5_bits_1 (by decide) ?_
  refine v_iconst (pc := 2) (v := 0) C dX5_bits_2 (by decide) ?_
  refine v_istore_n (pc := 3) C dX5_bits_3 (by decide) ?_
  have L4 : ∀ (fu : Nat) (k : Nat) (n : Int32), (6 < k + fu) → (k ≤ 6) → (n = bitsI m k) → V G X cX5_bits 3 rmX5_bits (QX G X (fun _ : Unit => ws) (Ri (fun r _ => r = bitsI m 6)) 0 0) 0 0 4 (lvo [(0, .int (m)), (1, .int (n)), (2, .int (nI (k)))]) [] ws := by
    intro fu
    induction fu with
    | zero => intro k n hf hk hn; exfalso; omega
    | succ fu ih =>
      intro k n hf hk hn
      refine v_iload_n (pc := 4) C dX5_bits_4 rfl ?_
      refine v_bipush (pc := 5) (v := 6) C dX5_bits_5 (by decide) ?_
      refine v_icmp_geN (pc := 7) (tgt := 24) C (k) 6 rfl rfl (by omega) (by omega) dX5_bits_7 (by decide) (fun c_7 => ?_) (fun c_7 => ?_)
      · refine v_iload_n (pc := 24) C dX5_bits_24 rfl ?_
        exact v_iret (pc := 25) C dX5_bits_25 (rfl) (()) rfl (by rw [hn, show k = 6 by omega])
      · refine v_iload_n (pc := 10) C dX5_bits_10 rfl ?_
        refine v_iload_n (pc := 11) C dX5_bits_11 rfl ?_
        refine v_iload_n (pc := 12) C dX5_bits_12 rfl ?_
        refine v_ishr (pc := 13) C dX5_bits_13 ?_
        refine v_iconst (pc := 14) (v := 1) C dX5_bits_14 (by decide) ?_
        refine v_iand (pc := 15) C dX5_bits_15 ?_
        refine v_iadd (pc := 16) C dX5_bits_16 ?_
        refine v_istore_n (pc := 17) C dX5_bits_17 (by decide) ?_
        refine v_iinc1 (pc := 18) C (k) rfl dX5_bits_18 rfl ?_
        refine v_goto (pc := 21) (tgt := 4) C dX5_bits_21 (by decide) ?_
        exact V.lessE (ih  (((k) + 1)) (((n) + (((m) >>> ((nI (k)) &&& 31)) &&& (1 : Int32)))) (by omega) (by omega) (by rw [hn]; rfl)) ⟨rfl, rfl, rfl, trivial⟩
  exact V.lessE (L4 (7) (0) ((0 : Int32)) (by omega) (by omega) (rfl)) ⟨rfl, rfl, rfl, trivial⟩
def rmX5_openAhead : Room := { frames := 0, cells := 0, slots := 0, locals := 0 }
set_option maxHeartbeats 4000000 in
set_option maxRecDepth 100000 in
theorem kX5_openAhead (G : TG) (o : Nat) (a : Nat → Nat) (S : MS) (p l : Nat) (hp : p < 10) (hl : l ≤ 20) : CT G yX5_openAhead cX5_openAhead 6 (some .int) rmX5_openAhead 0 0 [.ref (o), .int (nI (p)), .int (nI (l))] (MW G o a S) (fun S : MS => MW G o a S) (Ri (fun r S' => S' = S ∧ r = oaI (fun k => mA S 0 (20 * p + k)) l)) := by
  refine CT.enter (by decide) (Nat.le_of_ble_eq_true rfl) (fun X C hnm => ?_)
  refine V.less [(0, .ref (o)), (1, .int (nI (p))), (2, .int (nI (l)))] ⟨rfl, rfl, rfl, trivial⟩ ?_
  refine v_iconst (pc := 0) (v := 0) C dX5_openAhead_0 (by decide) ?_
  refine v_istore_n (pc := 1) C dX5_openAhead_1 (by decide) ?_
  refine v_iconst (pc := 2) (v := 0) C dX5_openAhead_2 (by decide) ?_
  refine v_istore (pc := 3) C dX5_openAhead_3 (by decide) ?_
  have L5 : ∀ (fu : Nat) (k : Nat) (n : Int32), (l < k + fu) → (k ≤ l) → (n = oaI (fun k => mA S 0 (20 * p + k)) k) → V G X cX5_openAhead 6 rmX5_openAhead (QX G X (fun S : MS => MW G o a S) (Ri (fun r S' => S' = S ∧ r = oaI (fun k => mA S 0 (20 * p + k)) l)) 0 0) 0 0 5 (lvo [(0, .ref (o)), (1, .int (nI (p))), (2, .int (nI (l))), (3, .int (n)), (4, .int (nI (k)))]) [] (MW G o a S) := by
    intro fu
    induction fu with
    | zero => intro k n hf hk hn; exfalso; omega
    | succ fu ih =>
      intro k n hf hk hn
      refine v_iload (pc := 5) C dX5_openAhead_5 rfl ?_
      refine v_iload_n (pc := 7) C dX5_openAhead_7 rfl ?_
      refine v_icmp_geN (pc := 8) (tgt := 62) C (k) (l) rfl rfl (by omega) (by omega) dX5_openAhead_8 (by decide) (fun c_8 => ?_) (fun c_8 => ?_)
      · refine v_iload_n (pc := 62) C dX5_openAhead_62 rfl ?_
        exact v_iret (pc := 63) C dX5_openAhead_63 (rfl) (S) rfl (⟨rfl, by rw [hn, show k = l by omega]⟩)
      · refine v_aload_n (pc := 11) C dX5_openAhead_11 rfl ?_
        refine v_get (pc := 12) (v := .ref (a 0)) C inX5 0 rfl rfl 0 (by decide) kw3_25 rfl dX5_openAhead_12 ?_
        refine v_bipush (pc := 15) (v := 20) C dX5_openAhead_15 (by decide) ?_
        refine v_iload_n (pc := 17) C dX5_openAhead_17 rfl ?_
        refine v_imulN (pc := 18) C 20 (p) rfl rfl dX5_openAhead_18 ?_
        refine v_iload (pc := 19) C dX5_openAhead_19 rfl ?_
        refine v_iaddN (pc := 21) C (20 * (p)) (k) rfl rfl dX5_openAhead_21 ?_
        refine v_ialdN (pc := 22) (i := ((20 * (p)) + (k))) (f := (mA S 0)) C 1 rfl (by omega) (by decide) dX5_openAhead_22 ?_
        refine v_nm (fun w e_w => ?_)
        refine v_istore (pc := 23) C dX5_openAhead_23 (by decide) ?_
        refine v_iload_n (pc := 25) C dX5_openAhead_25 rfl ?_
        have J54 : ∀ (dl : Int32), (dl = if mA S 0 (20 * p + k) = 4 ∨ mA S 0 (20 * p + k) = 5 then 1 else if mA S 0 (20 * p + k) = 6 then -1 else 0) → V G X cX5_openAhead 6 rmX5_openAhead (QX G X (fun S : MS => MW G o a S) (Ri (fun r S' => S' = S ∧ r = oaI (fun k => mA S 0 (20 * p + k)) l)) 0 0) 0 0 54 (lvo [(0, .ref (o)), (1, .int (nI (p))), (2, .int (nI (l))), (3, .int (n)), (4, .int (nI (k))), (5, .int (w))]) [.int (dl), .int (n)] (MW G o a S) := by
          intro dl hd
          refine v_iadd (pc := 54) C dX5_openAhead_54 ?_
          refine v_istore_n (pc := 55) C dX5_openAhead_55 (by decide) ?_
          refine v_iinc1 (pc := 56) C (k) rfl dX5_openAhead_56 rfl ?_
          refine v_goto (pc := 59) (tgt := 5) C dX5_openAhead_59 (by decide) ?_
          exact V.lessE (ih  (((k) + 1)) (((n) + (dl))) (by omega) (by omega) (by rw [hn, hd]; rfl)) ⟨rfl, rfl, rfl, rfl, rfl, trivial⟩
        refine v_iload (pc := 26) C dX5_openAhead_26 rfl ?_
        refine v_iconst (pc := 28) (v := 4) C dX5_openAhead_28 (by decide) ?_
        refine v_icmp_eq (pc := 29) (tgt := 38) C dX5_openAhead_29 (by decide) (fun c_29 => ?_) (fun c_29 => ?_)
        · refine v_iconst (pc := 38) (v := 1) C dX5_openAhead_38 (by decide) ?_
          refine v_goto (pc := 39) (tgt := 54) C dX5_openAhead_39 (by decide) ?_
          exact V.lessE (J54  ((1 : Int32)) (by rw [← e_w]; simp [c_29])) ⟨rfl, rfl, rfl, rfl, rfl, rfl, trivial⟩
        · refine v_iload (pc := 32) C dX5_openAhead_32 rfl ?_
          refine v_iconst (pc := 34) (v := 5) C dX5_openAhead_34 (by decide) ?_
          refine v_icmp_ne (pc := 35) (tgt := 42) C dX5_openAhead_35 (by decide) (fun c_35 => ?_) (fun c_35 => ?_)
          · refine v_iload (pc := 42) C dX5_openAhead_42 rfl ?_
            refine v_bipush (pc := 44) (v := 6) C dX5_openAhead_44 (by decide) ?_
            refine v_icmp_ne (pc := 46) (tgt := 53) C dX5_openAhead_46 (by decide) (fun c_46 => ?_) (fun c_46 => ?_)
            · refine v_iconst (pc := 53) (v := 0) C dX5_openAhead_53 (by decide) ?_
              exact V.lessE (J54  ((0 : Int32)) (by rw [← e_w]; simp [c_29, c_35, c_46])) ⟨rfl, rfl, rfl, rfl, rfl, rfl, trivial⟩
            · refine v_iconst (pc := 49) (v := (-1)) C dX5_openAhead_49 (by decide) ?_
              refine v_goto (pc := 50) (tgt := 54) C dX5_openAhead_50 (by decide) ?_
              exact V.lessE (J54  ((-1 : Int32)) (by rw [← e_w]; simp [c_29, c_35, c_46])) ⟨rfl, rfl, rfl, rfl, rfl, rfl, trivial⟩
          · refine v_iconst (pc := 38) (v := 1) C dX5_openAhead_38 (by decide) ?_
            refine v_goto (pc := 39) (tgt := 54) C dX5_openAhead_39 (by decide) ?_
            exact V.lessE (J54  ((1 : Int32)) (by rw [← e_w]; simp [c_29, c_35])) ⟨rfl, rfl, rfl, rfl, rfl, rfl, trivial⟩
  exact V.lessE (L5 (l + 1) (0) ((0 : Int32)) (by omega) (by omega) (rfl)) ⟨rfl, rfl, rfl, rfl, rfl, trivial⟩
