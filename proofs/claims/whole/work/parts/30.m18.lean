/-! the reference: parting -/
theorem sh_l : ∀ n, n < 32 → ((nI n &&& 31).toBitVec.smod 32).toNat = n := by decide +kernel
theorem bt_sh {s q : Nat} (hs : s < 2 ^ 31) (hq : q < 32) : (nI s >>> (nI q &&& 31)) &&& 1 = nI (s / 2 ^ q % 2) := by
  rw [pk_shrN hs _ q (sh_l q hq), pk_andN (Nat.lt_of_le_of_lt (Nat.div_le_self _ _) (by omega)) 1 (by decide)]
/-- the questions of s tell the machines x and y apart -/
def TA (T : Nat → Int32) (s x y k : Nat) : Prop := ∃ q, q < k ∧ s / 2 ^ q % 2 = 1 ∧ ¬ T (7 * q + x) = T (7 * q + y)
theorem TA_s {T : Nat → Int32} {s x y k : Nat} : TA T s x y (k + 1) ↔ TA T s x y k ∨ (s / 2 ^ k % 2 = 1 ∧ ¬ T (7 * k + x) = T (7 * k + y)) := by
  constructor
  · rintro ⟨q, a, b, c⟩
    rcases Nat.lt_or_ge q k with z | z
    · exact Or.inl ⟨q, z, b, c⟩
    · have : q = k := by omega
      subst this; exact Or.inr ⟨b, c⟩
  · rintro (⟨q, a, b, c⟩ | ⟨b, c⟩)
    · exact ⟨q, by omega, b, c⟩
    · exact ⟨k, by omega, b, c⟩
theorem TA_cong {T U : Nat → Int32} {s x y k : Nat} (h : ∀ z, z < 7 * k → T z = U z) (hx : x < 7) (hy : y < 7) : TA T s x y k ↔ TA U s x y k := by
  have e : ∀ q, q < k → T (7 * q + x) = U (7 * q + x) ∧ T (7 * q + y) = U (7 * q + y) := fun q hq => ⟨h _ (by omega), h _ (by omega)⟩
  constructor
  · rintro ⟨q, a, b, c⟩
    exact ⟨q, a, b, by rw [← (e q a).1, ← (e q a).2]; exact c⟩
  · rintro ⟨q, a, b, c⟩
    exact ⟨q, a, b, by rw [(e q a).1, (e q a).2]; exact c⟩
def nP (A : AS) : Nat := if aNq A < 12 then aNq A else 12
theorem nP_le (A : AS) : nP A ≤ 12 ∧ nP A ≤ aNq A := by unfold nP; split <;> omega
noncomputable def tb (A : AS) (z : Nat) : Int32 := ansA A (z / 7) (nI (smN (z % 7)))
theorem tb_at {A : AS} {q m : Nat} (hm : m < 7) : tb A (7 * q + m) = ansA A q (nI (smN m)) := by
  unfold tb
  rw [show (7 * q + m) / 7 = q by omega, show (7 * q + m) % 7 = m by omega]
def popN (s : Nat) : Nat → Nat
  | 0 => 0
  | q + 1 => popN s q + s / 2 ^ q % 2
theorem popN_le (s : Nat) : ∀ q, popN s q ≤ q
  | 0 => Nat.le_refl 0
  | q + 1 => by
    have := popN_le s q
    show popN s q + s / 2 ^ q % 2 ≤ _
    omega
def tells (A : AS) (z : Nat) : Prop := ∀ x y, x < y → y < 7 → TA (tb A) z x y (nP A)
/-- the least size among the sets below s -/
def PB (A : AS) (s : Nat) (r : Int32) : Prop := (r = -5 ∧ ∀ z, z < s → ¬ tells A z) ∨ ∃ z, z < s ∧ tells A z ∧ r = nI (popN z (nP A)) ∧ ∀ w, w < s → tells A w → popN z (nP A) ≤ popN w (nP A)
theorem PB.uniq {A : AS} {s : Nat} {r t : Int32} (h : PB A s r) (g : PB A s t) : r = t := by
  rcases h with ⟨a, b⟩ | ⟨z, a, b, c, d⟩
  · rcases g with ⟨a2, b2⟩ | ⟨z2, a2, b2, c2, d2⟩
    · rw [a, a2]
    · exact absurd b2 (b z2 a2)
  · rcases g with ⟨a2, b2⟩ | ⟨z2, a2, b2, c2, d2⟩
    · exact absurd b (b2 z a)
    · rw [c, c2, Nat.le_antisymm (d z2 a2 b2) (d2 z a b)]
noncomputable def s_parting (A : AS) : Int32 := Classical.epsilon (PB A (2 ^ nP A))
theorem PB.eq {A : AS} {r : Int32} (h : PB A (2 ^ nP A) r) : r = s_parting A := h.uniq (Classical.epsilon_spec (p := PB A (2 ^ nP A)) ⟨r, h⟩)
def cndP (A : AS) (s : Nat) (b : Int32) : Prop := b < 0 ∨ nI (popN s (nP A)) < b
theorem PB_new {A : AS} {s : Nat} {b : Int32} (h : PB A s b) (hc : cndP A s b) (ht : tells A s) : PB A (s + 1) (nI (popN s (nP A))) := by
  refine Or.inr ⟨s, by omega, ht, rfl, fun w hw tw => ?_⟩
  rcases Nat.lt_or_ge w s with z | z
  · rcases h with ⟨-, q⟩ | ⟨y, a, b1, c, d⟩
    · exact absurd tw (q w z)
    · have h1 := d w z tw
      have l1 := popN_le y (nP A)
      have l2 := popN_le s (nP A)
      have hn := (nP_le A).1
      subst c
      rcases hc with c | c
      · exact absurd c (nI_pos (by omega))
      · have := (nI_ltI (by omega) (by omega)).mp c
        omega
  · rw [show w = s by omega]; exact Nat.le_refl _
theorem PB_old {A : AS} {s : Nat} {b : Int32} (h : PB A s b) (hc : ¬ (cndP A s b ∧ tells A s)) : PB A (s + 1) b := by
  rcases h with ⟨e, q⟩ | ⟨y, a, b1, c, d⟩
  · exact Or.inl ⟨e, ext_lt q (fun t => hc ⟨Or.inl (by rw [e]; decide), t⟩)⟩
  · refine Or.inr ⟨y, by omega, b1, c, fun w hw tw => ?_⟩
    rcases Nat.lt_or_ge w s with z | z
    · exact d w z tw
    · have : w = s := by omega
      subst this
      have l1 := popN_le y (nP A)
      have l2 := popN_le w (nP A)
      have hn := (nP_le A).1
      rcases Nat.lt_or_ge (popN w (nP A)) (popN y (nP A)) with u | u
      · exact absurd ⟨Or.inr (by rw [c]; exact nI_lt u (by omega)), tw⟩ hc
      · exact u
/-- pairs told apart so far -/
def PT (A : AS) (C : Prop) (s a b : Nat) : Prop := C ∧ (∀ x y, x < a → x < y → y < 7 → TA (tb A) s x y (nP A)) ∧ ∀ y, a < y → y < b → TA (tb A) s a y (nP A)
theorem PT_0 {A : AS} {C : Prop} {s : Nat} : C ↔ PT A C s 0 (0 + 1) := ⟨fun h => ⟨h, fun x y hx => absurd hx (Nat.not_lt_zero x), fun y h1 h2 => absurd h1 (by omega)⟩, fun h => h.1⟩
theorem PT_b {A : AS} {C : Prop} {s a b : Nat} (hab : a < b) : PT A C s a (b + 1) ↔ PT A C s a b ∧ TA (tb A) s a b (nP A) := by
  refine ⟨fun h => ⟨⟨h.1, h.2.1, fun y h1 h2 => h.2.2 y h1 (by omega)⟩, h.2.2 b hab (by omega)⟩, fun h => ⟨h.1.1, h.1.2.1, fun y h1 h2 => ?_⟩⟩
  rcases Nat.lt_or_ge y b with z | z
  · exact h.1.2.2 y h1 z
  · rw [show y = b by omega]; exact h.2
theorem PT_a {A : AS} {C : Prop} {s a b : Nat} (hb : 7 ≤ b) (hb2 : b ≤ 7) : PT A C s a b ↔ PT A C s (a + 1) (a + 1 + 1) := by
  have : b = 7 := by omega
  subst this
  refine ⟨fun h => ⟨h.1, fun x y h1 h2 h3 => ?_, fun y h1 h2 => absurd h1 (by omega)⟩, fun h => ⟨h.1, fun x y h1 h2 h3 => h.2.1 x y (by omega) h2 h3, fun y h1 h2 => h.2.1 a y (by omega) h1 h2⟩⟩
  rcases Nat.lt_or_ge x a with z | z
  · exact h.2.1 x y z h2 h3
  · rw [show x = a by omega]; exact h.2.2 y (by omega) h3
theorem PT_d {A : AS} {C : Prop} {s a b : Nat} (hb : b ≤ 7) (h : PT A C s (a + 1) (a + 1 + 1)) : PT A C s a b := ⟨h.1, fun x y h1 h2 h3 => h.2.1 x y (by omega) h2 h3, fun y h1 h2 => h.2.1 a y (by omega) h1 (by omega)⟩
theorem PT_7 {A : AS} {C : Prop} {s a b : Nat} (ha : 7 ≤ a) (hb : b ≤ a + 1) : PT A C s a b ↔ C ∧ tells A s := by
  refine ⟨fun h => ⟨h.1, fun x y h2 h3 => h.2.1 x y (by omega) h2 h3⟩, fun h => ⟨h.1, fun x y _ h2 h3 => h.2 x y h2 h3, fun y h1 h2 => absurd h1 (by omega)⟩⟩
theorem PT_t {A : AS} {C : Prop} {s a b : Nat} (hb : b ≤ 7 ∨ b ≤ a + 1) (h : C ∧ tells A s) : PT A C s a b := ⟨h.1, fun x y _ h2 h3 => h.2 x y h2 h3, fun y h1 h2 => h.2 a y h1 (by omega)⟩
theorem sm_z : ∀ m, m < 7 → m = 0 → (0 : Int32) = nI (smN m) := by decide +kernel
theorem sm_p : ∀ m, m < 7 → m ≠ 0 → (1 : Int32) <<< (nI (m - 1) &&& 31) = nI (smN m) := by decide +kernel
theorem sh_12 : ∀ n, n ≤ 12 → (1 : Int32) <<< (nI n &&& 31) = nI (2 ^ n) := by decide +kernel
def Keep5 (S T : MS) : Prop := (∀ k, k ≠ 5 → k ≠ 6 → k ≠ 7 → k ≠ 9 → k ≠ 32 → mA T k = mA S k) ∧ ∀ k, k ≠ 10 → k ≠ 11 → mI T k = mI S k
theorem Keep.five {S T : MS} (h : Keep S T) : Keep5 S T := ⟨fun k a b c d _ => h.1 k a b c d, fun k a b => h.2 k a b⟩
theorem Keep5.trans {S T U : MS} (h : Keep5 S T) (g : Keep5 T U) : Keep5 S U := ⟨fun k a b c d e => (g.1 k a b c d e).trans (h.1 k a b c d e), fun k a b => (g.2 k a b).trans (h.2 k a b)⟩
theorem Keep5_32 {S : MS} {f : Nat → Int32} : Keep5 S (sA S 32 f) := ⟨fun _ _ _ _ _ e => mA_ne e, fun _ _ _ => rfl⟩
theorem MRel_keep5 {A : AS} {S T : MS} (h : MRel A S) (hk : Keep5 S T) : MRel A T := by
  have h1 : Keep S (sA T 32 (mA S 32)) := by
    refine ⟨fun k a b c d => ?_, fun k a b => hk.2 k a b⟩
    by_cases e : k = 32
    · subst e; exact mA_same
    · exact (mA_ne e).trans (hk.1 k a b c d e)
  show MRel A (sA T 32 (mA S 32))
  exact MRel_keep h h1
theorem nar01 {P : Prop} {al : Int32} (h : (al = 1 ∧ P) ∨ (al = 0 ∧ ¬ P)) : narrow .boolean (.int al) = .int al := by
  rcases h with ⟨a, -⟩ | ⟨a, -⟩ <;> rw [a] <;> rfl
def rmX5_tellApart : Room := { frames := 0, cells := 0, slots := 0, locals := 0 }
set_option maxHeartbeats 4000000 in
set_option maxRecDepth 100000 in
theorem kX5_tellApart (G : TG) (o : Nat) (a : Nat → Nat) (S : MS) (s x y n : Nat) (hs : s < 4096) (hx : x < 7) (hy : y < 7) (hn : n ≤ 12) : CT G yX5_tellApart cX5_tellApart 7 (some .boolean) rmX5_tellApart 0 0 [.ref (o), .int (nI (s)), .int (nI (x)), .int (nI (y)), .int (nI (n))] (MW G o a S) (fun S : MS => MW G o a S) (Ri (fun r S' => S' = S ∧ ((r = 1 ∧ TA (mA S 32) s x y n) ∨ (r = 0 ∧ ¬ (TA (mA S 32) s x y n))))) := by
  refine CT.enter (by decide) (Nat.le_of_ble_eq_true rfl) (fun X C hnm => ?_)
  refine V.less [(0, .ref (o)), (1, .int (nI (s))), (2, .int (nI (x))), (3, .int (nI (y))), (4, .int (nI (n)))] ⟨rfl, rfl, rfl, rfl, rfl, trivial⟩ ?_
  generalize hQ : (QX G X (fun S : MS => MW G o a S) (Ri (fun r S' => S' = S ∧ ((r = 1 ∧ TA (mA S 32) s x y n) ∨ (r = 0 ∧ ¬ (TA (mA S 32) s x y n))))) 0 0) = Qq
  refine v_iconst (pc := 0) (v := 0) C dX5_tellApart_0 (by decide) ?_
  refine v_istore (pc := 1) C dX5_tellApart_1 (by decide) ?_
  refine v_iconst (pc := 3) (v := 0) C dX5_tellApart_3 (by decide) ?_
  refine v_istore (pc := 4) C dX5_tellApart_4 (by decide) ?_
  have L6 : ∀ (fu : Nat) (q : Nat) (al : Int32), (n < q + fu) → (q ≤ n) → ((al = 1 ∧ TA (mA S 32) s x y q) ∨ (al = 0 ∧ ¬ (TA (mA S 32) s x y q))) → V G X cX5_tellApart 7 rmX5_tellApart Qq 0 0 6 (lvo [(0, .ref (o)), (1, .int (nI (s))), (2, .int (nI (x))), (3, .int (nI (y))), (4, .int (nI (n))), (5, .int (al)), (6, .int (nI (q)))]) [] (MW G o a S) := by
    intro fu
    induction fu with
    | zero => intro q al hf hq hal; exfalso; omega
    | succ fu ih6 =>
      intro q al hf hq hal
      refine v_iload (pc := 6) C dX5_tellApart_6 rfl ?_
      refine v_iload (pc := 8) C dX5_tellApart_8 rfl ?_
      refine v_icmp_geN (pc := 10) (tgt := 68) C (q) (n) rfl rfl (by omega) (by omega) dX5_tellApart_10 (by decide) (fun c_10 => ?_) (fun c_10 => ?_)
      · refine v_iload (pc := 68) C dX5_tellApart_68 rfl ?_
        subst hQ
        exact v_iret (pc := 70) C dX5_tellApart_70 (nar01 hal) (S) rfl (⟨rfl, by rw [← show q = n by omega]; exact hal⟩)
      · refine v_iload (pc := 13) C dX5_tellApart_13 rfl ?_
        refine v_if_ne (pc := 15) (tgt := 55) C dX5_tellApart_15 (by decide) (fun c_15 => ?_) (fun c_15 => ?_)
        · refine v_iconst (pc := 55) (v := 1) C dX5_tellApart_55 (by decide) ?_
          refine v_goto (pc := 56) (tgt := 60) C dX5_tellApart_56 (by decide) ?_
          refine v_istore (pc := 60) C dX5_tellApart_60 (by decide) ?_
          refine v_iinc1 (pc := 62) C (q) rfl dX5_tellApart_62 rfl ?_
          refine v_goto (pc := 65) (tgt := 6) C dX5_tellApart_65 (by decide) ?_
          exact V.lessE (ih6  (((q) + 1)) ((1 : Int32)) (by omega) (by omega) (Or.inl ⟨rfl, TA_s.mpr (Or.inl (al1 hal c_15))⟩)) ⟨rfl, rfl, rfl, rfl, rfl, rfl, rfl, trivial⟩
        · refine v_iload_n (pc := 18) C dX5_tellApart_18 rfl ?_
          refine v_iload (pc := 19) C dX5_tellApart_19 rfl ?_
          refine v_ishr (pc := 21) C dX5_tellApart_21 ?_
          refine v_iconst (pc := 22) (v := 1) C dX5_tellApart_22 (by decide) ?_
          refine v_iand (pc := 23) C dX5_tellApart_23 ?_
          refine v_cv (y := (nI (s / 2 ^ q % 2))) (bt_sh (by omega) (by omega)) ?_
          refine v_iconst (pc := 24) (v := 1) C dX5_tellApart_24 (by decide) ?_
          refine v_icmp_neN (pc := 25) (tgt := 59) C (s / 2 ^ q % 2) 1 rfl rfl (by omega) (by omega) dX5_tellApart_25 (by decide) (fun c_25 => ?_) (fun c_25 => ?_)
          · refine v_iconst (pc := 59) (v := 0) C dX5_tellApart_59 (by decide) ?_
            refine v_istore (pc := 60) C dX5_tellApart_60 (by decide) ?_
            refine v_iinc1 (pc := 62) C (q) rfl dX5_tellApart_62 rfl ?_
            refine v_goto (pc := 65) (tgt := 6) C dX5_tellApart_65 (by decide) ?_
            exact V.lessE (ih6  (((q) + 1)) ((0 : Int32)) (by omega) (by omega) (Or.inr ⟨rfl, fun z => (TA_s.mp z).elim (al0 hal c_15) (fun z => c_25 z.1)⟩)) ⟨rfl, rfl, rfl, rfl, rfl, rfl, rfl, trivial⟩
          · refine v_aload_n (pc := 28) C dX5_tellApart_28 rfl ?_
            refine v_get (pc := 29) (v := .ref (a 32)) C inX5 0 rfl rfl 32 (by decide) kw3_57 rfl dX5_tellApart_29 ?_
            refine v_bipush (pc := 32) (v := 7) C dX5_tellApart_32 (by decide) ?_
            refine v_iload (pc := 34) C dX5_tellApart_34 rfl ?_
            refine v_imulN (pc := 36) C 7 (q) rfl rfl dX5_tellApart_36 ?_
            refine v_iload_n (pc := 37) C dX5_tellApart_37 rfl ?_
            refine v_iaddN (pc := 38) C (7 * (q)) (x) rfl rfl dX5_tellApart_38 ?_
            refine v_ialdN (pc := 39) (i := ((7 * (q)) + (x))) (f := (mA S 32)) C 25 rfl (by omega) (by decide) dX5_tellApart_39 ?_
            refine v_aload_n (pc := 40) C dX5_tellApart_40 rfl ?_
            refine v_get (pc := 41) (v := .ref (a 32)) C inX5 0 rfl rfl 32 (by decide) kw3_57 rfl dX5_tellApart_41 ?_
            refine v_bipush (pc := 44) (v := 7) C dX5_tellApart_44 (by decide) ?_
            refine v_iload (pc := 46) C dX5_tellApart_46 rfl ?_
            refine v_imulN (pc := 48) C 7 (q) rfl rfl dX5_tellApart_48 ?_
            refine v_iload_n (pc := 49) C dX5_tellApart_49 rfl ?_
            refine v_iaddN (pc := 50) C (7 * (q)) (y) rfl rfl dX5_tellApart_50 ?_
            refine v_ialdN (pc := 51) (i := ((7 * (q)) + (y))) (f := (mA S 32)) C 25 rfl (by omega) (by decide) dX5_tellApart_51 ?_
            refine v_icmp_eq (pc := 52) (tgt := 59) C dX5_tellApart_52 (by decide) (fun c_52 => ?_) (fun c_52 => ?_)
            · refine v_iconst (pc := 59) (v := 0) C dX5_tellApart_59 (by decide) ?_
              refine v_istore (pc := 60) C dX5_tellApart_60 (by decide) ?_
              refine v_iinc1 (pc := 62) C (q) rfl dX5_tellApart_62 rfl ?_
              refine v_goto (pc := 65) (tgt := 6) C dX5_tellApart_65 (by decide) ?_
              exact V.lessE (ih6  (((q) + 1)) ((0 : Int32)) (by omega) (by omega) (Or.inr ⟨rfl, fun z => (TA_s.mp z).elim (al0 hal c_15) (fun z => z.2 c_52)⟩)) ⟨rfl, rfl, rfl, rfl, rfl, rfl, rfl, trivial⟩
            · refine v_iconst (pc := 55) (v := 1) C dX5_tellApart_55 (by decide) ?_
              refine v_goto (pc := 56) (tgt := 60) C dX5_tellApart_56 (by decide) ?_
              refine v_istore (pc := 60) C dX5_tellApart_60 (by decide) ?_
              refine v_iinc1 (pc := 62) C (q) rfl dX5_tellApart_62 rfl ?_
              refine v_goto (pc := 65) (tgt := 6) C dX5_tellApart_65 (by decide) ?_
              exact V.lessE (ih6  (((q) + 1)) ((1 : Int32)) (by omega) (by omega) (Or.inl ⟨rfl, TA_s.mpr (Or.inr ⟨c_25, c_52⟩)⟩)) ⟨rfl, rfl, rfl, rfl, rfl, rfl, rfl, trivial⟩
  exact V.lessE (L6 (n + 1) (0) ((0 : Int32)) (by omega) (by omega) (Or.inr ⟨rfl, fun z => by obtain ⟨q, a, -, -⟩ := z; exact absurd a (Nat.not_lt_zero q)⟩)) ⟨rfl, rfl, rfl, rfl, rfl, rfl, rfl, trivial⟩
def rmX5_parting : Room := { frames := 5, cells := 0, slots := 0, locals := 123 }
set_option maxHeartbeats 4000000 in
set_option maxRecDepth 100000 in
theorem kX5_parting (G : TG) (o : Nat) (a : Nat → Nat) (S : MS) (A : AS) (hI : AInv A) (hM : MRel A S)  : CT G yX5_parting cX5_parting 8 (some .int) rmX5_parting 0 0 [.ref (o)] (MW G o a S) (fun S : MS => MW G o a S) (Ri (fun r S' => r = s_parting A ∧ MRel A S')) := by
  refine CT.enter (by decide) (Nat.le_of_ble_eq_true rfl) (fun X C hnm => ?_)
  refine V.less [(0, .ref (o))] ⟨rfl, trivial⟩ ?_
  generalize hQ : (QX G X (fun S : MS => MW G o a S) (Ri (fun r S' => r = s_parting A ∧ MRel A S')) 0 0) = Qq
  have hnp := hI.1
  have hnq := hI.2.2.2.2.1
  have hnP := nP_le A
  have hp2 := sh_12 (nP A) hnP.1
  have h2n : 2 ^ nP A ≤ 2 ^ 12 := Nat.pow_le_pow_right (by decide) hnP.1
  have h2p := Nat.two_pow_pos (nP A)
  have J18 : V G X cX5_parting 8 rmX5_parting Qq 0 0 18 (lvo [(0, .ref (o))]) [.int (nI (nP A))] (MW G o a S) := by
    skip
    refine v_istore_n (pc := 18) C dX5_parting_18 (by decide) ?_
    refine v_iconst (pc := 19) (v := 0) C dX5_parting_19 (by decide) ?_
    refine v_istore_n (pc := 20) C dX5_parting_20 (by decide) ?_
    have L21 : ∀ (fu : Nat) (q : Nat) (S1 : MS), (nP A < q + fu) → (q ≤ nP A) → (∀ z, z < 7 * q → mA S1 32 z = tb A z) → (Keep5 S S1) → V G X cX5_parting 8 rmX5_parting Qq 0 0 21 (lvo [(0, .ref (o)), (1, .int (nI (nP A))), (2, .int (nI (q)))]) [] (MW G o a S1) := by
      intro fu
      induction fu with
      | zero => intro q S1 hf hq hT hK1; exfalso; omega
      | succ fu ih21 =>
        intro q S1 hf hq hT hK1
        refine v_iload_n (pc := 21) C dX5_parting_21 rfl ?_
        refine v_iload_n (pc := 22) C dX5_parting_22 rfl ?_
        refine v_icmp_geN (pc := 23) (tgt := 75) C (q) (nP A) rfl rfl (by omega) (by omega) dX5_parting_23 (by decide) (fun c_23 => ?_) (fun c_23 => ?_)
        · have hqn : q = nP A := by omega
          have hT1 : ∀ z, z < 7 * nP A → mA S1 32 z = tb A z := by rw [← hqn]; exact hT
          refine v_bipush (pc := 75) (v := (-5)) C dX5_parting_75 (by decide) ?_
          refine v_istore_n (pc := 77) C dX5_parting_77 (by decide) ?_
          refine v_iconst (pc := 78) (v := 0) C dX5_parting_78 (by decide) ?_
          refine v_istore_n (pc := 79) C dX5_parting_79 (by decide) ?_
          have L80 : ∀ (fu : Nat) (s : Nat) (bst : Int32), (2 ^ nP A < s + fu) → (s ≤ 2 ^ nP A) → (PB A s bst) → V G X cX5_parting 8 rmX5_parting Qq 0 0 80 (lvo [(0, .ref (o)), (1, .int (nI (nP A))), (2, .int (bst)), (3, .int (nI (s)))]) [] (MW G o a S1) := by
            intro fu
            induction fu with
            | zero => intro s bst hf hs hB; exfalso; omega
            | succ fu ih80 =>
              intro s bst hf hs hB
              refine v_iload_n (pc := 80) C dX5_parting_80 rfl ?_
              refine v_iconst (pc := 81) (v := 1) C dX5_parting_81 (by decide) ?_
              refine v_iload_n (pc := 82) C dX5_parting_82 rfl ?_
              refine v_ishl (pc := 83) C dX5_parting_83 ?_
              refine v_cv (y := (nI (2 ^ nP A))) (hp2) ?_
              refine v_icmp_geN (pc := 84) (tgt := 208) C (s) (2 ^ nP A) rfl rfl (by omega) (by omega) dX5_parting_84 (by decide) (fun c_84 => ?_) (fun c_84 => ?_)
              · refine v_iload_n (pc := 208) C dX5_parting_208 rfl ?_
                subst hQ
                exact v_iret (pc := 209) C dX5_parting_209 (rfl) (S1) rfl (⟨PB.eq (by rw [show 2 ^ nP A = s by omega]; exact hB), MRel_keep5 hM hK1⟩)
              · refine v_iconst (pc := 87) (v := 0) C dX5_parting_87 (by decide) ?_
                refine v_istore (pc := 88) C dX5_parting_88 (by decide) ?_
                refine v_iconst (pc := 90) (v := 0) C dX5_parting_90 (by decide) ?_
                refine v_istore (pc := 91) C dX5_parting_91 (by decide) ?_
                have L93 : ∀ (fu : Nat) (q : Nat), (nP A < q + fu) → (q ≤ nP A) → V G X cX5_parting 8 rmX5_parting Qq 0 0 93 (lvo [(0, .ref (o)), (1, .int (nI (nP A))), (2, .int (bst)), (3, .int (nI (s))), (4, .int (nI (popN s q))), (5, .int (nI (q)))]) [] (MW G o a S1) := by
                  intro fu
                  induction fu with
                  | zero => intro q hf hq; exfalso; omega
                  | succ fu ih93 =>
                    intro q hf hq
                    have hpo := popN_le s q
                    refine v_iload (pc := 93) C dX5_parting_93 rfl ?_
                    refine v_iload_n (pc := 95) C dX5_parting_95 rfl ?_
                    refine v_icmp_geN (pc := 96) (tgt := 116) C (q) (nP A) rfl rfl (by omega) (by omega) dX5_parting_96 (by decide) (fun c_96 => ?_) (fun c_96 => ?_)
                    · have hqn2 : q = nP A := by omega
                      subst hqn2
                      have J131 : ∀ (al : Int32), ((al = 1 ∧ cndP A s bst) ∨ (al = 0 ∧ ¬ (cndP A s bst))) → V G X cX5_parting 8 rmX5_parting Qq 0 0 131 (lvo [(0, .ref (o)), (1, .int (nI (nP A))), (2, .int (bst)), (3, .int (nI (s))), (4, .int (nI (popN s (nP A)))), (5, .int (nI (nP A)))]) [.int (al)] (MW G o a S1) := by
                        intro al hal0
                        refine v_istore (pc := 131) C dX5_parting_131 (by decide) ?_
                        refine v_iconst (pc := 133) (v := 0) C dX5_parting_133 (by decide) ?_
                        refine v_istore (pc := 134) C dX5_parting_134 (by decide) ?_
                        have L136 : ∀ (fu : Nat) (x : Nat) (al : Int32), (7 < x + fu) → (x ≤ 7) → ((al = 1 ∧ PT A (cndP A s bst) s (x) (x + 1)) ∨ (al = 0 ∧ ¬ (PT A (cndP A s bst) s (x) (x + 1)))) → V G X cX5_parting 8 rmX5_parting Qq 0 0 136 (lvo [(0, .ref (o)), (1, .int (nI (nP A))), (2, .int (bst)), (3, .int (nI (s))), (4, .int (nI (popN s (nP A)))), (5, .int (al)), (6, .int (nI (x)))]) [] (MW G o a S1) := by
                          intro fu
                          induction fu with
                          | zero => intro x al hf hx hal; exfalso; omega
                          | succ fu ih136 =>
                            intro x al hf hx hal
                            refine v_iload (pc := 136) C dX5_parting_136 rfl ?_
                            refine v_bipush (pc := 138) (v := 7) C dX5_parting_138 (by decide) ?_
                            refine v_icmp_geN (pc := 140) (tgt := 190) C (x) 7 rfl rfl (by omega) (by omega) dX5_parting_140 (by decide) (fun c_140 => ?_) (fun c_140 => ?_)
                            · have hfin : (al = 1 ∧ cndP A s bst ∧ tells A s) ∨ (al = 0 ∧ ¬ (cndP A s bst ∧ tells A s)) := alI hal (PT_7 c_140 (Nat.le_refl _))
                              refine v_iload (pc := 190) C dX5_parting_190 rfl ?_
                              refine v_if_eq (pc := 192) (tgt := 200) C dX5_parting_192 (by decide) (fun c_192 => ?_) (fun c_192 => ?_)
                              · refine v_iload_n (pc := 200) C dX5_parting_200 rfl ?_
                                refine v_istore_n (pc := 201) C dX5_parting_201 (by decide) ?_
                                refine v_iinc1 (pc := 202) C (s) rfl dX5_parting_202 rfl ?_
                                refine v_goto (pc := 205) (tgt := 80) C dX5_parting_205 (by decide) ?_
                                exact V.lessE (ih80  (((s) + 1)) ((bst)) (by omega) (by omega) (PB_old hB (al0 hfin c_192))) ⟨rfl, rfl, rfl, rfl, trivial⟩
                              · refine v_iload (pc := 195) C dX5_parting_195 rfl ?_
                                refine v_goto (pc := 197) (tgt := 201) C dX5_parting_197 (by decide) ?_
                                refine v_istore_n (pc := 201) C dX5_parting_201 (by decide) ?_
                                refine v_iinc1 (pc := 202) C (s) rfl dX5_parting_202 rfl ?_
                                refine v_goto (pc := 205) (tgt := 80) C dX5_parting_205 (by decide) ?_
                                exact V.lessE (ih80  (((s) + 1)) ((nI (popN s (nP A)))) (by omega) (by omega) (PB_new hB (al1 hfin c_192).1 (al1 hfin c_192).2)) ⟨rfl, rfl, rfl, rfl, trivial⟩
                            · refine v_iload (pc := 143) C dX5_parting_143 rfl ?_
                              refine v_if_eq (pc := 145) (tgt := 190) C dX5_parting_145 (by decide) (fun c_145 => ?_) (fun c_145 => ?_)
                              · have hfin : (al = 1 ∧ cndP A s bst ∧ tells A s) ∨ (al = 0 ∧ ¬ (cndP A s bst ∧ tells A s)) := Or.inr ⟨c_145, fun z => al0 hal c_145 (PT_t (Or.inr (Nat.le_refl _)) z)⟩
                                refine v_iload (pc := 190) C dX5_parting_190 rfl ?_
                                refine v_if_eq (pc := 192) (tgt := 200) C dX5_parting_192 (by decide) (fun c_192 => ?_) (fun c_192 => ?_)
                                · refine v_iload_n (pc := 200) C dX5_parting_200 rfl ?_
                                  refine v_istore_n (pc := 201) C dX5_parting_201 (by decide) ?_
                                  refine v_iinc1 (pc := 202) C (s) rfl dX5_parting_202 rfl ?_
                                  refine v_goto (pc := 205) (tgt := 80) C dX5_parting_205 (by decide) ?_
                                  exact V.lessE (ih80  (((s) + 1)) ((bst)) (by omega) (by omega) (PB_old hB (al0 hfin c_192))) ⟨rfl, rfl, rfl, rfl, trivial⟩
                                · refine v_iload (pc := 195) C dX5_parting_195 rfl ?_
                                  refine v_goto (pc := 197) (tgt := 201) C dX5_parting_197 (by decide) ?_
                                  refine v_istore_n (pc := 201) C dX5_parting_201 (by decide) ?_
                                  refine v_iinc1 (pc := 202) C (s) rfl dX5_parting_202 rfl ?_
                                  refine v_goto (pc := 205) (tgt := 80) C dX5_parting_205 (by decide) ?_
                                  exact V.lessE (ih80  (((s) + 1)) ((nI (popN s (nP A)))) (by omega) (by omega) (PB_new hB (al1 hfin c_192).1 (al1 hfin c_192).2)) ⟨rfl, rfl, rfl, rfl, trivial⟩
                              · refine v_iload (pc := 148) C dX5_parting_148 rfl ?_
                                refine v_iconst (pc := 150) (v := 1) C dX5_parting_150 (by decide) ?_
                                refine v_iaddN (pc := 151) C (x) 1 rfl rfl dX5_parting_151 ?_
                                refine v_istore (pc := 152) C dX5_parting_152 (by decide) ?_
                                have L154 : ∀ (fu : Nat) (y : Nat) (al2 : Int32), (7 < y + fu) → (y ≤ 7) → (x < y) → ((al2 = 1 ∧ PT A (cndP A s bst) s (x) (y)) ∨ (al2 = 0 ∧ ¬ (PT A (cndP A s bst) s (x) (y)))) → V G X cX5_parting 8 rmX5_parting Qq 0 0 154 (lvo [(0, .ref (o)), (1, .int (nI (nP A))), (2, .int (bst)), (3, .int (nI (s))), (4, .int (nI (popN s (nP A)))), (5, .int (al2)), (6, .int (nI (x))), (7, .int (nI (y)))]) [] (MW G o a S1) := by
                                  intro fu
                                  induction fu with
                                  | zero => intro y al2 hf hy hxy hal2; exfalso; omega
                                  | succ fu ih154 =>
                                    intro y al2 hf hy hxy hal2
                                    refine v_iload (pc := 154) C dX5_parting_154 rfl ?_
                                    refine v_bipush (pc := 156) (v := 7) C dX5_parting_156 (by decide) ?_
                                    refine v_icmp_geN (pc := 158) (tgt := 184) C (y) 7 rfl rfl (by omega) (by omega) dX5_parting_158 (by decide) (fun c_158 => ?_) (fun c_158 => ?_)
                                    · refine v_iinc1 (pc := 184) C (x) rfl dX5_parting_184 rfl ?_
                                      refine v_goto (pc := 187) (tgt := 136) C dX5_parting_187 (by decide) ?_
                                      exact V.lessE (ih136  (((x) + 1)) ((al2)) (by omega) (by omega) (alI hal2 (PT_a c_158 (by omega)))) ⟨rfl, rfl, rfl, rfl, rfl, rfl, rfl, trivial⟩
                                    · refine v_iload (pc := 161) C dX5_parting_161 rfl ?_
                                      refine v_if_eq (pc := 163) (tgt := 184) C dX5_parting_163 (by decide) (fun c_163 => ?_) (fun c_163 => ?_)
                                      · refine v_iinc1 (pc := 184) C (x) rfl dX5_parting_184 rfl ?_
                                        refine v_goto (pc := 187) (tgt := 136) C dX5_parting_187 (by decide) ?_
                                        exact V.lessE (ih136  (((x) + 1)) ((al2)) (by omega) (by omega) (Or.inr ⟨c_163, fun z => al0 hal2 c_163 (PT_d (by omega) z)⟩)) ⟨rfl, rfl, rfl, rfl, rfl, rfl, rfl, trivial⟩
                                      · refine v_aload_n (pc := 166) C dX5_parting_166 rfl ?_
                                        refine v_iload_n (pc := 167) C dX5_parting_167 rfl ?_
                                        refine v_iload (pc := 168) C dX5_parting_168 rfl ?_
                                        refine v_iload (pc := 170) C dX5_parting_170 rfl ?_
                                        refine v_iload_n (pc := 172) C dX5_parting_172 rfl ?_
                                        refine v_callV0 (pc := 173) (st := []) (q0 := 0) C (kX5_tellApart G o a S1 s x y (nP A) (by omega) (by omega) (by omega) (by omega)) ykX5_tellApart cvX5_tellApart kw4_50 dX5_parting_173 rfl rfl rfl rfl rfl (by decide) (Nat.le_of_ble_eq_true rfl) (by decide) rfl (Ri_kk (fun r_173 u_173 h_173 => ?_))
                                        obtain ⟨e_173, h_173⟩ := h_173
                                        rw [e_173]
                                        have h_173 := alI h_173 (TA_cong (x := x) (y := y) (s := s) hT1 (by omega) (by omega))
                                        refine v_istore (pc := 176) C dX5_parting_176 (by decide) ?_
                                        refine v_iinc1 (pc := 178) C (y) rfl dX5_parting_178 rfl ?_
                                        refine v_goto (pc := 181) (tgt := 154) C dX5_parting_181 (by decide) ?_
                                        exact V.lessE (ih154  (((y) + 1)) ((r_173)) (by omega) (by omega) (by omega) (alI h_173 ⟨fun z => (PT_b hxy).mpr ⟨al1 hal2 c_163, z⟩, fun z => ((PT_b hxy).mp z).2⟩)) ⟨rfl, rfl, rfl, rfl, rfl, rfl, rfl, rfl, trivial⟩
                                exact V.lessE (L154 (8) (((x) + 1)) ((al)) (by omega) (by omega) (by omega) (hal)) ⟨rfl, rfl, rfl, rfl, rfl, rfl, rfl, rfl, trivial⟩
                        exact V.lessE (L136 (8) (0) ((al)) (by omega) (by omega) (alI hal0 PT_0)) ⟨rfl, rfl, rfl, rfl, rfl, rfl, rfl, trivial⟩
                      refine v_iload_n (pc := 116) C dX5_parting_116 rfl ?_
                      refine v_if_lt (pc := 117) (tgt := 126) C dX5_parting_117 (by decide) (fun c_117 => ?_) (fun c_117 => ?_)
                      · refine v_iconst (pc := 126) (v := 1) C dX5_parting_126 (by decide) ?_
                        refine v_goto (pc := 127) (tgt := 131) C dX5_parting_127 (by decide) ?_
                        exact V.lessE (J131  ((1 : Int32)) (Or.inl ⟨rfl, Or.inl c_117⟩)) ⟨rfl, rfl, rfl, rfl, rfl, rfl, trivial⟩
                      · refine v_iload (pc := 120) C dX5_parting_120 rfl ?_
                        refine v_iload_n (pc := 122) C dX5_parting_122 rfl ?_
                        refine v_icmp_ge (pc := 123) (tgt := 130) C dX5_parting_123 (by decide) (fun c_123 => ?_) (fun c_123 => ?_)
                        · refine v_iconst (pc := 130) (v := 0) C dX5_parting_130 (by decide) ?_
                          exact V.lessE (J131  ((0 : Int32)) (Or.inr ⟨rfl, fun z => z.elim c_117 (fun y => Int32.not_lt.mpr c_123 y)⟩)) ⟨rfl, rfl, rfl, rfl, rfl, rfl, trivial⟩
                        · refine v_iconst (pc := 126) (v := 1) C dX5_parting_126 (by decide) ?_
                          refine v_goto (pc := 127) (tgt := 131) C dX5_parting_127 (by decide) ?_
                          exact V.lessE (J131  ((1 : Int32)) (Or.inl ⟨rfl, Or.inr (Int32.not_le.mp c_123)⟩)) ⟨rfl, rfl, rfl, rfl, rfl, rfl, trivial⟩
                    · refine v_iload (pc := 99) C dX5_parting_99 rfl ?_
                      refine v_iload_n (pc := 101) C dX5_parting_101 rfl ?_
                      refine v_iload (pc := 102) C dX5_parting_102 rfl ?_
                      refine v_ishr (pc := 104) C dX5_parting_104 ?_
                      refine v_iconst (pc := 105) (v := 1) C dX5_parting_105 (by decide) ?_
                      refine v_iand (pc := 106) C dX5_parting_106 ?_
                      refine v_cv (y := (nI (s / 2 ^ q % 2))) (bt_sh (by omega) (by omega)) ?_
                      refine v_iaddN (pc := 107) C (popN s q) (s / 2 ^ q % 2) rfl rfl dX5_parting_107 ?_
                      refine v_istore (pc := 108) C dX5_parting_108 (by decide) ?_
                      refine v_iinc1 (pc := 110) C (q) rfl dX5_parting_110 rfl ?_
                      refine v_goto (pc := 113) (tgt := 93) C dX5_parting_113 (by decide) ?_
                      exact V.lessE (ih93  (((q) + 1)) (by omega) (by omega)) ⟨rfl, rfl, rfl, rfl, rfl, rfl, trivial⟩
                exact V.lessE (L93 (nP A + 1) (0) (by omega) (by omega)) ⟨rfl, rfl, rfl, rfl, rfl, rfl, trivial⟩
          exact V.lessE (L80 (2 ^ nP A + 1) (0) ((-5 : Int32)) (by omega) (by omega) (Or.inl ⟨rfl, fun z hz => absurd hz (Nat.not_lt_zero z)⟩)) ⟨rfl, rfl, rfl, rfl, trivial⟩
        · refine v_iconst (pc := 26) (v := 0) C dX5_parting_26 (by decide) ?_
          refine v_istore_n (pc := 27) C dX5_parting_27 (by decide) ?_
          have L28 : ∀ (fu : Nat) (m : Nat) (S2 : MS), (7 < m + fu) → (m ≤ 7) → (∀ z, z < 7 * q + m → mA S2 32 z = tb A z) → (Keep5 S S2) → V G X cX5_parting 8 rmX5_parting Qq 0 0 28 (lvo [(0, .ref (o)), (1, .int (nI (nP A))), (2, .int (nI (q))), (3, .int (nI (m)))]) [] (MW G o a S2) := by
            intro fu
            induction fu with
            | zero => intro m S2 hf hm hT2 hK2; exfalso; omega
            | succ fu ih28 =>
              intro m S2 hf hm hT2 hK2
              have hM2 := MRel_keep5 hM hK2
              refine v_iload_n (pc := 28) C dX5_parting_28 rfl ?_
              refine v_bipush (pc := 29) (v := 7) C dX5_parting_29 (by decide) ?_
              refine v_icmp_geN (pc := 31) (tgt := 69) C (m) 7 rfl rfl (by omega) (by omega) dX5_parting_31 (by decide) (fun c_31 => ?_) (fun c_31 => ?_)
              · refine v_iinc1 (pc := 69) C (q) rfl dX5_parting_69 rfl ?_
                refine v_goto (pc := 72) (tgt := 21) C dX5_parting_72 (by decide) ?_
                exact V.lessE (ih21  (((q) + 1)) (S2) (by omega) (by omega) (fun z hz => hT2 z (by omega)) (hK2)) ⟨rfl, rfl, rfl, trivial⟩
              · refine v_aload_n (pc := 34) C dX5_parting_34 rfl ?_
                refine v_get (pc := 35) (v := .ref (a 32)) C inX5 0 rfl rfl 32 (by decide) kw3_57 rfl dX5_parting_35 ?_
                refine v_bipush (pc := 38) (v := 7) C dX5_parting_38 (by decide) ?_
                refine v_iload_n (pc := 40) C dX5_parting_40 rfl ?_
                refine v_imulN (pc := 41) C 7 (q) rfl rfl dX5_parting_41 ?_
                refine v_iload_n (pc := 42) C dX5_parting_42 rfl ?_
                refine v_iaddN (pc := 43) C (7 * (q)) (m) rfl rfl dX5_parting_43 ?_
                refine v_aload_n (pc := 44) C dX5_parting_44 rfl ?_
                refine v_iload_n (pc := 45) C dX5_parting_45 rfl ?_
                refine v_iload_n (pc := 46) C dX5_parting_46 rfl ?_
                have J59 : V G X cX5_parting 8 rmX5_parting Qq 0 0 59 (lvo [(0, .ref (o)), (1, .int (nI (nP A))), (2, .int (nI (q))), (3, .int (nI (m)))]) [.int (nI (smN m)), .int (nI (q)), .ref (o), .int (nI ((7 * (q)) + (m))), .ref (a 32)] (MW G o a S2) := by
                  skip
                  refine v_callV0 (pc := 59) (st := [.int (nI ((7 * (q)) + (m))), .ref (a 32)]) (q0 := 0) C (kX5_answerOf G o a S2 A hI hM2 q (by omega) (nI (smN m))) ykX5_answerOf cvX5_answerOf kw3_216 dX5_parting_59 rfl rfl rfl rfl rfl (by decide) (Nat.le_of_ble_eq_true rfl) (by decide) rfl (Ri_kk (fun r_59 u_59 h_59 => ?_))
                  obtain ⟨er, hK3⟩ := h_59
                  refine v_iastN (pc := 62) (i := ((7 * (q)) + (m))) (f := (mA u_59 32)) C 25 rfl (by omega) (by decide) dX5_parting_62 (ws' := (MW G o a (sA u_59 32 (upd ((mA u_59 32)) ((7 * (q)) + (m)) (r_59))))) rfl ?_
                  refine v_iinc1 (pc := 63) C (m) rfl dX5_parting_63 rfl ?_
                  refine v_goto (pc := 66) (tgt := 28) C dX5_parting_66 (by decide) ?_
                  exact V.lessE (ih28  (((m) + 1)) ((sA u_59 32 (upd ((mA u_59 32)) ((7 * (q)) + (m)) (r_59)))) (by omega) (by omega) (upd_in (fun z hz => by rw [hK3.1 32 (by decide) (by decide) (by decide) (by decide)]; exact hT2 z hz) (er.trans (tb_at (by omega)).symm)) ((hK2.trans hK3.five).trans Keep5_32)) ⟨rfl, rfl, rfl, rfl, trivial⟩
                refine v_if_neN (pc := 47) (tgt := 54) C (m) rfl (by omega) dX5_parting_47 (by decide) (fun c_47 => ?_) (fun c_47 => ?_)
                · refine v_iconst (pc := 54) (v := 1) C dX5_parting_54 (by decide) ?_
                  refine v_iload_n (pc := 55) C dX5_parting_55 rfl ?_
                  refine v_iconst (pc := 56) (v := 1) C dX5_parting_56 (by decide) ?_
                  refine v_isubN (pc := 57) C (m) 1 rfl rfl (by omega) dX5_parting_57 ?_
                  refine v_ishl (pc := 58) C dX5_parting_58 ?_
                  refine v_cv (y := (nI (smN m))) (sm_p m (by omega) c_47) ?_
                  exact V.lessE (J59   ) ⟨rfl, rfl, rfl, rfl, trivial⟩
                · refine v_iconst (pc := 50) (v := 0) C dX5_parting_50 (by decide) ?_
                  refine v_cv (y := (nI (smN m))) (sm_z m (by omega) c_47) ?_
                  refine v_goto (pc := 51) (tgt := 59) C dX5_parting_51 (by decide) ?_
                  exact V.lessE (J59   ) ⟨rfl, rfl, rfl, rfl, trivial⟩
          exact V.lessE (L28 (8) (0) (S1) (by omega) (by omega) (fun z hz => hT z (by omega)) (hK1)) ⟨rfl, rfl, rfl, rfl, trivial⟩
    exact V.lessE (L21 (nP A + 1) (0) (S) (by omega) (by omega) (fun z hz => absurd hz (by omega)) ((Keep.refl S).five)) ⟨rfl, rfl, rfl, trivial⟩
  refine v_aload_n (pc := 0) C dX5_parting_0 rfl ?_
  refine v_get (pc := 1) (v := .int (mI S 19)) C inX5 0 rfl rfl 19 (by decide) kw3_44 rfl dX5_parting_1 ?_
  refine v_cv (y := (nI (aNq A))) (hM.2.2.2.1) ?_
  refine v_bipush (pc := 4) (v := 12) C dX5_parting_4 (by decide) ?_
  refine v_icmp_geN (pc := 6) (tgt := 16) C (aNq A) 12 rfl rfl (by omega) (by omega) dX5_parting_6 (by decide) (fun c_6 => ?_) (fun c_6 => ?_)
  · refine v_bipush (pc := 16) (v := 12) C dX5_parting_16 (by decide) ?_
    refine v_cv (y := (nI (nP A))) (by unfold nP; rw [if_neg (by omega)]; rfl) ?_
    exact V.lessE (J18   ) ⟨rfl, trivial⟩
  · refine v_aload_n (pc := 9) C dX5_parting_9 rfl ?_
    refine v_get (pc := 10) (v := .int (mI S 19)) C inX5 0 rfl rfl 19 (by decide) kw3_44 rfl dX5_parting_10 ?_
    refine v_cv (y := (nI (nP A))) (by rw [hM.2.2.2.1]; unfold nP; rw [if_pos c_6]) ?_
    refine v_goto (pc := 13) (tgt := 18) C dX5_parting_13 (by decide) ?_
    exact V.lessE (J18   ) ⟨rfl, trivial⟩
