/-! the desk: pools of programs, questions, pupils; costs -/
def PLd (G : TG) (n : Nat) (pa : Nat → Nat) (pb : Nat → Nat → Nat) (Ps : Nat → MS) : va_W := pool n (fun i => PWd G (pa i) (pb i) (Ps i))
def PLx (G : TG) (n : Nat) (pa : Nat → Nat) (pb : Nat → Nat → Nat) (Ps : Nat → MS) (i : Nat) : va_W := poolx n i (fun i => PWd G (pa i) (pb i) (Ps i))
theorem PL_focus {G : TG} {n : Nat} {pa : Nat → Nat} {pb : Nat → Nat → Nat} {Ps : Nat → MS} {i : Nat} (h : i < n) : (PLd G n pa pb Ps).Perm (PLx G n pa pb Ps i ++ PWd G (pa i) (pb i) (Ps i)) := pool_focus _ h
theorem PL_same {G : TG} {n : Nat} {pa : Nat → Nat} {pb : Nat → Nat → Nat} {Ps : Nat → MS} {i : Nat} (h : i < n) : (PLx G n pa pb Ps i ++ PWd G (pa i) (pb i) (Ps i)).Perm (PLd G n pa pb Ps) := (PL_focus h).symm
theorem PL_back {G : TG} {n : Nat} {pa : Nat → Nat} {pb : Nat → Nat → Nat} {Ps : Nat → MS} {i : Nat} (h : i < n) (T : MS) : (PLx G n pa pb Ps i ++ PWd G (pa i) (pb i) T).Perm (PLd G n pa pb (va_up Ps i T)) := by
  have h1 := pool_back (n := n) (i := i) (f := fun i => PWd G (pa i) (pb i) (Ps i)) (g := fun k => PWd G (pa k) (pb k) (va_up Ps i T k)) h (fun j _ hj => by show _ = PWd G (pa j) (pb j) (va_up Ps i T j); rw [va_up_ne _ _ hj])
  rw [va_up_self] at h1
  exact h1
def ULd (G : TG) (n : Nat) (pa : Nat → Nat) (pb : Nat → Nat → Nat) (Ps : Nat → MS) : va_W := pool n (fun i => UWd G (pa i) (pb i) (Ps i))
def ULx (G : TG) (n : Nat) (pa : Nat → Nat) (pb : Nat → Nat → Nat) (Ps : Nat → MS) (i : Nat) : va_W := poolx n i (fun i => UWd G (pa i) (pb i) (Ps i))
theorem UL_focus {G : TG} {n : Nat} {pa : Nat → Nat} {pb : Nat → Nat → Nat} {Ps : Nat → MS} {i : Nat} (h : i < n) : (ULd G n pa pb Ps).Perm (ULx G n pa pb Ps i ++ UWd G (pa i) (pb i) (Ps i)) := pool_focus _ h
theorem UL_same {G : TG} {n : Nat} {pa : Nat → Nat} {pb : Nat → Nat → Nat} {Ps : Nat → MS} {i : Nat} (h : i < n) : (ULx G n pa pb Ps i ++ UWd G (pa i) (pb i) (Ps i)).Perm (ULd G n pa pb Ps) := (UL_focus h).symm
theorem UL_back {G : TG} {n : Nat} {pa : Nat → Nat} {pb : Nat → Nat → Nat} {Ps : Nat → MS} {i : Nat} (h : i < n) (T : MS) : (ULx G n pa pb Ps i ++ UWd G (pa i) (pb i) T).Perm (ULd G n pa pb (va_up Ps i T)) := by
  have h1 := pool_back (n := n) (i := i) (f := fun i => UWd G (pa i) (pb i) (Ps i)) (g := fun k => UWd G (pa k) (pb k) (va_up Ps i T k)) h (fun j _ hj => by show _ = UWd G (pa j) (pb j) (va_up Ps i T j); rw [va_up_ne _ _ hj])
  rw [va_up_self] at h1
  exact h1
def QLd (G : TG) (n : Nat) (pa : Nat → Nat) (pb : Nat → Nat → Nat) (pr : Nat → Nat) (Ps : Nat → MS) : va_W := pool n (fun i => QWd G (pa i) (pb i) (pr i) (Ps i))
def QLx (G : TG) (n : Nat) (pa : Nat → Nat) (pb : Nat → Nat → Nat) (pr : Nat → Nat) (Ps : Nat → MS) (i : Nat) : va_W := poolx n i (fun i => QWd G (pa i) (pb i) (pr i) (Ps i))
theorem QL_focus {G : TG} {n : Nat} {pa : Nat → Nat} {pb : Nat → Nat → Nat} {pr : Nat → Nat} {Ps : Nat → MS} {i : Nat} (h : i < n) : (QLd G n pa pb pr Ps).Perm (QLx G n pa pb pr Ps i ++ QWd G (pa i) (pb i) (pr i) (Ps i)) := pool_focus _ h
theorem QL_same {G : TG} {n : Nat} {pa : Nat → Nat} {pb : Nat → Nat → Nat} {pr : Nat → Nat} {Ps : Nat → MS} {i : Nat} (h : i < n) : (QLx G n pa pb pr Ps i ++ QWd G (pa i) (pb i) (pr i) (Ps i)).Perm (QLd G n pa pb pr Ps) := (QL_focus h).symm
theorem QL_back {G : TG} {n : Nat} {pa : Nat → Nat} {pb : Nat → Nat → Nat} {pr : Nat → Nat} {Ps : Nat → MS} {i : Nat} (h : i < n) (T : MS) : (QLx G n pa pb pr Ps i ++ QWd G (pa i) (pb i) (pr i) T).Perm (QLd G n pa pb pr (va_up Ps i T)) := by
  have h1 := pool_back (n := n) (i := i) (f := fun i => QWd G (pa i) (pb i) (pr i) (Ps i)) (g := fun k => QWd G (pa k) (pb k) (pr k) (va_up Ps i T k)) h (fun j _ hj => by show _ = QWd G (pa j) (pb j) (pr j) (va_up Ps i T j); rw [va_up_ne _ _ hj])
  rw [va_up_self] at h1
  exact h1
def qZ (A : AS) (j : Nat) : MS := ((fun k => if k = 1 then nI (aQi A j) else if k = 2 then nI (aQk A j) else nI (aQw A j)), (fun _ _ => 0), (fun _ => 0))
def QAll (A : AS) (Ps Zs : Nat → MS) : Prop := ∀ j, j < aNq A → QOK (fun m => ansA A j (nI m)) (qZ A j) (Ps (aQp A j)) (Zs j)
theorem QAll_up {A : AS} {Ps Zs : Nat → MS} {j : Nat} {Z : MS} (h : QAll A Ps Zs) (hZ : QOK (fun m => ansA A j (nI m)) (qZ A j) (Ps (aQp A j)) Z) : QAll A Ps (va_up Zs j Z) := by
  intro i hi
  by_cases e : i = j
  · subst e; rw [va_up_self]; exact hZ
  · rw [va_up_ne _ _ e]; exact h i hi
/-- a pupil as the desk holds it -/
def URel (A : AS) (u : Nat) (U : MS) : Prop := (∀ q, q < 60 → (aG A u q = none ∧ ¬ lb (mL U 1) q = true) ∨ ∃ v, aG A u q = some v ∧ lb (mL U 1) q = true ∧ mA U 0 q = v) ∧ ∀ q, 60 ≤ q → q < 64 → lb (mL U 1) q = false
/-- the desk's own numbers that costs need -/
def SRel (A : AS) (S : MS) : Prop := mI S 11 = nI (aNp A) ∧ mI S 12 = nI (aNq A) ∧ ∀ k, k < 7 → mA S 3 k = nI (aP A k)
theorem ug_none {A : AS} {u q m : Nat} {U : MS} (h : URel A u U) (hq : q < 60) (hb : ¬ lb (mL U 1) q = true) : gsN A u m q = 0 := by
  rcases h.1 q hq with ⟨a, -⟩ | ⟨v, -, b, -⟩
  · unfold gsN; rw [a]
  · exact absurd b hb
theorem ug_some {A : AS} {u q m : Nat} {U : MS} (h : URel A u U) (hq : q < 60) (hb : lb (mL U 1) q = true) : gsN A u m q = if ansA A q (nI m) = mA U 0 q then 0 else aP A 6 := by
  rcases h.1 q hq with ⟨-, b⟩ | ⟨v, a, -, c⟩
  · exact absurd hb b
  · unfold gsN; rw [a]; show (if _ = v then 0 else _) = _; rw [c]
theorem pop_bc : ∀ m, m < 64 → popN m 16 = bcN m := by decide +kernel
/-- the sets found so far, as bits -/
def fsP (A : AS) (u : Nat) (Λ : Int64) (l : Nat) (m : Nat) : Prop := bl Λ m = (fsK A u m).2 ∧ (∀ b, b < 64 → m ≤ b → lb Λ b = false) ∧ ((fsK A u m).2 = [] → l = 1000000) ∧ (¬ (fsK A u m).2 = [] → l = (fsK A u m).1)
theorem bl_or {Λ : Int64} {κ : Nat} (hκ : κ < 64) : bl (Λ ||| (1 : Int64) <<< ((nI κ).toInt64 &&& 63)) (κ + 1) = bl Λ κ ++ [κ] := by
  have h1 : lb (Λ ||| (1 : Int64) <<< ((nI κ).toInt64 &&& 63)) κ = true := by rw [lb_or hκ, decide_eq_true rfl, Bool.or_true]
  rw [bl_yes h1]
  congr 1
  refine bl_cong κ (fun j hj => ?_)
  rw [lb_or hκ, decide_eq_false (by omega), Bool.or_false]
theorem or_hi {Λ : Int64} {κ : Nat} (hκ : κ < 64) (h : ∀ b, b < 64 → κ ≤ b → lb Λ b = false) : ∀ b, b < 64 → κ + 1 ≤ b → lb (Λ ||| (1 : Int64) <<< ((nI κ).toInt64 &&& 63)) b = false := by
  intro b hb hk
  rw [lb_or hκ, h b hb (by omega), decide_eq_false (by omega)]; rfl
theorem lb_0 : ∀ b, b < 64 → lb 0 b = false := by decide +kernel
theorem bl_0 : ∀ n, n ≤ 64 → bl 0 n = []
  | 0, _ => rfl
  | n + 1, h => by rw [bl_no (by rw [lb_0 n (by omega)]; decide)]; exact bl_0 n (by omega)
theorem bl_skip {Λ : Int64} {κ : Nat} (h : lb Λ κ = false) : bl Λ (κ + 1) = bl Λ κ := bl_no (by rw [h]; decide)
theorem fs_skip {A : AS} {u l m : Nat} {Λ : Int64} (h : fsP A u Λ l m) (hm : m < 64) (hb : 2 < bcN m) : fsP A u Λ l (m + 1) := by
  unfold fsP
  rw [fsK_skip hb, bl_skip (h.2.1 m hm (Nat.le_refl m))]
  exact ⟨h.1, fun b h1 h2 => h.2.1 b h1 (by omega), h.2.2⟩
theorem fs_less {A : AS} {u l m : Nat} {Λ : Int64} (hI : AInv A) (h : fsP A u Λ l m) : costN A u m < l ↔ ((fsK A u m).2 = [] ∨ costN A u m < (fsK A u m).1) := by
  have hc := costN_lt hI (u := u) (m := m)
  by_cases e : (fsK A u m).2 = []
  · rw [h.2.2.1 e]; exact ⟨fun _ => Or.inl e, fun _ => by omega⟩
  · rw [h.2.2.2 e]; exact ⟨Or.inr, fun z => z.elim (fun y => absurd y e) id⟩
theorem fs_new {A : AS} {u l m : Nat} {Λ : Int64} (hI : AInv A) (h : fsP A u Λ l m) (hm : m < 64) (hb : ¬ 2 < bcN m) (hc : costN A u m < l) : fsP A u ((0 : Int64) ||| (1 : Int64) <<< ((nI m).toInt64 &&& 63)) (costN A u m) (m + 1) := by
  unfold fsP
  rw [fsK_new hb ((fs_less hI h).mp hc), bl_or hm, bl_0 m (by omega)]
  exact ⟨rfl, or_hi hm (fun b hb _ => lb_0 b hb), fun z => absurd z (by simp), fun _ => rfl⟩
theorem fs_add {A : AS} {u l m : Nat} {Λ : Int64} (hI : AInv A) (h : fsP A u Λ l m) (hm : m < 64) (hb : ¬ 2 < bcN m) (hc : ¬ costN A u m < l) (he : costN A u m = l) : fsP A u (Λ ||| (1 : Int64) <<< ((nI m).toInt64 &&& 63)) l (m + 1) := by
  have hn : ¬ ((fsK A u m).2 = [] ∨ costN A u m < (fsK A u m).1) := fun z => hc ((fs_less hI h).mpr z)
  have hne : ¬ (fsK A u m).2 = [] := fun z => hn (Or.inl z)
  have hl := h.2.2.2 hne
  unfold fsP
  rw [fsK_add hb hn (he.trans hl), bl_or hm, h.1]
  exact ⟨rfl, or_hi hm h.2.1, fun z => absurd z (by simp), fun _ => hl⟩
theorem fs_no {A : AS} {u l m : Nat} {Λ : Int64} (hI : AInv A) (h : fsP A u Λ l m) (hm : m < 64) (hb : ¬ 2 < bcN m) (hc : ¬ costN A u m < l) (he : ¬ costN A u m = l) : fsP A u Λ l (m + 1) := by
  have hn : ¬ ((fsK A u m).2 = [] ∨ costN A u m < (fsK A u m).1) := fun z => hc ((fs_less hI h).mpr z)
  have hne : ¬ (fsK A u m).2 = [] := fun z => hn (Or.inl z)
  unfold fsP
  rw [fsK_no hb hn (fun z => he (z.trans (h.2.2.2 hne).symm)), bl_skip (h.2.1 m hm (Nat.le_refl m))]
  exact ⟨h.1, fun b h1 h2 => h.2.1 b h1 (by omega), h.2.2⟩
def rmX4_costOf : Room := { frames := 4, cells := 0, slots := 0, locals := 94 }
set_option maxHeartbeats 4000000 in
set_option maxRecDepth 100000 in
theorem kX4_costOf (G : TG) (o μ : Nat) (a f d : Nat → Nat) (RP RQ RU : Nat → Option Nat) (S K U : MS) (pa qa : Nat → Nat) (pb qb : Nat → Nat → Nat) (Ps Zs : Nat → MS) (A : AS) (hI : AInv A) (hA : QAll A Ps Zs) (hS : SRel A S) (hRQ : ∀ j, j < aNq A → RQ j = some (qa j)) (u : Nat) (hU : URel A u U) (m : Nat) (hm : m < 64) : CT G yX4_costOf cX4_costOf 5 (some .int) rmX4_costOf 0 0 [.ref (o), .ref (μ), .int (nI (m))] (CWd G o a RP RQ RU S ++ (KWd G (a 5) f K ++ (UWd G μ d U ++ (PLd G (aNp A) pa pb Ps ++ (QLd G (aNq A) qa qb (fun j => pa (aQp A j)) Zs))))) (fun u : MS × (Nat → MS) => CWd G o a RP RQ RU S ++ (KWd G (a 5) f u.1 ++ (UWd G μ d U ++ (PLd G (aNp A) pa pb Ps ++ QLd G (aNq A) qa qb (fun j => pa (aQp A j)) u.2)))) (Ri (fun r t => r = nI (costN A u m) ∧ QAll A Ps t.2)) := by
  refine CT.enter (by decide) (Nat.le_of_ble_eq_true rfl) (fun X C hnm => ?_)
  refine V.less [(0, .ref (o)), (1, .ref (μ)), (2, .int (nI (m)))] ⟨rfl, rfl, rfl, trivial⟩ ?_
  generalize hQ : (QX G X (fun u : MS × (Nat → MS) => CWd G o a RP RQ RU S ++ (KWd G (a 5) f u.1 ++ (UWd G μ d U ++ (PLd G (aNp A) pa pb Ps ++ QLd G (aNq A) qa qb (fun j => pa (aQp A j)) u.2)))) (Ri (fun r t => r = nI (costN A u m) ∧ QAll A Ps t.2)) 0 0) = Qq
  have hnp := hI.1
  have hnq := hI.2.2.2.2.1
  refine v_iconst (pc := 0) (v := 0) C dX4_costOf_0 (by decide) ?_
  refine v_istore_n (pc := 1) C dX4_costOf_1 (by decide) ?_
  refine v_iconst (pc := 2) (v := 0) C dX4_costOf_2 (by decide) ?_
  refine v_istore (pc := 3) C dX4_costOf_3 (by decide) ?_
  have L5 : ∀ (fu : Nat) (κ : Nat) (x : Nat), (6 < κ + fu) → (κ ≤ 6) → (x = slipN A m κ) → V G X cX4_costOf 5 rmX4_costOf Qq 0 0 5 (lvo [(0, .ref (o)), (1, .ref (μ)), (2, .int (nI (m))), (3, .int (nI (x))), (4, .int (nI (κ)))]) [] (CWd G o a RP RQ RU S ++ (KWd G (a 5) f K ++ (UWd G μ d U ++ (PLd G (aNp A) pa pb Ps ++ (QLd G (aNq A) qa qb (fun j => pa (aQp A j)) Zs))))) := by
    intro fu
    induction fu with
    | zero => intro κ x hφ hκ hx; exfalso; omega
    | succ fu ih5 =>
      intro κ x hφ hκ hx
      refine v_iload (pc := 5) C dX4_costOf_5 rfl ?_
      refine v_bipush (pc := 7) (v := 6) C dX4_costOf_7 (by decide) ?_
      refine v_icmp_geN (pc := 9) (tgt := 38) C (κ) 6 rfl rfl (by omega) (by omega) dX4_costOf_9 (by decide) (fun c_9 => ?_) (fun c_9 => ?_)
      · refine v_iconst (pc := 38) (v := 0) C dX4_costOf_38 (by decide) ?_
        refine v_istore (pc := 39) C dX4_costOf_39 (by decide) ?_
        have L41 : ∀ (fu : Nat) (q : Nat) (x : Nat) (K1 : MS) (Zs1 : Nat → MS), (aNq A < q + fu) → (q ≤ aNq A) → (x = costK A u m q) → (QAll A Ps Zs1) → V G X cX4_costOf 5 rmX4_costOf Qq 0 0 41 (lvo [(0, .ref (o)), (1, .ref (μ)), (2, .int (nI (m))), (3, .int (nI (x))), (4, .int (nI (q)))]) [] (CWd G o a RP RQ RU S ++ (KWd G (a 5) f K1 ++ (UWd G μ d U ++ (PLd G (aNp A) pa pb Ps ++ (QLd G (aNq A) qa qb (fun j => pa (aQp A j)) Zs1))))) := by
          intro fu
          induction fu with
          | zero => intro q x K1 Zs1 hψ hq hx hA1; exfalso; omega
          | succ fu ih41 =>
            intro q x K1 Zs1 hψ hq hx hA1
            refine v_iload (pc := 41) C dX4_costOf_41 rfl ?_
            refine v_aload_n (pc := 43) C dX4_costOf_43 rfl ?_
            refine v_get (pc := 44) (v := .int (mI S 12)) C inX4 0 rfl rfl 12 (by decide) kw1_94 rfl dX4_costOf_44 ?_
            refine v_cv (y := (nI (aNq A))) (hS.2.1) ?_
            refine v_icmp_geN (pc := 47) (tgt := 97) C (q) (aNq A) rfl rfl (by omega) (by omega) dX4_costOf_47 (by decide) (fun c_47 => ?_) (fun c_47 => ?_)
            · refine v_iload_n (pc := 97) C dX4_costOf_97 rfl ?_
              subst hQ
              exact v_iret (pc := 98) C dX4_costOf_98 (rfl) ((K1, Zs1)) rfl (⟨by rw [hx, show q = aNq A by omega]; rfl, hA1⟩)
            · refine v_aload_n (pc := 50) C dX4_costOf_50 rfl ?_
              refine v_iload (pc := 51) C dX4_costOf_51 rfl ?_
              refine V.perm (ws' := (CWd G o a RP RQ RU S ++ (KWd G (a 5) f K1 ++ (PLd G (aNp A) pa pb Ps ++ (QLd G (aNq A) qa qb (fun j => pa (aQp A j)) Zs1 ++ (UWd G μ d U)))))) ((List.Perm.append_left _ (List.Perm.append_left _ (List.perm_append_comm))).trans (List.Perm.of_eq (by simp only [List.append_assoc]))) ?_
              refine V.same (ws' := (CWd G o a RP RQ RU S ++ (KWd G (a 5) f K1 ++ (PLd G (aNp A) pa pb Ps ++ (QLd G (aNq A) qa qb (fun j => pa (aQp A j)) Zs1)))) ++ (UWd G μ d U)) (by simp only [List.append_assoc]) ?_
              refine v_callVN (pc := 53) (st := []) (q0 := 0) (wr := (CWd G o a RP RQ RU S ++ (KWd G (a 5) f K1 ++ (PLd G (aNp A) pa pb Ps ++ (QLd G (aNq A) qa qb (fun j => pa (aQp A j)) Zs1))))) C (kX2_hasAnswered G μ d U q (by omega)) ykX2_hasAnswered cvX2_hasAnswered nw_39 dX4_costOf_53 rfl rfl rfl rfl rfl (by decide) (Nat.le_of_ble_eq_true rfl) (by decide) rfl (Ri_kk (fun r_53 u_53 h_53 => ?_))
              obtain ⟨e_53, h_53⟩ := h_53
              rw [e_53]
              refine V.same (ws' := (CWd G o a RP RQ RU S ++ (KWd G (a 5) f K1 ++ (PLd G (aNp A) pa pb Ps ++ (QLd G (aNq A) qa qb (fun j => pa (aQp A j)) Zs1 ++ (UWd G μ d U)))))) (by simp only [List.append_assoc]) ?_
              refine V.perm (ws' := (CWd G o a RP RQ RU S ++ (KWd G (a 5) f K1 ++ (QLd G (aNq A) qa qb (fun j => pa (aQp A j)) Zs1 ++ (UWd G μ d U ++ (PLd G (aNp A) pa pb Ps)))))) ((List.Perm.append_left _ (List.Perm.append_left _ (List.perm_append_comm))).trans (List.Perm.of_eq (by simp only [List.append_assoc]))) ?_
              refine V.perm (ws' := (CWd G o a RP RQ RU S ++ (KWd G (a 5) f K1 ++ (UWd G μ d U ++ (PLd G (aNp A) pa pb Ps ++ (QLd G (aNq A) qa qb (fun j => pa (aQp A j)) Zs1)))))) ((List.Perm.append_left _ (List.Perm.append_left _ (List.perm_append_comm))).trans (List.Perm.of_eq (by simp only [List.append_assoc]))) ?_
              rcases (if01 h_53) with ⟨q_53, rfl⟩ | ⟨q_53, rfl⟩
              · refine v_if_eqT (pc := 56) (tgt := 91) C (by decide) dX4_costOf_56 (by decide) ?_
                refine v_iinc1 (pc := 91) C (q) rfl dX4_costOf_91 rfl ?_
                refine v_goto (pc := 94) (tgt := 41) C dX4_costOf_94 (by decide) ?_
                exact V.lessE (ih41  (((q) + 1)) ((x)) (K1) (Zs1) (by omega) (by omega) (by show _ = costK A u m q + gsN A u m q; rw [ug_none hU (by omega) q_53]; exact hx) (hA1)) ⟨rfl, rfl, rfl, rfl, rfl, trivial⟩
              · refine v_if_eqF (pc := 56) (tgt := 91) C (by decide) dX4_costOf_56 (by decide) ?_
                refine v_aload_n (pc := 59) C dX4_costOf_59 rfl ?_
                refine v_getN (pc := 60) (v := .ref (d 0)) C inX2 15 rfl rfl 0 (by decide) nw_7 rfl dX4_costOf_60 ?_
                refine v_iload (pc := 63) C dX4_costOf_63 rfl ?_
                refine v_ialdN (pc := 65) (i := (q)) (f := (mA U 0)) C 16 rfl (by omega) (by decide) dX4_costOf_65 ?_
                refine v_aload_n (pc := 66) C dX4_costOf_66 rfl ?_
                refine v_aload_n (pc := 67) C dX4_costOf_67 rfl ?_
                refine v_get (pc := 68) (v := .ref (a 1)) C inX4 0 rfl rfl 1 (by decide) kw1_83 rfl dX4_costOf_68 ?_
                refine v_iload (pc := 71) C dX4_costOf_71 rfl ?_
                refine v_aald (pc := 73) (i := (q)) C 2 4 rfl rfl (by omega) (by decide) dX4_costOf_73 ?_
                refine v_rfs (hRQ q (by omega)) ?_
                refine v_iload_n (pc := 74) C dX4_costOf_74 rfl ?_
                refine V.perm (ws' := (CWd G o a RP RQ RU S ++ (KWd G (a 5) f K1 ++ (UWd G μ d U ++ (PLx G (aNp A) pa pb Ps (aQp A q) ++ (PWd G (pa (aQp A q)) (pb (aQp A q)) (Ps (aQp A q)) ++ (QLd G (aNq A) qa qb (fun j => pa (aQp A j)) Zs1))))))) ((List.Perm.append_left _ (List.Perm.append_left _ (List.Perm.append_left _ (List.Perm.append_right _ (PL_focus (hI.2.2.2.2.2.1 q (by omega)).1))))).trans (List.Perm.of_eq (by simp only [List.append_assoc]))) ?_
                refine V.perm (ws' := (CWd G o a RP RQ RU S ++ (KWd G (a 5) f K1 ++ (UWd G μ d U ++ (PLx G (aNp A) pa pb Ps (aQp A q) ++ (PWd G (pa (aQp A q)) (pb (aQp A q)) (Ps (aQp A q)) ++ (QLx G (aNq A) qa qb (fun j => pa (aQp A j)) Zs1 q ++ (QWd G (qa q) (qb q) (pa (aQp A q)) (Zs1 q))))))))) ((List.Perm.append_left _ (List.Perm.append_left _ (List.Perm.append_left _ (List.Perm.append_left _ (List.Perm.append_left _ (QL_focus (by omega))))))).trans (List.Perm.of_eq (by simp only [List.append_assoc]))) ?_
                refine V.perm (ws' := (KWd G (a 5) f K1 ++ (UWd G μ d U ++ (PLx G (aNp A) pa pb Ps (aQp A q) ++ (PWd G (pa (aQp A q)) (pb (aQp A q)) (Ps (aQp A q)) ++ (QLx G (aNq A) qa qb (fun j => pa (aQp A j)) Zs1 q ++ (QWd G (qa q) (qb q) (pa (aQp A q)) (Zs1 q) ++ (CWd G o a RP RQ RU S)))))))) ((List.perm_append_comm).trans (List.Perm.of_eq (by simp only [List.append_assoc]))) ?_
                refine V.perm (ws' := (UWd G μ d U ++ (PLx G (aNp A) pa pb Ps (aQp A q) ++ (PWd G (pa (aQp A q)) (pb (aQp A q)) (Ps (aQp A q)) ++ (QLx G (aNq A) qa qb (fun j => pa (aQp A j)) Zs1 q ++ (QWd G (qa q) (qb q) (pa (aQp A q)) (Zs1 q) ++ (CWd G o a RP RQ RU S ++ (KWd G (a 5) f K1)))))))) ((List.perm_append_comm).trans (List.Perm.of_eq (by simp only [List.append_assoc]))) ?_
                refine V.perm (ws' := (UWd G μ d U ++ (PLx G (aNp A) pa pb Ps (aQp A q) ++ (QLx G (aNq A) qa qb (fun j => pa (aQp A j)) Zs1 q ++ (QWd G (qa q) (qb q) (pa (aQp A q)) (Zs1 q) ++ (CWd G o a RP RQ RU S ++ (KWd G (a 5) f K1 ++ (PWd G (pa (aQp A q)) (pb (aQp A q)) (Ps (aQp A q)))))))))) ((List.Perm.append_left _ (List.Perm.append_left _ (List.perm_append_comm))).trans (List.Perm.of_eq (by simp only [List.append_assoc]))) ?_
                refine V.perm (ws' := (UWd G μ d U ++ (PLx G (aNp A) pa pb Ps (aQp A q) ++ (QLx G (aNq A) qa qb (fun j => pa (aQp A j)) Zs1 q ++ (CWd G o a RP RQ RU S ++ (KWd G (a 5) f K1 ++ (PWd G (pa (aQp A q)) (pb (aQp A q)) (Ps (aQp A q)) ++ (QWd G (qa q) (qb q) (pa (aQp A q)) (Zs1 q))))))))) ((List.Perm.append_left _ (List.Perm.append_left _ (List.Perm.append_left _ (List.perm_append_comm)))).trans (List.Perm.of_eq (by simp only [List.append_assoc]))) ?_
                refine V.same (ws' := (UWd G μ d U ++ (PLx G (aNp A) pa pb Ps (aQp A q) ++ (QLx G (aNq A) qa qb (fun j => pa (aQp A j)) Zs1 q))) ++ (CWd G o a RP RQ RU S ++ (KWd G (a 5) f K1 ++ (PWd G (pa (aQp A q)) (pb (aQp A q)) (Ps (aQp A q)) ++ (QWd G (qa q) (qb q) (pa (aQp A q)) (Zs1 q)))))) (by simp only [List.append_assoc]) ?_
                refine v_callV (pc := 75) (st := [.int ((mA U 0) (q))]) (q0 := 0) (wr := (UWd G μ d U ++ (PLx G (aNp A) pa pb Ps (aQp A q) ++ (QLx G (aNq A) qa qb (fun j => pa (aQp A j)) Zs1 q)))) C (kX4_answerBy G o (pa (aQp A q)) (qa q) a f (pb (aQp A q)) (qb q) RP RQ RU S K1 (Ps (aQp A q)) (Zs1 q) (fun m => ansA A q (nI m)) (qZ A q) (hA1 q (by omega)) (m) hm) ykX4_answerBy cvX4_answerBy kw2_92 dX4_costOf_75 rfl rfl rfl rfl rfl (by decide) (Nat.le_of_ble_eq_true rfl) (by decide) rfl (Ri_kk (fun r_75 u_75 h_75 => ?_))
                obtain ⟨er_75, eS_75, hQ_75⟩ := h_75
                have er_75 : r_75 = ansA A q (nI (m)) := er_75
                subst er_75
                rw [eS_75]
                refine V.same (ws' := (UWd G μ d U ++ (PLx G (aNp A) pa pb Ps (aQp A q) ++ (QLx G (aNq A) qa qb (fun j => pa (aQp A j)) Zs1 q ++ (CWd G o a RP RQ RU S ++ (KWd G (a 5) f u_75.2.1 ++ (PWd G (pa (aQp A q)) (pb (aQp A q)) (Ps (aQp A q)) ++ (QWd G (qa q) (qb q) (pa (aQp A q)) u_75.2.2)))))))) (by simp only [List.append_assoc]) ?_
                refine V.perm (ws' := (PLx G (aNp A) pa pb Ps (aQp A q) ++ (QLx G (aNq A) qa qb (fun j => pa (aQp A j)) Zs1 q ++ (CWd G o a RP RQ RU S ++ (KWd G (a 5) f u_75.2.1 ++ (PWd G (pa (aQp A q)) (pb (aQp A q)) (Ps (aQp A q)) ++ (QWd G (qa q) (qb q) (pa (aQp A q)) u_75.2.2 ++ (UWd G μ d U)))))))) ((List.perm_append_comm).trans (List.Perm.of_eq (by simp only [List.append_assoc]))) ?_
                refine V.perm (ws' := (QLx G (aNq A) qa qb (fun j => pa (aQp A j)) Zs1 q ++ (CWd G o a RP RQ RU S ++ (KWd G (a 5) f u_75.2.1 ++ (PWd G (pa (aQp A q)) (pb (aQp A q)) (Ps (aQp A q)) ++ (QWd G (qa q) (qb q) (pa (aQp A q)) u_75.2.2 ++ (UWd G μ d U ++ (PLx G (aNp A) pa pb Ps (aQp A q))))))))) ((List.perm_append_comm).trans (List.Perm.of_eq (by simp only [List.append_assoc]))) ?_
                refine V.perm (ws' := (QLx G (aNq A) qa qb (fun j => pa (aQp A j)) Zs1 q ++ (CWd G o a RP RQ RU S ++ (KWd G (a 5) f u_75.2.1 ++ (QWd G (qa q) (qb q) (pa (aQp A q)) u_75.2.2 ++ (UWd G μ d U ++ (PLx G (aNp A) pa pb Ps (aQp A q) ++ (PWd G (pa (aQp A q)) (pb (aQp A q)) (Ps (aQp A q)))))))))) ((List.Perm.append_left _ (List.Perm.append_left _ (List.Perm.append_left _ (List.perm_append_comm)))).trans (List.Perm.of_eq (by simp only [List.append_assoc]))) ?_
                refine V.perm (ws' := (CWd G o a RP RQ RU S ++ (KWd G (a 5) f u_75.2.1 ++ (QWd G (qa q) (qb q) (pa (aQp A q)) u_75.2.2 ++ (UWd G μ d U ++ (PLx G (aNp A) pa pb Ps (aQp A q) ++ (PWd G (pa (aQp A q)) (pb (aQp A q)) (Ps (aQp A q)) ++ (QLx G (aNq A) qa qb (fun j => pa (aQp A j)) Zs1 q)))))))) ((List.perm_append_comm).trans (List.Perm.of_eq (by simp only [List.append_assoc]))) ?_
                refine V.perm (ws' := (CWd G o a RP RQ RU S ++ (KWd G (a 5) f u_75.2.1 ++ (UWd G μ d U ++ (PLx G (aNp A) pa pb Ps (aQp A q) ++ (PWd G (pa (aQp A q)) (pb (aQp A q)) (Ps (aQp A q)) ++ (QLx G (aNq A) qa qb (fun j => pa (aQp A j)) Zs1 q ++ (QWd G (qa q) (qb q) (pa (aQp A q)) u_75.2.2)))))))) ((List.Perm.append_left _ (List.Perm.append_left _ (List.perm_append_comm))).trans (List.Perm.of_eq (by simp only [List.append_assoc]))) ?_
                refine V.perm (ws' := (CWd G o a RP RQ RU S ++ (KWd G (a 5) f u_75.2.1 ++ (UWd G μ d U ++ (PLx G (aNp A) pa pb Ps (aQp A q) ++ (PWd G (pa (aQp A q)) (pb (aQp A q)) (Ps (aQp A q)) ++ (QLd G (aNq A) qa qb (fun j => pa (aQp A j)) (va_up Zs1 q u_75.2.2)))))))) (List.Perm.append_left _ (List.Perm.append_left _ (List.Perm.append_left _ (List.Perm.append_left _ (List.Perm.append_left _ (QL_back (by omega) u_75.2.2)))))) ?_
                refine V.perm (ws' := (CWd G o a RP RQ RU S ++ (KWd G (a 5) f u_75.2.1 ++ (UWd G μ d U ++ (PLd G (aNp A) pa pb Ps ++ (QLd G (aNq A) qa qb (fun j => pa (aQp A j)) (va_up Zs1 q u_75.2.2))))))) (List.Perm.append_left _ (List.Perm.append_left _ (List.Perm.append_left _ ((List.Perm.of_eq (List.append_assoc _ _ _).symm).trans (List.Perm.append_right _ (PL_same (hI.2.2.2.2.2.1 q (by omega)).1)))))) ?_
                refine v_icmp_eq (pc := 78) (tgt := 91) C dX4_costOf_78 (by decide) (fun c_78 => ?_) (fun c_78 => ?_)
                · refine v_iinc1 (pc := 91) C (q) rfl dX4_costOf_91 rfl ?_
                  refine v_goto (pc := 94) (tgt := 41) C dX4_costOf_94 (by decide) ?_
                  exact V.lessE (ih41  (((q) + 1)) ((x)) (u_75.2.1) ((va_up Zs1 q u_75.2.2)) (by omega) (by omega) (by show _ = costK A u m q + gsN A u m q; rw [ug_some hU (by omega) q_53, if_pos c_78.symm]; exact hx) (QAll_up hA1 hQ_75)) ⟨rfl, rfl, rfl, rfl, rfl, trivial⟩
                · refine v_iload_n (pc := 81) C dX4_costOf_81 rfl ?_
                  refine v_aload_n (pc := 82) C dX4_costOf_82 rfl ?_
                  refine v_get (pc := 83) (v := .ref (a 3)) C inX4 0 rfl rfl 3 (by decide) kw1_85 rfl dX4_costOf_83 ?_
                  refine v_bipush (pc := 86) (v := 6) C dX4_costOf_86 (by decide) ?_
                  refine v_ialdN (pc := 88) (i := 6) (f := (mA S 3)) C 4 rfl (by omega) (by decide) dX4_costOf_88 ?_
                  refine v_cv (y := (nI (aP A 6))) (hS.2.2 6 (by omega)) ?_
                  refine v_iaddN (pc := 89) C (x) (aP A 6) rfl rfl dX4_costOf_89 ?_
                  refine v_istore_n (pc := 90) C dX4_costOf_90 (by decide) ?_
                  refine v_iinc1 (pc := 91) C (q) rfl dX4_costOf_91 rfl ?_
                  refine v_goto (pc := 94) (tgt := 41) C dX4_costOf_94 (by decide) ?_
                  exact V.lessE (ih41  (((q) + 1)) (((x) + (aP A 6))) (u_75.2.1) ((va_up Zs1 q u_75.2.2)) (by omega) (by omega) (by show _ = costK A u m q + gsN A u m q; rw [ug_some hU (by omega) q_53, if_neg (fun z => c_78 z.symm), hx]) (QAll_up hA1 hQ_75)) ⟨rfl, rfl, rfl, rfl, rfl, trivial⟩
        exact V.lessE (L41 (aNq A + 1) (0) ((x)) (K) (Zs) (by omega) (by omega) (by rw [hx, show κ = 6 by omega]; rfl) (hA)) ⟨rfl, rfl, rfl, rfl, rfl, trivial⟩
      · refine v_iload_n (pc := 12) C dX4_costOf_12 rfl ?_
        refine v_i2l (pc := 13) C dX4_costOf_13 ?_
        refine v_iload (pc := 14) C dX4_costOf_14 rfl ?_
        refine v_callS0 (pc := 16) (st := []) C (kX4_hasBit G _ ((nI m).toInt64) (κ) (by omega)) ykX4_hasBit kw2_101 kw2_144 dX4_costOf_16 rfl rfl rfl (by decide) (Nat.le_of_ble_eq_true rfl) (by decide) rfl (Ri_kk (fun r_16 u_16 h_16 => ?_))
        rcases (if01 h_16) with ⟨q_16, rfl⟩ | ⟨q_16, rfl⟩
        · refine v_if_eqT (pc := 19) (tgt := 32) C (by decide) dX4_costOf_19 (by decide) ?_
          refine v_iinc1 (pc := 32) C (κ) rfl dX4_costOf_32 rfl ?_
          refine v_goto (pc := 35) (tgt := 5) C dX4_costOf_35 (by decide) ?_
          exact V.lessE (ih5  (((κ) + 1)) ((x)) (by omega) (by omega) (by show _ = slipN A m κ + m / 2 ^ κ % 2 * aP A κ; rw [show m / 2 ^ κ % 2 = 0 by have hz : ¬ m / 2 ^ κ % 2 = 1 := fun z => q_16 ((lb_i2l (by omega) κ).mpr z); omega, Nat.zero_mul]; exact hx)) ⟨rfl, rfl, rfl, rfl, rfl, trivial⟩
        · refine v_if_eqF (pc := 19) (tgt := 32) C (by decide) dX4_costOf_19 (by decide) ?_
          refine v_iload_n (pc := 22) C dX4_costOf_22 rfl ?_
          refine v_aload_n (pc := 23) C dX4_costOf_23 rfl ?_
          refine v_get (pc := 24) (v := .ref (a 3)) C inX4 0 rfl rfl 3 (by decide) kw1_85 rfl dX4_costOf_24 ?_
          refine v_iload (pc := 27) C dX4_costOf_27 rfl ?_
          refine v_ialdN (pc := 29) (i := (κ)) (f := (mA S 3)) C 4 rfl (by omega) (by decide) dX4_costOf_29 ?_
          refine v_cv (y := (nI (aP A κ))) (hS.2.2 κ (by omega)) ?_
          refine v_iaddN (pc := 30) C (x) (aP A κ) rfl rfl dX4_costOf_30 ?_
          refine v_istore_n (pc := 31) C dX4_costOf_31 (by decide) ?_
          refine v_iinc1 (pc := 32) C (κ) rfl dX4_costOf_32 rfl ?_
          refine v_goto (pc := 35) (tgt := 5) C dX4_costOf_35 (by decide) ?_
          exact V.lessE (ih5  (((κ) + 1)) (((x) + (aP A κ))) (by omega) (by omega) (by show _ = slipN A m κ + m / 2 ^ κ % 2 * aP A κ; rw [(lb_i2l (by omega) κ).mp q_16, Nat.one_mul, hx])) ⟨rfl, rfl, rfl, rfl, rfl, trivial⟩
  exact V.lessE (L5 (7) (0) (0) (by omega) (by omega) (rfl)) ⟨rfl, rfl, rfl, rfl, rfl, trivial⟩
def rmX4_findSets : Room := { frames := 5, cells := 0, slots := 0, locals := 118 }
set_option maxHeartbeats 4000000 in
set_option maxRecDepth 100000 in
theorem kX4_findSets (G : TG) (o μ : Nat) (a f d : Nat → Nat) (RP RQ RU : Nat → Option Nat) (S K U : MS) (pa qa : Nat → Nat) (pb qb : Nat → Nat → Nat) (Ps Zs : Nat → MS) (A : AS) (hI : AInv A) (hA : QAll A Ps Zs) (hS : SRel A S) (hRQ : ∀ j, j < aNq A → RQ j = some (qa j)) (u : Nat) (hU : URel A u U)  : CT G yX4_findSets cX4_findSets 7 (some .long) rmX4_findSets 0 0 [.ref (o), .ref (μ)] (CWd G o a RP RQ RU S ++ (KWd G (a 5) f K ++ (UWd G μ d U ++ (PLd G (aNp A) pa pb Ps ++ (QLd G (aNq A) qa qb (fun j => pa (aQp A j)) Zs))))) (fun u : MS × (Nat → MS) => CWd G o a RP RQ RU S ++ (KWd G (a 5) f u.1 ++ (UWd G μ d U ++ (PLd G (aNp A) pa pb Ps ++ QLd G (aNq A) qa qb (fun j => pa (aQp A j)) u.2)))) (Rl (fun r t => bl r 64 = setL A u ∧ QAll A Ps t.2)) := by
  refine CT.enter (by decide) (Nat.le_of_ble_eq_true rfl) (fun X C hnm => ?_)
  refine V.less [(0, .ref (o)), (1, .ref (μ))] ⟨rfl, rfl, trivial⟩ ?_
  generalize hQ : (QX G X (fun u : MS × (Nat → MS) => CWd G o a RP RQ RU S ++ (KWd G (a 5) f u.1 ++ (UWd G μ d U ++ (PLd G (aNp A) pa pb Ps ++ QLd G (aNq A) qa qb (fun j => pa (aQp A j)) u.2)))) (Rl (fun r t => bl r 64 = setL A u ∧ QAll A Ps t.2)) 0 0) = Qq
  have hnp := hI.1
  have hnq := hI.2.2.2.2.1
  refine v_lconst (pc := 0) (v := 0) C dX4_findSets_0 (by decide) ?_
  refine v_lstore_n (pc := 1) C dX4_findSets_1 (by decide) ?_
  refine v_ldcw (pc := 2) C dX4_findSets_2 kw2_219 ?_
  refine v_istore (pc := 5) C dX4_findSets_5 (by decide) ?_
  refine v_iconst (pc := 7) (v := 0) C dX4_findSets_7 (by decide) ?_
  refine v_istore (pc := 8) C dX4_findSets_8 (by decide) ?_
  have L10 : ∀ (fu : Nat) (κ : Nat) (Λ : Int64) (l : Nat) (K1 : MS) (Zs1 : Nat → MS), (64 < κ + fu) → (κ ≤ 64) → (l ≤ 1000000) → (fsP A u Λ l κ) → (QAll A Ps Zs1) → V G X cX4_findSets 7 rmX4_findSets Qq 0 0 10 (lvo [(0, .ref (o)), (1, .ref (μ)), (2, .long (Λ)), (4, .int (nI (l))), (5, .int (nI (κ)))]) [] (CWd G o a RP RQ RU S ++ (KWd G (a 5) f K1 ++ (UWd G μ d U ++ (PLd G (aNp A) pa pb Ps ++ (QLd G (aNq A) qa qb (fun j => pa (aQp A j)) Zs1))))) := by
    intro fu
    induction fu with
    | zero => intro κ Λ l K1 Zs1 hφ hκ hl2 hfs hA1; exfalso; omega
    | succ fu ih10 =>
      intro κ Λ l K1 Zs1 hφ hκ hl2 hfs hA1
      refine v_iload (pc := 10) C dX4_findSets_10 rfl ?_
      refine v_bipush (pc := 12) (v := 64) C dX4_findSets_12 (by decide) ?_
      refine v_icmp_geN (pc := 14) (tgt := 68) C (κ) 64 rfl rfl (by omega) (by omega) dX4_findSets_14 (by decide) (fun c_14 => ?_) (fun c_14 => ?_)
      · have hκ4 : κ = 64 := by omega
        subst hκ4
        refine v_lload_n (pc := 68) C dX4_findSets_68 rfl ?_
        subst hQ
        exact v_lret (pc := 69) C dX4_findSets_69 ((K1, Zs1)) rfl (⟨hfs.1, hA1⟩)
      · refine v_iload (pc := 17) C dX4_findSets_17 rfl ?_
        refine v_callS0 (pc := 19) (st := []) C (kJ6_bitCount G _ κ (by omega)) ykJ6_bitCount_0f7a4 kw2_197 kw2_196 dX4_findSets_19 rfl rfl rfl (by decide) (Nat.le_of_ble_eq_true rfl) (by decide) rfl (Ri_kk (fun r_19 u_19 h_19 => ?_))
        rw [pop_bc κ (by omega)] at h_19
        subst h_19
        have hbc := bcN_le κ (by omega)
        refine v_iconst (pc := 22) (v := 2) C dX4_findSets_22 (by decide) ?_
        refine v_icmp_gtN (pc := 23) (tgt := 62) C (bcN κ) 2 rfl rfl (by omega) (by omega) dX4_findSets_23 (by decide) (fun c_23 => ?_) (fun c_23 => ?_)
        · refine v_iinc1 (pc := 62) C (κ) rfl dX4_findSets_62 rfl ?_
          refine v_goto (pc := 65) (tgt := 10) C dX4_findSets_65 (by decide) ?_
          exact V.lessE (ih10  (((κ) + 1)) (Λ) ((l)) (K1) (Zs1) (by omega) (by omega) (hl2) (fs_skip hfs (by omega) c_23) (hA1)) ⟨rfl, rfl, rfl, rfl, rfl, trivial⟩
        · refine v_aload_n (pc := 26) C dX4_findSets_26 rfl ?_
          refine v_aload_n (pc := 27) C dX4_findSets_27 rfl ?_
          refine v_iload (pc := 28) C dX4_findSets_28 rfl ?_
          refine v_callV0 (pc := 30) (st := []) (q0 := 0) C (kX4_costOf G o μ a f d RP RQ RU S K1 U pa qa pb qb Ps Zs1 A hI hA1 hS hRQ u hU κ (by omega)) ykX4_costOf cvX4_costOf kw2_202 dX4_findSets_30 rfl rfl rfl rfl rfl (by decide) (Nat.le_of_ble_eq_true rfl) (by decide) rfl (Ri_kk (fun r_30 u_30 h_30 => ?_))
          obtain ⟨er_30, hA_30⟩ := h_30
          subst er_30
          have hcl := costN_lt hI (u := u) (m := κ)
          refine V.same (ws' := (CWd G o a RP RQ RU S ++ (KWd G (a 5) f u_30.1 ++ (UWd G μ d U ++ (PLd G (aNp A) pa pb Ps ++ (QLd G (aNq A) qa qb (fun j => pa (aQp A j)) u_30.2)))))) rfl ?_
          refine v_istore (pc := 33) C dX4_findSets_33 (by decide) ?_
          refine v_iload (pc := 35) C dX4_findSets_35 rfl ?_
          refine v_iload (pc := 37) C dX4_findSets_37 rfl ?_
          refine v_icmp_geN (pc := 39) (tgt := 48) C (costN A u κ) (l) rfl rfl (by omega) (by omega) dX4_findSets_39 (by decide) (fun c_39 => ?_) (fun c_39 => ?_)
          · refine v_iload (pc := 48) C dX4_findSets_48 rfl ?_
            refine v_iload (pc := 50) C dX4_findSets_50 rfl ?_
            refine v_icmp_neN (pc := 52) (tgt := 62) C (costN A u κ) (l) rfl rfl (by omega) (by omega) dX4_findSets_52 (by decide) (fun c_52 => ?_) (fun c_52 => ?_)
            · refine v_iinc1 (pc := 62) C (κ) rfl dX4_findSets_62 rfl ?_
              refine v_goto (pc := 65) (tgt := 10) C dX4_findSets_65 (by decide) ?_
              exact V.lessE (ih10  (((κ) + 1)) (Λ) ((l)) (u_30.1) (u_30.2) (by omega) (by omega) (hl2) (fs_no hI hfs (by omega) (by omega) (by omega) c_52) (hA_30)) ⟨rfl, rfl, rfl, rfl, rfl, trivial⟩
            · refine v_lload_n (pc := 55) C dX4_findSets_55 rfl ?_
              refine v_lconst (pc := 56) (v := 1) C dX4_findSets_56 (by decide) ?_
              refine v_iload (pc := 57) C dX4_findSets_57 rfl ?_
              refine v_lshl (pc := 59) C dX4_findSets_59 ?_
              refine v_lor (pc := 60) C dX4_findSets_60 ?_
              refine v_lstore_n (pc := 61) C dX4_findSets_61 (by decide) ?_
              refine v_iinc1 (pc := 62) C (κ) rfl dX4_findSets_62 rfl ?_
              refine v_goto (pc := 65) (tgt := 10) C dX4_findSets_65 (by decide) ?_
              exact V.lessE (ih10  (((κ) + 1)) ((Λ) ||| (((1 : Int64)) <<< ((nI (κ)).toInt64 &&& 63))) ((l)) (u_30.1) (u_30.2) (by omega) (by omega) (hl2) (fs_add hI hfs (by omega) (by omega) (by omega) c_52) (hA_30)) ⟨rfl, rfl, rfl, rfl, rfl, trivial⟩
          · refine v_iload (pc := 42) C dX4_findSets_42 rfl ?_
            refine v_istore (pc := 44) C dX4_findSets_44 (by decide) ?_
            refine v_lconst (pc := 46) (v := 0) C dX4_findSets_46 (by decide) ?_
            refine v_lstore_n (pc := 47) C dX4_findSets_47 (by decide) ?_
            refine v_iload (pc := 48) C dX4_findSets_48 rfl ?_
            refine v_iload (pc := 50) C dX4_findSets_50 rfl ?_
            refine v_icmp_neN (pc := 52) (tgt := 62) C (costN A u κ) (costN A u κ) rfl rfl (by omega) (by omega) dX4_findSets_52 (by decide) (fun c_52 => ?_) (fun c_52 => ?_)
            · exact absurd rfl c_52
            · refine v_lload_n (pc := 55) C dX4_findSets_55 rfl ?_
              refine v_lconst (pc := 56) (v := 1) C dX4_findSets_56 (by decide) ?_
              refine v_iload (pc := 57) C dX4_findSets_57 rfl ?_
              refine v_lshl (pc := 59) C dX4_findSets_59 ?_
              refine v_lor (pc := 60) C dX4_findSets_60 ?_
              refine v_lstore_n (pc := 61) C dX4_findSets_61 (by decide) ?_
              refine v_iinc1 (pc := 62) C (κ) rfl dX4_findSets_62 rfl ?_
              refine v_goto (pc := 65) (tgt := 10) C dX4_findSets_65 (by decide) ?_
              exact V.lessE (ih10  (((κ) + 1)) (((0 : Int64)) ||| (((1 : Int64)) <<< ((nI (κ)).toInt64 &&& 63))) ((costN A u κ)) (u_30.1) (u_30.2) (by omega) (by omega) (by omega) (fs_new hI hfs (by omega) (by omega) c_39) (hA_30)) ⟨rfl, rfl, rfl, rfl, rfl, trivial⟩
  exact V.lessE (L10 (65) (0) ((0 : Int64)) (1000000) (K) (Zs) (by omega) (by omega) (by omega) (⟨rfl, fun b hb _ => lb_0 b hb, fun _ => rfl, fun z => absurd rfl z⟩) (hA)) ⟨rfl, rfl, rfl, rfl, rfl, trivial⟩
