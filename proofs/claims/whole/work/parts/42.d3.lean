/-! the desk: fillings -/
/-- with v in line l the run ends as well -/
def feP (O X Y : Nat → Int32) (n l : Nat) (inp v : Int32) : Prop := ((RUN O X (upd Y l v) n 0 inp).2.2.1 < n ∧ (RUN O X Y n 0 inp).2.2.1 < n) ∨ ∀ y, y < 13 → endR n (RUN O X (upd Y l v) n 0 inp) y = endR n (RUN O X Y n 0 inp) y
theorem stS_Y {O X Y Z : Nat → Int32} {mk : Int32} {s : RS} (h : Y s.1 = Z s.1) : stS O X Y mk s = stS O X Z mk s := by unfold stS; rw [h]
theorem rn_skip {O X Y : Nat → Int32} {n l : Nat} {mk v : Int32} : ∀ (fu : Nat) (t : Nat → Int32) (s : RS), ∃ m, m ≤ fu ∧ (rnS O X Y n mk fu t s).2.1 l = t l + nI m ∧ (m = 0 → rnS O X (upd Y l v) n mk fu t s = rnS O X Y n mk fu t s) := by
  intro fu
  induction fu with
  | zero => intro t s; exact ⟨0, Nat.le_refl 0, (Int32.add_zero _).symm, fun _ => rfl⟩
  | succ fu ih =>
    intro t s
    by_cases hs : s.1 < n
    · rw [rnS_step hs, rnS_step hs]
      obtain ⟨m, h1, h2, h3⟩ := ih (upd t s.1 (t s.1 + 1)) (stS O X Y mk s)
      by_cases e : l = s.1
      · refine ⟨m + 1, by omega, ?_, fun q => absurd q (by omega)⟩
        show (rnS O X Y n mk fu _ _).2.1 l = _
        rw [h2, ← e, pk_us, ← nI_1, Int32.add_comm (nI m) 1, Int32.add_assoc]
      · refine ⟨m, by omega, ?_, fun q => ?_⟩
        · show (rnS O X Y n mk fu _ _).2.1 l = _
          rw [h2, pk_un e]
        · rw [stS_Y (s := s) (Y := upd Y l v) (Z := Y) (pk_un (fun z => e z.symm)), h3 q]
    · exact ⟨0, Nat.zero_le _, by rw [rnS_stop hs]; exact (Int32.add_zero _).symm, fun _ => by rw [rnS_stop hs, rnS_stop hs]⟩
theorem fe_skip {O X Y : Nat → Int32} {n l : Nat} {inp v : Int32} (h : (RUN O X Y n 0 inp).2.1 l ≤ 0) : feP O X Y n l inp v := by
  obtain ⟨m, h1, h2, h3⟩ := rn_skip (O := O) (X := X) (Y := Y) (n := n) (l := l) (mk := 0) (v := v) 300 c0 (0, v0 inp, c0, r0, fun _ => 0)
  have h4 : (RUN O X Y n 0 inp).2.1 l = nI m := h2.trans (Int32.zero_add _)
  rw [h4] at h
  have hm : m = 0 := by
    rcases Nat.eq_zero_or_pos m with q | q
    · exact q
    · exact absurd h (nI_nle q (by omega))
  have h5 : RUN O X (upd Y l v) n 0 inp = RUN O X Y n 0 inp := h3 hm
  exact Or.inr (fun y _ => by rw [h5])
theorem PR_upd {O X Y t : Nat → Int32} {n l : Nat} {v : Int32} {T : MS} (h : PR O X Y n T) (ht : ∀ k, k ≠ l → t k = mA T 2 k) : PR O X (upd Y l v) n (sA T 2 (upd t l v)) := by
  refine ⟨h.1, fun k hk => ⟨(h.2.1 k hk).1, (h.2.1 k hk).2.1, ?_⟩, h.2.2⟩
  show upd t l v k = upd Y l v k
  by_cases e : k = l
  · subst e; rw [pk_us, pk_us]
  · rw [pk_un e, pk_un e, ht k e]; exact (h.2.1 k hk).2.2
theorem upd_own {T : MS} {t : Nat → Int32} {l : Nat} (ht : ∀ k, k ≠ l → t k = mA T 2 k) : sA T 2 (upd t l (mA T 2 l)) = T := by
  have e : upd t l (mA T 2 l) = mA T 2 := by
    funext k
    by_cases e : k = l
    · subst e; exact pk_us
    · rw [pk_un e]; exact ht k e
  rw [e]; exact sA_self T 2
theorem sp8 {n : Nat} {R : Nat × (Nat → Int32) × RS} {S : MS} (h : KFin n R S) : mI S 8 = 0 ↔ ¬ R.2.2.1 < n := by
  rw [h.2.2.2.2.2.2.1]
  by_cases q : R.2.2.1 < n
  · rw [if_pos q]; exact ⟨fun z => absurd z (by decide), fun z => absurd q z⟩
  · rw [if_neg q]; exact ⟨fun _ => q, fun _ => rfl⟩
theorem endR_12 {n : Nat} {R : Nat × (Nat → Int32) × RS} : endR n R 12 = if R.2.2.1 < n then 1 else 0 := rfl
theorem endR_lt {n k : Nat} {R : Nat × (Nat → Int32) × RS} (hk : k < 4) : endR n R k = R.2.2.2.1 k := if_pos hk
theorem el_fe {n : Nat} {R Q : Nat × (Nat → Int32) × RS} {S T : MS} (h : KFin n R S) (g : KFin n Q T) : elP S T ↔ ((R.2.2.1 < n ∧ Q.2.2.1 < n) ∨ ∀ y, y < 13 → endR n R y = endR n Q y) := by
  unfold elP evP
  rw [sp8 h, sp8 g]
  by_cases r : R.2.2.1 < n
  · by_cases q : Q.2.2.1 < n
    · exact ⟨fun _ => Or.inl ⟨r, q⟩, fun _ => ⟨⟨⟨fun z => absurd r z, fun z => absurd q z⟩, fun z => absurd r z⟩, fun z => absurd r z⟩⟩
    · constructor
      · intro z; exact absurd r (z.1.1.mpr q)
      · rintro (z | z)
        · exact absurd z.2 q
        · have := z 12 (by omega)
          rw [endR_12, endR_12, if_pos r, if_neg q] at this
          exact absurd this (by decide)
  · by_cases q : Q.2.2.1 < n
    · constructor
      · intro z; exact absurd q (z.1.1.mp r)
      · rintro (z | z)
        · exact absurd z.1 r
        · have := z 12 (by omega)
          rw [endR_12, endR_12, if_neg r, if_pos q] at this
          exact absurd this (by decide)
    · constructor
      · intro z
        refine Or.inr (fun y hy => ?_)
        rcases (show y < 4 ∨ (4 ≤ y ∧ y < 12) ∨ y = 12 by omega) with w | w | w
        · rw [endR_lt w, endR_lt w, ← h.1 y w, ← g.1 y w]; exact z.1.2 r y w
        · obtain ⟨x, rfl⟩ : ∃ x, y = 4 + x := ⟨y - 4, by omega⟩
          rw [← kCell_fin h (by omega), ← kCell_fin g (by omega)]; exact z.2 r x (by omega)
        · rw [w, endR_12, endR_12, if_neg r, if_neg q]
      · rintro (z | z)
        · exact absurd z.1 r
        · refine ⟨⟨⟨fun _ => q, fun _ => r⟩, fun _ k hk => ?_⟩, fun _ w hw => ?_⟩
          · have := z k (by omega)
            rw [endR_lt hk, endR_lt hk] at this
            rw [h.1 k hk, g.1 k hk]; exact this
          · rw [kCell_fin h hw, kCell_fin g hw]; exact z (4 + w) (by omega)
/-- the candidates that are left -/
def lfP (P : Nat → Prop) (Λ M : Int64) (κ : Nat) : Prop := ∀ b, b < 64 → (lb M b = true ↔ lb Λ b = true ∧ (b < κ → P b))
theorem lf_0 {P : Nat → Prop} {Λ : Int64} : lfP P Λ Λ 0 := fun b _ => ⟨fun h => ⟨h, fun z => absurd z (Nat.not_lt_zero b)⟩, fun h => h.1⟩
theorem lf_un {P : Nat → Prop} {Λ M : Int64} {κ : Nat} (h : lfP P Λ M κ) (hκ : κ < 64) (hn : ¬ lb M κ = true) : lfP P Λ M (κ + 1) := by
  intro b hb
  rw [h b hb]
  constructor
  · intro z
    refine ⟨z.1, fun y => ?_⟩
    rcases Nat.lt_or_ge b κ with w | w
    · exact z.2 w
    · have e : b = κ := by omega
      subst e
      exact absurd ((h b hb).mpr z) hn
  · intro z; exact ⟨z.1, fun y => z.2 (by omega)⟩
theorem lf_yes {P : Nat → Prop} {Λ M : Int64} {κ : Nat} (h : lfP P Λ M κ) (hp : P κ) : lfP P Λ M (κ + 1) := by
  intro b hb
  rw [h b hb]
  constructor
  · intro z
    refine ⟨z.1, fun y => ?_⟩
    rcases Nat.lt_or_ge b κ with w | w
    · exact z.2 w
    · rw [show b = κ by omega]; exact hp
  · intro z; exact ⟨z.1, fun y => z.2 (by omega)⟩
theorem lf_clr {P : Nat → Prop} {Λ M : Int64} {κ : Nat} (h : lfP P Λ M κ) (hκ : κ < 64) (hp : ¬ P κ) : lfP P Λ (M &&& (((1 : Int64) <<< ((nI κ).toInt64 &&& 63)) ^^^ (-1))) (κ + 1) := by
  intro b hb
  rw [lb_clr hκ hb, Bool.and_eq_true, h b hb]
  constructor
  · intro z
    have e : ¬ κ = b := fun q => by rw [decide_eq_true q] at z; exact absurd z.2 (by decide)
    exact ⟨z.1.1, fun y => z.1.2 (by omega)⟩
  · intro z
    refine ⟨⟨z.1, fun y => z.2 (by omega)⟩, ?_⟩
    have e : ¬ κ = b := fun q => by subst q; exact hp (z.2 (by omega))
    rw [decide_eq_false e]; rfl
theorem m19 : ∀ b, b < 64 → (lb (524287 : Int64) b = true ↔ b < 19) := by decide +kernel
/-- the fillings left after the first ν inputs -/
def ffP (P : Nat → Nat → Prop) (M : Int64) (ν : Nat) : Prop := ∀ b, b < 64 → (lb M b = true ↔ b < 19 ∧ ∀ m, m < ν → P m b)
theorem ff_skip {P : Nat → Nat → Prop} {M : Int64} {ν : Nat} (h : ffP P M ν) (hp : ∀ b, P ν b) : ffP P M (ν + 1) := by
  intro b hb
  rw [h b hb]
  exact ⟨fun z => ⟨z.1, ext_lt z.2 (hp b)⟩, fun z => ⟨z.1, fun m hm => z.2 m (by omega)⟩⟩
theorem ff_next {P : Nat → Nat → Prop} {M L : Int64} {ν : Nat} (h : ffP P M ν) (g : lfP (P ν) M L 19) : ffP P L (ν + 1) := by
  intro b hb
  rw [g b hb, h b hb]
  exact ⟨fun z => ⟨z.1.1, ext_lt z.1.2 (z.2 z.1.1)⟩, fun z => ⟨⟨z.1, fun m hm => z.2 m (by omega)⟩, fun _ => z.2 ν (by omega)⟩⟩
def rmX4_fillingsThatEndAlike : Room := { frames := 3, cells := 0, slots := 0, locals := 72 }
set_option maxHeartbeats 4000000 in
set_option maxRecDepth 100000 in
theorem kX4_fillingsThatEndAlike (G : TG) (o p : Nat) (a f e c : Nat → Nat) (RP RQ RU : Nat → Option Nat) (S K1 K2 T : MS) (O Ξ Y : Nat → Int32) (n : Nat) (hP : PR O Ξ Y n T) (hok : okp O Ξ Y n) (l : Nat) (hl : l < n) (h0 : O l = 0) (inp : Int32) (Λ : Int64) (hF : KFin n (RUN O Ξ Y n 0 inp) K1) : CT G yX4_fillingsThatEndAlike cX4_fillingsThatEndAlike 10 (some .long) rmX4_fillingsThatEndAlike 0 0 [.ref (o), .ref (p), .int (nI (l)), .int (inp), .long (Λ)] (CWd G o a RP RQ RU S ++ (KWd G (a 5) f K1 ++ (KWd G (a 6) e K2 ++ (PWd G p c T)))) (fun u : MS × MS => CWd G o a RP RQ RU S ++ (KWd G (a 5) f u.1 ++ (KWd G (a 6) e u.2 ++ PWd G p c T))) (Rl (fun r u => u.1 = K1 ∧ lfP (fun b => feP O Ξ Y n l inp (nI b - 9)) Λ r 19)) := by
  refine CT.enter (by decide) (Nat.le_of_ble_eq_true rfl) (fun X C hnm => ?_)
  refine V.less [(0, .ref (o)), (1, .ref (p)), (2, .int (nI (l))), (3, .int (inp)), (4, .long (Λ))] ⟨rfl, rfl, rfl, rfl, rfl, trivial⟩ ?_
  generalize hQ : (QX G X (fun u : MS × MS => CWd G o a RP RQ RU S ++ (KWd G (a 5) f u.1 ++ (KWd G (a 6) e u.2 ++ PWd G p c T))) (Rl (fun r u => u.1 = K1 ∧ lfP (fun b => feP O Ξ Y n l inp (nI b - 9)) Λ r 19)) 0 0) = Qq
  have hn20 := hok.1
  refine v_aload_n (pc := 0) C dX4_fillingsThatEndAlike_0 rfl ?_
  refine v_getN (pc := 1) (v := .ref (c 2)) C inX1 21 rfl rfl 2 (by decide) nw_13 rfl dX4_fillingsThatEndAlike_1 ?_
  refine v_iload_n (pc := 4) C dX4_fillingsThatEndAlike_4 rfl ?_
  refine v_ialdN (pc := 5) (i := (l)) (f := (mA T 2)) C 24 rfl (by omega) (by decide) dX4_fillingsThatEndAlike_5 ?_
  refine v_istore (pc := 6) C dX4_fillingsThatEndAlike_6 (by decide) ?_
  refine v_lload (pc := 8) C dX4_fillingsThatEndAlike_8 rfl ?_
  refine v_lstore (pc := 10) C dX4_fillingsThatEndAlike_10 (by decide) ?_
  refine v_iconst (pc := 12) (v := 0) C dX4_fillingsThatEndAlike_12 (by decide) ?_
  refine v_istore (pc := 13) C dX4_fillingsThatEndAlike_13 (by decide) ?_
  have L15 : ∀ (fu : Nat) (κ : Nat) (M : Int64) (t : Nat → Int32) (K2v : MS), (19 < κ + fu) → (κ ≤ 19) → (∀ k, k ≠ l → t k = mA T 2 k) → (lfP (fun b => feP O Ξ Y n l inp (nI b - 9)) Λ M κ) → V G X cX4_fillingsThatEndAlike 10 rmX4_fillingsThatEndAlike Qq 0 0 15 (lvo [(0, .ref (o)), (1, .ref (p)), (2, .int (nI (l))), (3, .int (inp)), (4, .long (Λ)), (6, .int ((mA T 2) (l))), (7, .long (M)), (9, .int (nI (κ)))]) [] (CWd G o a RP RQ RU S ++ (KWd G (a 5) f K1 ++ (KWd G (a 6) e K2v ++ (PWd G p c (sA T 2 t))))) := by
    intro fu
    induction fu with
    | zero => intro κ M t K2v hφ hκ hτ hΛ; exfalso; omega
    | succ fu ih15 =>
      intro κ M t K2v hφ hκ hτ hΛ
      refine v_iload (pc := 15) C dX4_fillingsThatEndAlike_15 rfl ?_
      refine v_bipush (pc := 17) (v := 18) C dX4_fillingsThatEndAlike_17 (by decide) ?_
      refine v_icmp_gtN (pc := 19) (tgt := 86) C (κ) 18 rfl rfl (by omega) (by omega) dX4_fillingsThatEndAlike_19 (by decide) (fun c_19 => ?_) (fun c_19 => ?_)
      · refine v_aload_n (pc := 86) C dX4_fillingsThatEndAlike_86 rfl ?_
        refine v_getN (pc := 87) (v := .ref (c 2)) C inX1 21 rfl rfl 2 (by decide) nw_13 rfl dX4_fillingsThatEndAlike_87 ?_
        refine v_iload_n (pc := 90) C dX4_fillingsThatEndAlike_90 rfl ?_
        refine v_iload (pc := 91) C dX4_fillingsThatEndAlike_91 rfl ?_
        refine v_iastN (pc := 93) (i := (l)) (f := t) C 24 rfl (by omega) (by decide) dX4_fillingsThatEndAlike_93 (ws' := (CWd G o a RP RQ RU S ++ (KWd G (a 5) f K1 ++ (KWd G (a 6) e K2v ++ (PWd G p c (sA T 2 (upd (t) (l) ((mA T 2) (l))))))))) rfl ?_
        refine V.same (ws' := (CWd G o a RP RQ RU S ++ (KWd G (a 5) f K1 ++ (KWd G (a 6) e K2v ++ (PWd G p c T))))) (by rw [upd_own hτ]) ?_
        refine v_lload (pc := 94) C dX4_fillingsThatEndAlike_94 rfl ?_
        subst hQ
        exact v_lret (pc := 96) C dX4_fillingsThatEndAlike_96 ((K1, K2v)) rfl (⟨rfl, by rw [← show κ = 19 by omega]; exact hΛ⟩)
      · refine v_lload (pc := 22) C dX4_fillingsThatEndAlike_22 rfl ?_
        refine v_iload (pc := 24) C dX4_fillingsThatEndAlike_24 rfl ?_
        refine v_callS0 (pc := 26) (st := []) C (kX4_hasBit G _ (M) (κ) (by omega)) ykX4_hasBit kw2_101 kw2_144 dX4_fillingsThatEndAlike_26 rfl rfl rfl (by decide) (Nat.le_of_ble_eq_true rfl) (by decide) rfl (Ri_kk (fun r_26 u_26 h_26 => ?_))
        rcases (if01 h_26) with ⟨q_26, rfl⟩ | ⟨q_26, rfl⟩
        · refine v_if_eqT (pc := 29) (tgt := 80) C (by decide) dX4_fillingsThatEndAlike_29 (by decide) ?_
          refine v_iinc1 (pc := 80) C (κ) rfl dX4_fillingsThatEndAlike_80 rfl ?_
          refine v_goto (pc := 83) (tgt := 15) C dX4_fillingsThatEndAlike_83 (by decide) ?_
          exact V.lessE (ih15  (((κ) + 1)) (M) (t) (K2v) (by omega) (by omega) (hτ) (lf_un hΛ (by omega) q_26)) ⟨rfl, rfl, rfl, rfl, rfl, rfl, rfl, rfl, trivial⟩
        · refine v_if_eqF (pc := 29) (tgt := 80) C (by decide) dX4_fillingsThatEndAlike_29 (by decide) ?_
          refine v_aload_n (pc := 32) C dX4_fillingsThatEndAlike_32 rfl ?_
          refine v_getN (pc := 33) (v := .ref (c 2)) C inX1 21 rfl rfl 2 (by decide) nw_13 rfl dX4_fillingsThatEndAlike_33 ?_
          refine v_iload_n (pc := 36) C dX4_fillingsThatEndAlike_36 rfl ?_
          refine v_iload (pc := 37) C dX4_fillingsThatEndAlike_37 rfl ?_
          refine v_bipush (pc := 39) (v := 9) C dX4_fillingsThatEndAlike_39 (by decide) ?_
          refine v_isub (pc := 41) C dX4_fillingsThatEndAlike_41 ?_
          refine v_iastN (pc := 42) (i := (l)) (f := t) C 24 rfl (by omega) (by decide) dX4_fillingsThatEndAlike_42 (ws' := (CWd G o a RP RQ RU S ++ (KWd G (a 5) f K1 ++ (KWd G (a 6) e K2v ++ (PWd G p c (sA T 2 (upd (t) (l) ((nI (κ)) - (9 : Int32))))))))) rfl ?_
          refine v_aload_n (pc := 43) C dX4_fillingsThatEndAlike_43 rfl ?_
          refine v_get (pc := 44) (v := .ref ((a 6))) C inX4 0 rfl rfl 6 (by decide) kw1_88 rfl dX4_fillingsThatEndAlike_44 ?_
          refine v_aload_n (pc := 47) C dX4_fillingsThatEndAlike_47 rfl ?_
          refine v_iload_n (pc := 48) C dX4_fillingsThatEndAlike_48 rfl ?_
          refine v_iconst (pc := 49) (v := 0) C dX4_fillingsThatEndAlike_49 (by decide) ?_
          refine V.perm (ws' := (CWd G o a RP RQ RU S ++ (KWd G (a 5) f K1 ++ (PWd G p c (sA T 2 (upd (t) (l) ((nI (κ)) - (9 : Int32)))) ++ (KWd G (a 6) e K2v))))) ((List.Perm.append_left _ (List.Perm.append_left _ (List.perm_append_comm))).trans (List.Perm.of_eq (by simp only [List.append_assoc]))) ?_
          refine V.same (ws' := (CWd G o a RP RQ RU S ++ (KWd G (a 5) f K1)) ++ (PWd G p c (sA T 2 (upd (t) (l) ((nI (κ)) - (9 : Int32)))) ++ (KWd G (a 6) e K2v))) (by simp only [List.append_assoc]) ?_
          refine v_callVN (pc := 50) (st := []) (q0 := 7) (wr := (CWd G o a RP RQ RU S ++ (KWd G (a 5) f K1))) C (kX0_perform G p (a 6) c e (sA T 2 (upd (t) (l) ((nI (κ)) - (9 : Int32)))) K2v O Ξ (upd Y l (nI (κ) - (9 : Int32))) n inp 0 (PR_upd hP hτ) (okp_upd hok h0)) ykX0_perform cvX0_perform nw_23 dX4_fillingsThatEndAlike_50 rfl rfl rfl rfl rfl (by decide) (Nat.le_of_ble_eq_true rfl) (by decide) rfl (Rv_kk (fun u_50 h_50 => ?_))
          obtain ⟨hF2, -⟩ := h_50
          refine V.same (ws' := (CWd G o a RP RQ RU S ++ (KWd G (a 5) f K1 ++ (PWd G p c (sA T 2 (upd (t) (l) ((nI (κ)) - (9 : Int32)))) ++ (KWd G (a 6) e u_50))))) (by simp only [List.append_assoc]) ?_
          refine V.perm (ws' := (CWd G o a RP RQ RU S ++ (KWd G (a 5) f K1 ++ (KWd G (a 6) e u_50 ++ (PWd G p c (sA T 2 (upd (t) (l) ((nI (κ)) - (9 : Int32))))))))) ((List.Perm.append_left _ (List.Perm.append_left _ (List.perm_append_comm))).trans (List.Perm.of_eq (by simp only [List.append_assoc]))) ?_
          refine v_aload_n (pc := 53) C dX4_fillingsThatEndAlike_53 rfl ?_
          refine v_get (pc := 54) (v := .ref ((a 6))) C inX4 0 rfl rfl 6 (by decide) kw1_88 rfl dX4_fillingsThatEndAlike_54 ?_
          refine v_aload_n (pc := 57) C dX4_fillingsThatEndAlike_57 rfl ?_
          refine v_get (pc := 58) (v := .ref ((a 5))) C inX4 0 rfl rfl 5 (by decide) kw1_87 rfl dX4_fillingsThatEndAlike_58 ?_
          refine V.perm (ws' := (CWd G o a RP RQ RU S ++ (KWd G (a 5) f K1 ++ (PWd G p c (sA T 2 (upd (t) (l) ((nI (κ)) - (9 : Int32)))) ++ (KWd G (a 6) e u_50))))) ((List.Perm.append_left _ (List.Perm.append_left _ (List.perm_append_comm))).trans (List.Perm.of_eq (by simp only [List.append_assoc]))) ?_
          refine V.perm (ws' := (CWd G o a RP RQ RU S ++ (PWd G p c (sA T 2 (upd (t) (l) ((nI (κ)) - (9 : Int32)))) ++ (KWd G (a 6) e u_50 ++ (KWd G (a 5) f K1))))) ((List.Perm.append_left _ (List.perm_append_comm)).trans (List.Perm.of_eq (by simp only [List.append_assoc]))) ?_
          refine V.same (ws' := (CWd G o a RP RQ RU S ++ (PWd G p c (sA T 2 (upd (t) (l) ((nI (κ)) - (9 : Int32)))))) ++ (KWd G (a 6) e u_50 ++ (KWd G (a 5) f K1))) (by simp only [List.append_assoc]) ?_
          refine v_callVN (pc := 61) (st := []) (q0 := 0) (wr := (CWd G o a RP RQ RU S ++ (PWd G p c (sA T 2 (upd (t) (l) ((nI (κ)) - (9 : Int32))))))) C (kX0_endsLike G (a 6) (a 5) e f u_50 K1 (okK_fin hF2) (okK_fin hF)) ykX0_endsLike cvX0_endsLike nw_36 dX4_fillingsThatEndAlike_61 rfl rfl rfl rfl rfl (by decide) (Nat.le_of_ble_eq_true rfl) (by decide) rfl (Ri_kk (fun r_61 u_61 h_61 => ?_))
          obtain ⟨e_61, h_61⟩ := h_61
          rw [e_61]
          have h_61 := alI h_61 (el_fe hF2 hF)
          refine V.same (ws' := (CWd G o a RP RQ RU S ++ (PWd G p c (sA T 2 (upd (t) (l) ((nI (κ)) - (9 : Int32)))) ++ (KWd G (a 6) e u_50 ++ (KWd G (a 5) f K1))))) (by simp only [List.append_assoc]) ?_
          refine V.perm (ws' := (CWd G o a RP RQ RU S ++ (PWd G p c (sA T 2 (upd (t) (l) ((nI (κ)) - (9 : Int32)))) ++ (KWd G (a 5) f K1 ++ (KWd G (a 6) e u_50))))) ((List.Perm.append_left _ (List.Perm.append_left _ (List.perm_append_comm))).trans (List.Perm.of_eq (by simp only [List.append_assoc]))) ?_
          refine V.perm (ws' := (CWd G o a RP RQ RU S ++ (KWd G (a 5) f K1 ++ (KWd G (a 6) e u_50 ++ (PWd G p c (sA T 2 (upd (t) (l) ((nI (κ)) - (9 : Int32))))))))) ((List.Perm.append_left _ (List.perm_append_comm)).trans (List.Perm.of_eq (by simp only [List.append_assoc]))) ?_
          rcases h_61 with ⟨rfl, q_61⟩ | ⟨rfl, q_61⟩
          · refine v_if_neT (pc := 64) (tgt := 80) C (by decide) dX4_fillingsThatEndAlike_64 (by decide) ?_
            refine v_iinc1 (pc := 80) C (κ) rfl dX4_fillingsThatEndAlike_80 rfl ?_
            refine v_goto (pc := 83) (tgt := 15) C dX4_fillingsThatEndAlike_83 (by decide) ?_
            exact V.lessE (ih15  (((κ) + 1)) (M) ((upd (t) (l) ((nI (κ)) - (9 : Int32)))) (u_50) (by omega) (by omega) (fun k hk => by rw [pk_un hk]; exact hτ k hk) (lf_yes hΛ q_61)) ⟨rfl, rfl, rfl, rfl, rfl, rfl, rfl, rfl, trivial⟩
          · refine v_if_neF (pc := 64) (tgt := 80) C (by decide) dX4_fillingsThatEndAlike_64 (by decide) ?_
            refine v_lload (pc := 67) C dX4_fillingsThatEndAlike_67 rfl ?_
            refine v_lconst (pc := 69) (v := 1) C dX4_fillingsThatEndAlike_69 (by decide) ?_
            refine v_iload (pc := 70) C dX4_fillingsThatEndAlike_70 rfl ?_
            refine v_lshl (pc := 72) C dX4_fillingsThatEndAlike_72 ?_
            refine v_ldc2 (pc := 73) C dX4_fillingsThatEndAlike_73 kw2_153 ?_
            refine v_lxor (pc := 76) C dX4_fillingsThatEndAlike_76 ?_
            refine v_land (pc := 77) C dX4_fillingsThatEndAlike_77 ?_
            refine v_lstore (pc := 78) C dX4_fillingsThatEndAlike_78 (by decide) ?_
            refine v_iinc1 (pc := 80) C (κ) rfl dX4_fillingsThatEndAlike_80 rfl ?_
            refine v_goto (pc := 83) (tgt := 15) C dX4_fillingsThatEndAlike_83 (by decide) ?_
            exact V.lessE (ih15  (((κ) + 1)) ((M) &&& ((((1 : Int64)) <<< ((nI (κ)).toInt64 &&& 63)) ^^^ ((-1 : Int64)))) ((upd (t) (l) ((nI (κ)) - (9 : Int32)))) (u_50) (by omega) (by omega) (fun k hk => by rw [pk_un hk]; exact hτ k hk) (lf_clr hΛ (by omega) q_61)) ⟨rfl, rfl, rfl, rfl, rfl, rfl, rfl, rfl, trivial⟩
  exact V.lessE (L15 (20) (0) (Λ) ((mA T 2)) (K2) (by omega) (by omega) (fun _ _ => rfl) (lf_0)) ⟨rfl, rfl, rfl, rfl, rfl, rfl, rfl, rfl, trivial⟩
def rmX4_findFillings : Room := { frames := 4, cells := 0, slots := 0, locals := 101 }
set_option maxHeartbeats 4000000 in
set_option maxRecDepth 100000 in
theorem kX4_findFillings (G : TG) (o p : Nat) (a f e c : Nat → Nat) (RP RQ RU : Nat → Option Nat) (S K1 K2 T : MS) (O Ξ Y : Nat → Int32) (n : Nat) (hP : PR O Ξ Y n T) (hok : okp O Ξ Y n) (l : Nat) (hl : l < n) (h0 : O l = 0)  : CT G yX4_findFillings cX4_findFillings 6 (some .long) rmX4_findFillings 0 0 [.ref (o), .ref (p), .int (nI (l))] (CWd G o a RP RQ RU S ++ (KWd G (a 5) f K1 ++ (KWd G (a 6) e K2 ++ (PWd G p c T)))) (fun u : MS × MS => CWd G o a RP RQ RU S ++ (KWd G (a 5) f u.1 ++ (KWd G (a 6) e u.2 ++ PWd G p c T))) (Rl (fun r u => ffP (fun m b => feP O Ξ Y n l (nI m) (nI b - 9)) r 10)) := by
  refine CT.enter (by decide) (Nat.le_of_ble_eq_true rfl) (fun X C hnm => ?_)
  refine V.less [(0, .ref (o)), (1, .ref (p)), (2, .int (nI (l)))] ⟨rfl, rfl, rfl, trivial⟩ ?_
  generalize hQ : (QX G X (fun u : MS × MS => CWd G o a RP RQ RU S ++ (KWd G (a 5) f u.1 ++ (KWd G (a 6) e u.2 ++ PWd G p c T))) (Rl (fun r u => ffP (fun m b => feP O Ξ Y n l (nI m) (nI b - 9)) r 10)) 0 0) = Qq
  have hn20 := hok.1
  refine v_ldc2 (pc := 0) C dX4_findFillings_0 kw2_139 ?_
  refine v_lstore_n (pc := 3) C dX4_findFillings_3 (by decide) ?_
  refine v_iconst (pc := 4) (v := 0) C dX4_findFillings_4 (by decide) ?_
  refine v_istore (pc := 5) C dX4_findFillings_5 (by decide) ?_
  have L7 : ∀ (fu : Nat) (ν : Nat) (M : Int64) (K1v : MS) (K2v : MS), (10 < ν + fu) → (ν ≤ 10) → (ffP (fun m b => feP O Ξ Y n l (nI m) (nI b - 9)) M ν) → V G X cX4_findFillings 6 rmX4_findFillings Qq 0 0 7 (lvo [(0, .ref (o)), (1, .ref (p)), (2, .int (nI (l))), (3, .long (M)), (5, .int (nI (ν)))]) [] (CWd G o a RP RQ RU S ++ (KWd G (a 5) f K1v ++ (KWd G (a 6) e K2v ++ (PWd G p c T)))) := by
    intro fu
    induction fu with
    | zero => intro ν M K1v K2v hφ hν hΛ; exfalso; omega
    | succ fu ih7 =>
      intro ν M K1v K2v hφ hν hΛ
      refine v_iload (pc := 7) C dX4_findFillings_7 rfl ?_
      refine v_bipush (pc := 9) (v := 10) C dX4_findFillings_9 (by decide) ?_
      refine v_icmp_geN (pc := 11) (tgt := 53) C (ν) 10 rfl rfl (by omega) (by omega) dX4_findFillings_11 (by decide) (fun c_11 => ?_) (fun c_11 => ?_)
      · refine v_lload_n (pc := 53) C dX4_findFillings_53 rfl ?_
        subst hQ
        exact v_lret (pc := 54) C dX4_findFillings_54 ((K1v, K2v)) rfl (by rw [← show ν = 10 by omega]; exact hΛ)
      · refine v_aload_n (pc := 14) C dX4_findFillings_14 rfl ?_
        refine v_get (pc := 15) (v := .ref ((a 5))) C inX4 0 rfl rfl 5 (by decide) kw1_87 rfl dX4_findFillings_15 ?_
        refine v_aload_n (pc := 18) C dX4_findFillings_18 rfl ?_
        refine v_iload (pc := 19) C dX4_findFillings_19 rfl ?_
        refine v_iconst (pc := 21) (v := 0) C dX4_findFillings_21 (by decide) ?_
        refine V.perm (ws' := (CWd G o a RP RQ RU S ++ (KWd G (a 6) e K2v ++ (PWd G p c T ++ (KWd G (a 5) f K1v))))) ((List.Perm.append_left _ (List.perm_append_comm)).trans (List.Perm.of_eq (by simp only [List.append_assoc]))) ?_
        refine V.same (ws' := (CWd G o a RP RQ RU S ++ (KWd G (a 6) e K2v)) ++ (PWd G p c T ++ (KWd G (a 5) f K1v))) (by simp only [List.append_assoc]) ?_
        refine v_callVN (pc := 22) (st := []) (q0 := 7) (wr := (CWd G o a RP RQ RU S ++ (KWd G (a 6) e K2v))) C (kX0_perform G p (a 5) c f T K1v O Ξ Y n (nI ν) 0 hP hok) ykX0_perform cvX0_perform nw_23 dX4_findFillings_22 rfl rfl rfl rfl rfl (by decide) (Nat.le_of_ble_eq_true rfl) (by decide) rfl (Rv_kk (fun u_22 h_22 => ?_))
        obtain ⟨hF, -⟩ := h_22
        refine V.same (ws' := (CWd G o a RP RQ RU S ++ (KWd G (a 6) e K2v ++ (PWd G p c T ++ (KWd G (a 5) f u_22))))) (by simp only [List.append_assoc]) ?_
        refine V.perm (ws' := (CWd G o a RP RQ RU S ++ (PWd G p c T ++ (KWd G (a 5) f u_22 ++ (KWd G (a 6) e K2v))))) ((List.Perm.append_left _ (List.perm_append_comm)).trans (List.Perm.of_eq (by simp only [List.append_assoc]))) ?_
        refine V.perm (ws' := (CWd G o a RP RQ RU S ++ (KWd G (a 5) f u_22 ++ (KWd G (a 6) e K2v ++ (PWd G p c T))))) ((List.Perm.append_left _ (List.perm_append_comm)).trans (List.Perm.of_eq (by simp only [List.append_assoc]))) ?_
        refine v_aload_n (pc := 25) C dX4_findFillings_25 rfl ?_
        refine v_get (pc := 26) (v := .ref ((a 5))) C inX4 0 rfl rfl 5 (by decide) kw1_87 rfl dX4_findFillings_26 ?_
        refine v_getN (pc := 29) (v := .ref (f 3)) C inX0 9 rfl rfl 3 (by decide) nw_2 rfl dX4_findFillings_29 ?_
        refine v_iload_n (pc := 32) C dX4_findFillings_32 rfl ?_
        refine v_ialdN (pc := 33) (i := (l)) (f := (mA u_22 3)) C 13 rfl (by omega) (by decide) dX4_findFillings_33 ?_
        refine v_if_le (pc := 34) (tgt := 47) C dX4_findFillings_34 (by decide) (fun c_34 => ?_) (fun c_34 => ?_)
        · refine v_iinc1 (pc := 47) C (ν) rfl dX4_findFillings_47 rfl ?_
          refine v_goto (pc := 50) (tgt := 7) C dX4_findFillings_50 (by decide) ?_
          exact V.lessE (ih7  (((ν) + 1)) (M) (u_22) (K2v) (by omega) (by omega) (ff_skip hΛ (fun b => fe_skip (by rw [← hF.2.2.2.1 l (by omega)]; exact c_34)))) ⟨rfl, rfl, rfl, rfl, rfl, trivial⟩
        · refine v_aload_n (pc := 37) C dX4_findFillings_37 rfl ?_
          refine v_aload_n (pc := 38) C dX4_findFillings_38 rfl ?_
          refine v_iload_n (pc := 39) C dX4_findFillings_39 rfl ?_
          refine v_iload (pc := 40) C dX4_findFillings_40 rfl ?_
          refine v_lload_n (pc := 42) C dX4_findFillings_42 rfl ?_
          refine v_callV0 (pc := 43) (st := []) (q0 := 0) C (kX4_fillingsThatEndAlike G o p a f e c RP RQ RU S u_22 K2v T O Ξ Y n hP hok l hl h0 (nI ν) M hF) ykX4_fillingsThatEndAlike cvX4_fillingsThatEndAlike kw2_140 dX4_findFillings_43 rfl rfl rfl rfl rfl (by decide) (Nat.le_of_ble_eq_true rfl) (by decide) rfl (Rl_kk (fun r_43 u_43 h_43 => ?_))
          obtain ⟨eK_43, hΛ2⟩ := h_43
          refine V.same (ws' := (CWd G o a RP RQ RU S ++ (KWd G (a 5) f u_22 ++ (KWd G (a 6) e u_43.2 ++ (PWd G p c T))))) (by show CWd G o a RP RQ RU S ++ (KWd G (a 5) f u_43.1 ++ _) = _; rw [eK_43]) ?_
          refine V.same (ws' := (CWd G o a RP RQ RU S ++ (KWd G (a 5) f u_22 ++ (KWd G (a 6) e u_43.2 ++ (PWd G p c T))))) rfl ?_
          refine v_lstore_n (pc := 46) C dX4_findFillings_46 (by decide) ?_
          refine v_iinc1 (pc := 47) C (ν) rfl dX4_findFillings_47 rfl ?_
          refine v_goto (pc := 50) (tgt := 7) C dX4_findFillings_50 (by decide) ?_
          exact V.lessE (ih7  (((ν) + 1)) (r_43) (u_22) (u_43.2) (by omega) (by omega) (ff_next hΛ hΛ2)) ⟨rfl, rfl, rfl, rfl, rfl, trivial⟩
  exact V.lessE (L7 (11) (0) ((524287 : Int64)) (K1) (K2) (by omega) (by omega) (fun b hb => ⟨fun z => ⟨(m19 b hb).mp z, fun m hm => absurd hm (Nat.not_lt_zero m)⟩, fun z => (m19 b hb).mpr z.1⟩)) ⟨rfl, rfl, rfl, rfl, rfl, trivial⟩
