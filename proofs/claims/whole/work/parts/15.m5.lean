/-! the reference: a whole run -/
theorem rnS_step {O X Y : Nat → Int32} {n : Nat} {mk : Int32} {f : Nat} {t : Nat → Int32} {s : RS} (h : s.1 < n) : rnS O X Y n mk (f + 1) t s = ((rnS O X Y n mk f (upd t s.1 (t s.1 + 1)) (stS O X Y mk s)).1 + 1, (rnS O X Y n mk f (upd t s.1 (t s.1 + 1)) (stS O X Y mk s)).2) := by
  conv => lhs; unfold rnS
  rw [if_pos h]
theorem rnS_stop {O X Y : Nat → Int32} {n : Nat} {mk : Int32} {f : Nat} {t : Nat → Int32} {s : RS} (h : ¬ s.1 < n) : rnS O X Y n mk f t s = (0, t, s) := by
  cases f with
  | zero => rfl
  | succ f => conv => lhs; unfold rnS
              rw [if_neg h]
theorem rnS_0 {O X Y : Nat → Int32} {n : Nat} {mk : Int32} {t : Nat → Int32} {s : RS} : rnS O X Y n mk 0 t s = (0, t, s) := rfl
/-- a run from its start -/
noncomputable def rnR (O X Y : Nat → Int32) (n : Nat) (mk inp : Int32) (lf : Nat → Int64) : Nat × (Nat → Int32) × RS := rnS O X Y n mk 300 c0 (0, v0 inp, c0, r0, lf)
/-- its end over the reference's state -/
def rnPut (S : MS) (n : Nat) (R : Nat × (Nat → Int32) × RS) : MS := sL (sA (sA (sA (sA (sI (sI S 10 (nI R.1)) 11 (if R.2.2.1 < n then 1 else 0)) 5 R.2.2.2.1) 6 R.2.2.2.2.1) 7 R.2.2.2.2.2.1) 9 R.2.1) R.2.2.2.2.2.2
theorem upd_in {f g : Nat → Int32} {k : Nat} {v : Int32} (h : ∀ j, j < k → f j = g j) (hv : v = g k) : ∀ j, j < k + 1 → upd f k v j = g j := by
  intro j hj
  by_cases e : j = k
  · subst e; rw [pk_us, hv]
  · rw [pk_un e]; exact h j (by omega)
theorem okr_st {O X Y : Nat → Int32} {mk : Int32} {s : RS} (h : okr s.2.2.2.1) (hl : okl (O s.1) (X s.1) (Y s.1)) : okr (stS O X Y mk s).2.2.2.1 := by
  rcases hl with ⟨ho, x, hx, ex⟩ | ⟨ho, ⟨x, hx, ex⟩, y, hy, ey⟩ | ⟨ho, ⟨x, hx, ex⟩, y, hy, ey⟩ | ⟨ho, ⟨x, hx, ex⟩, y, hy, ey⟩ | ⟨ho, x, hx, ex⟩ | ⟨ho, ⟨x, hx, ex⟩, y, hy, ey⟩ | ho | ⟨ho, ⟨x, hx, ex⟩, y, hy, ey⟩ | ⟨ho, ⟨x, hx, ex⟩, y, hy, ey⟩ | ⟨ho, ⟨x, hx, ex⟩, y, hy, ey⟩
  · rw [st_0 ho]; exact h
  · rw [st_1 ho]; exact h
  · rw [st_2 ho]; exact h
  · rw [st_3 ho]; exact h
  · rw [st_4 ho]; exact h
  · rw [st_5 ho]; exact h
  · rw [st_6 ho]; split <;> exact h
  · rw [st_7 ho]; exact h
  · rw [st_8 ho]; exact h
  · rw [st_9 ho]
    have ty : tn (Y s.1) = y := by rw [ey]; exact tn_nI (by omega)
    have tx : tn (X s.1) = x := by rw [ex]; exact tn_nI (by omega)
    have key : ∀ v : Int32, (v = nI 0 ∨ v = nI 1) → okr (upd s.2.2.2.1 (tn (X s.1)) v) := by
      intro v hv k hk
      by_cases e : k = tn (X s.1)
      · subst e; rw [pk_us]; exact hv
      · rw [pk_un e]; exact h k hk
    split
    · exact key _ (by rw [ty]; exact h y hy)
    · refine key _ ?_
      split
      · obtain ⟨j, hj, -, tj⟩ := okr_at h (show tn (Y s.1) < 2 by omega)
        rw [tj]
        rcases (show j = 0 ∨ j = 1 by omega) with rfl | rfl
        · exact Or.inr rfl
        · exact Or.inl rfl
      · obtain ⟨j, hj, -, tj⟩ := okr_at h (show tn (X s.1) < 2 by omega)
        rw [tj]
        rcases (show j = 0 ∨ j = 1 by omega) with rfl | rfl
        · exact Or.inl rfl
        · exact Or.inr rfl
theorem st_le {O X Y : Nat → Int32} {mk : Int32} {s : RS} {n : Nat} (hok : okp O X Y n) (h : s.1 < n) : (stS O X Y mk s).1 ≤ n := by
  obtain ⟨hn, hw, h0, hl⟩ := hok
  rcases hl s.1 h with ⟨ho, -⟩ | ⟨ho, -⟩ | ⟨ho, -⟩ | ⟨ho, -⟩ | ⟨ho, -⟩ | ⟨ho, -⟩ | ho | ⟨ho, -⟩ | ⟨ho, -⟩ | ⟨ho, -⟩
  · rw [st_0 ho]; exact h
  · rw [st_1 ho]; exact h
  · rw [st_2 ho]; exact h
  · rw [st_3 ho]; exact h
  · obtain ⟨e, hm, he⟩ := mt_of_open hw h0 h (Or.inl ho)
    rw [st_4 ho]
    show (if _ then s.1 + 1 else mtf O s.1 + 1) ≤ n
    rw [hm.E]; split
    · exact h
    · exact he
  · obtain ⟨e, hm, he⟩ := mt_of_open hw h0 h (Or.inr ho)
    rw [st_5 ho]
    show (if _ then s.1 + 1 else mtf O s.1 + 1) ≤ n
    rw [hm.E]; split
    · exact h
    · exact he
  · obtain ⟨i, hm⟩ := mt_of_end ho (hw s.1 h ho)
    have := hm.1
    rw [st_6 ho, hm.I]
    split
    · exact h
    · show (if _ then i + 1 else s.1 + 1) ≤ n
      split
      · exact Nat.le_trans hm.1 (Nat.le_of_lt h)
      · exact h
  · rw [st_7 ho]; exact h
  · rw [st_8 ho]; exact h
  · rw [st_9 ho]; split <;> exact h
theorem okr_r0 : okr r0 := by
  intro k hk
  rcases (show k = 0 ∨ k = 1 by omega) with rfl | rfl
  · exact Or.inl rfl
  · exact Or.inr rfl
def rmX5_runLines : Room := { frames := 3, cells := 0, slots := 0, locals := 75 }
set_option maxHeartbeats 4000000 in
set_option maxRecDepth 100000 in
theorem kX5_runLines (G : TG) (o : Nat) (a : Nat → Nat) (S : MS) (p n : Nat) (inp mk ln ins : Int32) (Y : Nat → Int32) (hp : p < 10) (hn : mA S 3 p = nI n) (hY : ∀ k, Y k = if nI k = ln then ins else mA S 2 (20 * p + k)) (hok : okp (fun k => mA S 0 (20 * p + k)) (fun k => mA S 1 (20 * p + k)) Y n) : CT G yX5_runLines cX5_runLines 7 none rmX5_runLines 0 0 [.ref (o), .int (nI (p)), .int (inp), .int (mk), .int (ln), .int (ins)] (MW G o a S) (fun S : MS => MW G o a S) (Rv (fun S' => S' = rnPut S n (rnR (fun k => mA S 0 (20 * p + k)) (fun k => mA S 1 (20 * p + k)) Y n mk inp (mL S)))) := by
  refine CT.enter (by decide) (Nat.le_of_ble_eq_true rfl) (fun X C hnm => ?_)
  refine V.less [(0, .ref (o)), (1, .int (nI (p))), (2, .int (inp)), (3, .int (mk)), (4, .int (ln)), (5, .int (ins))] ⟨rfl, rfl, rfl, rfl, rfl, rfl, trivial⟩ ?_
  have hn20 := hok.1
  refine v_iconst (pc := 0) (v := 0) C dX5_runLines_0 (by decide) ?_
  refine v_istore (pc := 1) C dX5_runLines_1 (by decide) ?_
  have L3 : ∀ (fu : Nat) (k : Nat) (fv : Nat → Int32), (4 < k + fu) → (k ≤ 4) → (∀ j, j < k → fv j = (v0 inp) j) → V G X cX5_runLines 7 rmX5_runLines (QX G X (fun S : MS => MW G o a S) (Rv (fun S' => S' = rnPut S n (rnR (fun k => mA S 0 (20 * p + k)) (fun k => mA S 1 (20 * p + k)) Y n mk inp (mL S)))) 0 0) 0 0 3 (lvo [(0, .ref (o)), (1, .int (nI (p))), (2, .int (inp)), (3, .int (mk)), (4, .int (ln)), (5, .int (ins)), (6, .int (nI (k)))]) [] (MW G o a (sA S 5 fv)) := by
    intro fu
    induction fu with
    | zero => intro k fv hf hk hfv; exfalso; omega
    | succ fu ih =>
      intro k fv hf hk hfv
      refine v_iload (pc := 3) C dX5_runLines_3 rfl ?_
      refine v_iconst (pc := 5) (v := 4) C dX5_runLines_5 (by decide) ?_
      refine v_icmp_geN (pc := 6) (tgt := 32) C (k) 4 rfl rfl (by omega) (by omega) dX5_runLines_6 (by decide) (fun c_6 => ?_) (fun c_6 => ?_)
      · refine V.funI (q0 := 5) (f := fv) (g := (v0 inp)) rfl (fun j hj => hfv j (by omega)) (ws' := (MW G o a (sA S 5 (v0 inp)))) rfl ?_
        refine v_iconst (pc := 32) (v := 0) C dX5_runLines_32 (by decide) ?_
        refine v_istore (pc := 33) C dX5_runLines_33 (by decide) ?_
        have L35 : ∀ (fu : Nat) (k : Nat) (fc : Nat → Int32), (8 < k + fu) → (k ≤ 8) → (∀ j, j < k → fc j = c0 j) → V G X cX5_runLines 7 rmX5_runLines (QX G X (fun S : MS => MW G o a S) (Rv (fun S' => S' = rnPut S n (rnR (fun k => mA S 0 (20 * p + k)) (fun k => mA S 1 (20 * p + k)) Y n mk inp (mL S)))) 0 0) 0 0 35 (lvo [(0, .ref (o)), (1, .int (nI (p))), (2, .int (inp)), (3, .int (mk)), (4, .int (ln)), (5, .int (ins)), (6, .int (nI (k)))]) [] (MW G o a (sA (sA S 5 (v0 inp)) 6 fc)) := by
          intro fu
          induction fu with
          | zero => intro k fc hf hk hfc; exfalso; omega
          | succ fu ih =>
            intro k fc hf hk hfc
            refine v_iload (pc := 35) C dX5_runLines_35 rfl ?_
            refine v_bipush (pc := 37) (v := 8) C dX5_runLines_37 (by decide) ?_
            refine v_icmp_geN (pc := 39) (tgt := 56) C (k) 8 rfl rfl (by omega) (by omega) dX5_runLines_39 (by decide) (fun c_39 => ?_) (fun c_39 => ?_)
            · refine V.funI (q0 := 6) (f := fc) (g := c0) rfl (fun j hj => hfc j (by omega)) (ws' := (MW G o a (sA (sA S 5 (v0 inp)) 6 c0))) rfl ?_
              refine v_aload_n (pc := 56) C dX5_runLines_56 rfl ?_
              refine v_get (pc := 57) (v := .ref (a 7)) C inX5 0 rfl rfl 7 (by decide) kw3_32 rfl dX5_runLines_57 ?_
              refine v_iconst (pc := 60) (v := 0) C dX5_runLines_60 (by decide) ?_
              refine v_iconst (pc := 61) (v := 0) C dX5_runLines_61 (by decide) ?_
              refine v_iastN (pc := 62) (i := 0) (f := (mA S 7)) C 7 rfl (by omega) (by decide) dX5_runLines_62 (ws' := (MW G o a (sA (sA (sA S 5 (v0 inp)) 6 c0) 7 (upd ((mA S 7)) 0 (0 : Int32))))) rfl ?_
              refine v_aload_n (pc := 63) C dX5_runLines_63 rfl ?_
              refine v_get (pc := 64) (v := .ref (a 7)) C inX5 0 rfl rfl 7 (by decide) kw3_32 rfl dX5_runLines_64 ?_
              refine v_iconst (pc := 67) (v := 1) C dX5_runLines_67 (by decide) ?_
              refine v_iconst (pc := 68) (v := 1) C dX5_runLines_68 (by decide) ?_
              refine v_iastN (pc := 69) (i := 1) (f := (upd ((mA S 7)) 0 (0 : Int32))) C 7 rfl (by omega) (by decide) dX5_runLines_69 (ws' := (MW G o a (sA (sA (sA S 5 (v0 inp)) 6 c0) 7 (upd ((upd ((mA S 7)) 0 (0 : Int32))) 1 (1 : Int32))))) rfl ?_
              refine V.funI (q0 := 7) (f := (upd ((upd ((mA S 7)) 0 (0 : Int32))) 1 (1 : Int32))) (g := r0) rfl (fun j hj => by rcases (show j = 0 ∨ j = 1 by omega) with rfl | rfl <;> rfl) (ws' := (MW G o a (sA (sA (sA S 5 (v0 inp)) 6 c0) 7 r0))) rfl ?_
              refine v_aload_n (pc := 70) C dX5_runLines_70 rfl ?_
              refine v_iconst (pc := 71) (v := 0) C dX5_runLines_71 (by decide) ?_
              refine v_put (pc := 72) C inX5 tyX5 tyX5_ok nmX5 0 rfl rfl 10 (by decide) kw3_35 rfl (rfl) rfl (Nat.le_of_ble_eq_true rfl) dX5_runLines_72 (ws' := (MW G o a (sA (sA (sA (sI S 10 (0 : Int32)) 5 (v0 inp)) 6 c0) 7 r0))) rfl ?_
              refine v_aload_n (pc := 75) C dX5_runLines_75 rfl ?_
              refine v_iconst (pc := 76) (v := 0) C dX5_runLines_76 (by decide) ?_
              refine v_put (pc := 77) C inX5 tyX5 tyX5_ok nmX5 0 rfl rfl 11 (by decide) kw3_36 rfl (rfl) rfl (Nat.le_of_ble_eq_true rfl) dX5_runLines_77 (ws' := (MW G o a (sA (sA (sA (sI (sI S 10 (0 : Int32)) 11 (0 : Int32)) 5 (v0 inp)) 6 c0) 7 r0))) rfl ?_
              refine v_iconst (pc := 80) (v := 0) C dX5_runLines_80 (by decide) ?_
              refine v_istore (pc := 81) C dX5_runLines_81 (by decide) ?_
              have L83 : ∀ (fu : Nat) (k : Nat) (ft : Nat → Int32), (20 < k + fu) → (k ≤ 20) → (∀ j, j < k → ft j = c0 j) → V G X cX5_runLines 7 rmX5_runLines (QX G X (fun S : MS => MW G o a S) (Rv (fun S' => S' = rnPut S n (rnR (fun k => mA S 0 (20 * p + k)) (fun k => mA S 1 (20 * p + k)) Y n mk inp (mL S)))) 0 0) 0 0 83 (lvo [(0, .ref (o)), (1, .int (nI (p))), (2, .int (inp)), (3, .int (mk)), (4, .int (ln)), (5, .int (ins)), (6, .int (nI (k)))]) [] (MW G o a (sA (sA (sA (sA (sI (sI S 10 (0 : Int32)) 11 (0 : Int32)) 5 (v0 inp)) 6 c0) 7 r0) 9 ft)) := by
                intro fu
                induction fu with
                | zero => intro k ft hf hk hft; exfalso; omega
                | succ fu ih =>
                  intro k ft hf hk hft
                  refine v_iload (pc := 83) C dX5_runLines_83 rfl ?_
                  refine v_bipush (pc := 85) (v := 20) C dX5_runLines_85 (by decide) ?_
                  refine v_icmp_geN (pc := 87) (tgt := 104) C (k) 20 rfl rfl (by omega) (by omega) dX5_runLines_87 (by decide) (fun c_87 => ?_) (fun c_87 => ?_)
                  · refine V.funI (q0 := 9) (f := ft) (g := c0) rfl (fun j hj => hft j (by omega)) (ws' := (MW G o a (sA (sA (sA (sA (sI (sI S 10 (0 : Int32)) 11 (0 : Int32)) 5 (v0 inp)) 6 c0) 7 r0) 9 c0))) rfl ?_
                    refine v_iconst (pc := 104) (v := 0) C dX5_runLines_104 (by decide) ?_
                    refine v_istore (pc := 105) C dX5_runLines_105 (by decide) ?_
                    have L107 : ∀ (fu : Nat) (i : Nat) (b : Nat) (t : Nat → Int32) (s : RS), (301 < i + b + fu) → (i ≤ 300) → (b ≤ 1) → ((i + (rnS (fun k => mA S 0 (20 * p + k)) (fun k => mA S 1 (20 * p + k)) Y n mk (300 - i) t s).1, (rnS (fun k => mA S 0 (20 * p + k)) (fun k => mA S 1 (20 * p + k)) Y n mk (300 - i) t s).2) = rnR (fun k => mA S 0 (20 * p + k)) (fun k => mA S 1 (20 * p + k)) Y n mk inp (mL S)) → (okr s.2.2.2.1) → (b = 1 → i = 300 ∧ s.1 < n) → (s.1 ≤ n) → V G X cX5_runLines 7 rmX5_runLines (QX G X (fun S : MS => MW G o a S) (Rv (fun S' => S' = rnPut S n (rnR (fun k => mA S 0 (20 * p + k)) (fun k => mA S 1 (20 * p + k)) Y n mk inp (mL S)))) 0 0) 0 0 107 (lvo [(0, .ref (o)), (1, .int (nI (p))), (2, .int (inp)), (3, .int (mk)), (4, .int (ln)), (5, .int (ins)), (6, .int (nI (s.1)))]) [] (MW G o a (sL (sA (sA (sA (sA (sI (sI S 10 (nI i)) 11 (nI b)) 5 s.2.1) 6 s.2.2.1) 7 s.2.2.2.1) 9 t) s.2.2.2.2)) := by
                      intro fu
                      induction fu with
                      | zero => intro i b t s hf hi hb hR hr2 hsp hsn; exfalso; omega
                      | succ fu ih =>
                        intro i b t s hf hi hb hR hr2 hsp hsn
                        refine v_iload (pc := 107) C dX5_runLines_107 rfl ?_
                        refine v_aload_n (pc := 109) C dX5_runLines_109 rfl ?_
                        refine v_get (pc := 110) (v := .ref (a 3)) C inX5 0 rfl rfl 3 (by decide) kw3_28 rfl dX5_runLines_110 ?_
                        refine v_iload_n (pc := 113) C dX5_runLines_113 rfl ?_
                        refine v_ialdN (pc := 114) (i := (p)) (f := (mA S 3)) C 4 rfl (by omega) (by decide) dX5_runLines_114 ?_
                        refine v_cv (y := (nI (n))) (hn) ?_
                        refine v_icmp_geN (pc := 115) (tgt := 201) C (s.1) (n) rfl rfl (by omega) (by omega) dX5_runLines_115 (by decide) (fun c_115 => ?_) (fun c_115 => ?_)
                        · exact v_vret (pc := 201) C dX5_runLines_201 ((sL (sA (sA (sA (sA (sI (sI S 10 (nI i)) 11 (nI b)) 5 s.2.1) 6 s.2.2.1) 7 s.2.2.2.1) 9 t) s.2.2.2.2)) rfl (by rw [← hR, rnS_stop (by omega)]; unfold rnPut; rw [if_neg (by show ¬ s.1 < n; omega), show b = 0 by rcases (show b = 0 ∨ b = 1 by omega) with q | q; exact q; have := hsp q; omega]; rfl)
                        · refine v_aload_n (pc := 118) C dX5_runLines_118 rfl ?_
                          refine v_get (pc := 119) (v := .int (nI (b))) C inX5 0 rfl rfl 11 (by decide) kw3_36 rfl dX5_runLines_119 ?_
                          refine v_if_neN (pc := 122) (tgt := 201) C (b) rfl (by omega) dX5_runLines_122 (by decide) (fun c_122 => ?_) (fun c_122 => ?_)
                          · exact v_vret (pc := 201) C dX5_runLines_201 ((sL (sA (sA (sA (sA (sI (sI S 10 (nI i)) 11 (nI b)) 5 s.2.1) 6 s.2.2.1) 7 s.2.2.2.1) 9 t) s.2.2.2.2)) rfl (by rw [← hR, show 300 - i = 0 by have := hsp (by omega); omega, rnS_0]; unfold rnPut; rw [if_pos (by show s.1 < n; omega), show b = 1 by omega]; rfl)
                          · refine v_aload_n (pc := 125) C dX5_runLines_125 rfl ?_
                            refine v_get (pc := 126) (v := .int (nI (i))) C inX5 0 rfl rfl 10 (by decide) kw3_35 rfl dX5_runLines_126 ?_
                            refine v_sipush (pc := 129) (v := 300) C dX5_runLines_129 (by decide) ?_
                            refine v_icmp_neN (pc := 132) (tgt := 143) C (i) 300 rfl rfl (by omega) (by omega) dX5_runLines_132 (by decide) (fun c_132 => ?_) (fun c_132 => ?_)
                            · refine v_aload_n (pc := 143) C dX5_runLines_143 rfl ?_
                              refine v_dup (pc := 144) C dX5_runLines_144 rfl ?_
                              refine v_get (pc := 145) (v := .int (nI (i))) C inX5 0 rfl rfl 10 (by decide) kw3_35 rfl dX5_runLines_145 ?_
                              refine v_iconst (pc := 148) (v := 1) C dX5_runLines_148 (by decide) ?_
                              refine v_iaddN (pc := 149) C (i) 1 rfl rfl dX5_runLines_149 ?_
                              refine v_put (pc := 150) C inX5 tyX5 tyX5_ok nmX5 0 rfl rfl 10 (by decide) kw3_35 rfl (rfl) rfl (Nat.le_of_ble_eq_true rfl) dX5_runLines_150 (ws' := (MW G o a (sL (sA (sA (sA (sA (sI (sI S 10 (nI ((i) + 1))) 11 (nI b)) 5 s.2.1) 6 s.2.2.1) 7 s.2.2.2.1) 9 t) s.2.2.2.2))) rfl ?_
                              refine v_aload_n (pc := 153) C dX5_runLines_153 rfl ?_
                              refine v_get (pc := 154) (v := .ref (a 9)) C inX5 0 rfl rfl 9 (by decide) kw3_34 rfl dX5_runLines_154 ?_
                              refine v_iload (pc := 157) C dX5_runLines_157 rfl ?_
                              refine v_dup2_11 (pc := 159) C dX5_runLines_159 rfl rfl ?_
                              refine v_ialdN (pc := 160) (i := (s.1)) (f := t) C 9 rfl (by omega) (by decide) dX5_runLines_160 ?_
                              refine v_iconst (pc := 161) (v := 1) C dX5_runLines_161 (by decide) ?_
                              refine v_iadd (pc := 162) C dX5_runLines_162 ?_
                              refine v_iastN (pc := 163) (i := (s.1)) (f := t) C 9 rfl (by omega) (by decide) dX5_runLines_163 (ws' := (MW G o a (sL (sA (sA (sA (sA (sI (sI S 10 (nI ((i) + 1))) 11 (nI b)) 5 s.2.1) 6 s.2.2.1) 7 s.2.2.2.1) 9 (upd (t) (s.1) ((t (s.1)) + (1 : Int32)))) s.2.2.2.2))) rfl ?_
                              refine v_aload_n (pc := 164) C dX5_runLines_164 rfl ?_
                              refine v_iload_n (pc := 165) C dX5_runLines_165 rfl ?_
                              refine v_iload (pc := 166) C dX5_runLines_166 rfl ?_
                              refine v_iload_n (pc := 168) C dX5_runLines_168 rfl ?_
                              have J193 : V G X cX5_runLines 7 rmX5_runLines (QX G X (fun S : MS => MW G o a S) (Rv (fun S' => S' = rnPut S n (rnR (fun k => mA S 0 (20 * p + k)) (fun k => mA S 1 (20 * p + k)) Y n mk inp (mL S)))) 0 0) 0 0 193 (lvo [(0, .ref (o)), (1, .int (nI (p))), (2, .int (inp)), (3, .int (mk)), (4, .int (ln)), (5, .int (ins)), (6, .int (nI (s.1)))]) [.int (Y s.1), .int (mk), .int (nI (s.1)), .int (nI (p)), .ref (o)] (MW G o a (sL (sA (sA (sA (sA (sI (sI S 10 (nI ((i) + 1))) 11 (nI b)) 5 s.2.1) 6 s.2.2.1) 7 s.2.2.2.1) 9 (upd (t) (s.1) ((t (s.1)) + (1 : Int32)))) s.2.2.2.2)) := by
                                skip
                                refine v_callV0 (pc := 193) (st := []) (q0 := 0) C (kX5_doLine G o a (sL (sA (sA (sA (sA (sI (sI S 10 (nI ((i) + 1))) 11 (nI b)) 5 s.2.1) 6 s.2.2.1) 7 s.2.2.2.1) 9 (upd (t) (s.1) ((t (s.1)) + (1 : Int32)))) s.2.2.2.2) p s.1 n Y mk hp (by omega) hok hr2) ykX5_doLine cvX5_doLine kw3_169 dX5_runLines_193 rfl rfl rfl rfl rfl (by decide) (Nat.le_of_ble_eq_true rfl) (by decide) rfl (Ri_kk (fun r_193 u_193 h_193 => ?_))
                                obtain ⟨e1, e2⟩ := h_193
                                subst e1
                                refine V.same (ws' := MW G o a (sL (sA (sA (sA (sA (sI (sI S 10 (nI ((i) + 1))) 11 (nI b)) 5 ((stS (fun k => mA S 0 (20 * p + k)) (fun k => mA S 1 (20 * p + k)) Y mk s)).2.1) 6 ((stS (fun k => mA S 0 (20 * p + k)) (fun k => mA S 1 (20 * p + k)) Y mk s)).2.2.1) 7 ((stS (fun k => mA S 0 (20 * p + k)) (fun k => mA S 1 (20 * p + k)) Y mk s)).2.2.2.1) 9 (upd (t) (s.1) ((t (s.1)) + (1 : Int32)))) ((stS (fun k => mA S 0 (20 * p + k)) (fun k => mA S 1 (20 * p + k)) Y mk s)).2.2.2.2)) (by rw [e2]; rfl) ?_
                                refine v_istore (pc := 196) C dX5_runLines_196 (by decide) ?_
                                refine v_goto (pc := 198) (tgt := 107) C dX5_runLines_198 (by decide) ?_
                                exact V.lessE (ih  (((i) + 1)) (b) ((upd (t) (s.1) ((t (s.1)) + (1 : Int32)))) ((stS (fun k => mA S 0 (20 * p + k)) (fun k => mA S 1 (20 * p + k)) Y mk s)) (by omega) (by omega) (by omega) (by rw [← hR, show 300 - i = (300 - (i + 1)) + 1 by omega, rnS_step (by omega), show i + 1 + (rnS (fun k => mA S 0 (20 * p + k)) (fun k => mA S 1 (20 * p + k)) Y n mk (300 - (i + 1)) (upd t s.1 (t s.1 + 1)) (stS (fun k => mA S 0 (20 * p + k)) (fun k => mA S 1 (20 * p + k)) Y mk s)).1 = i + ((rnS (fun k => mA S 0 (20 * p + k)) (fun k => mA S 1 (20 * p + k)) Y n mk (300 - (i + 1)) (upd t s.1 (t s.1 + 1)) (stS (fun k => mA S 0 (20 * p + k)) (fun k => mA S 1 (20 * p + k)) Y mk s)).1 + 1) by omega]) (okr_st hr2 (hok.2.2.2 s.1 (by omega))) (fun q => absurd q (by omega)) (st_le hok (by omega))) ⟨rfl, rfl, rfl, rfl, rfl, rfl, rfl, trivial⟩
                              refine v_iload (pc := 169) C dX5_runLines_169 rfl ?_
                              refine v_iload (pc := 171) C dX5_runLines_171 rfl ?_
                              refine v_icmp_ne (pc := 173) (tgt := 181) C dX5_runLines_173 (by decide) (fun c_173 => ?_) (fun c_173 => ?_)
                              · refine v_aload_n (pc := 181) C dX5_runLines_181 rfl ?_
                                refine v_get (pc := 182) (v := .ref (a 2)) C inX5 0 rfl rfl 2 (by decide) kw3_27 rfl dX5_runLines_182 ?_
                                refine v_bipush (pc := 185) (v := 20) C dX5_runLines_185 (by decide) ?_
                                refine v_iload_n (pc := 187) C dX5_runLines_187 rfl ?_
                                refine v_imulN (pc := 188) C 20 (p) rfl rfl dX5_runLines_188 ?_
                                refine v_iload (pc := 189) C dX5_runLines_189 rfl ?_
                                refine v_iaddN (pc := 191) C (20 * (p)) (s.1) rfl rfl dX5_runLines_191 ?_
                                refine v_ialdN (pc := 192) (i := ((20 * (p)) + (s.1))) (f := (mA S 2)) C 3 rfl (by omega) (by decide) dX5_runLines_192 ?_
                                refine v_cv (y := (Y s.1)) (by rw [hY, if_neg c_173]) ?_
                                exact V.lessE (J193   ) ⟨rfl, rfl, rfl, rfl, rfl, rfl, rfl, trivial⟩
                              · refine v_iload (pc := 176) C dX5_runLines_176 rfl ?_
                                refine v_cv (y := (Y s.1)) (by rw [hY, if_pos c_173]) ?_
                                refine v_goto (pc := 178) (tgt := 193) C dX5_runLines_178 (by decide) ?_
                                exact V.lessE (J193   ) ⟨rfl, rfl, rfl, rfl, rfl, rfl, rfl, trivial⟩
                            · refine v_aload_n (pc := 135) C dX5_runLines_135 rfl ?_
                              refine v_iconst (pc := 136) (v := 1) C dX5_runLines_136 (by decide) ?_
                              refine v_put (pc := 137) C inX5 tyX5 tyX5_ok nmX5 0 rfl rfl 11 (by decide) kw3_36 rfl (rfl) rfl (Nat.le_of_ble_eq_true rfl) dX5_runLines_137 (ws' := (MW G o a (sL (sA (sA (sA (sA (sI (sI S 10 (nI i)) 11 (1 : Int32)) 5 s.2.1) 6 s.2.2.1) 7 s.2.2.2.1) 9 t) s.2.2.2.2))) rfl ?_
                              refine v_goto (pc := 140) (tgt := 107) C dX5_runLines_140 (by decide) ?_
                              exact V.lessE (ih  (i) (1) (t) (s) (by omega) (by omega) (by omega) (hR) (hr2) (fun _ => ⟨by omega, by omega⟩) (hsn)) ⟨rfl, rfl, rfl, rfl, rfl, rfl, rfl, trivial⟩
                    exact V.lessE (L107 (302) (0) (0) (c0) (((0, v0 inp, c0, r0, mL S) : RS)) (by omega) (by omega) (by omega) (by unfold rnR; rw [Nat.zero_add]) (okr_r0) (fun q => absurd q (by decide)) (Nat.zero_le n)) ⟨rfl, rfl, rfl, rfl, rfl, rfl, rfl, trivial⟩
                  · refine v_aload_n (pc := 90) C dX5_runLines_90 rfl ?_
                    refine v_get (pc := 91) (v := .ref (a 9)) C inX5 0 rfl rfl 9 (by decide) kw3_34 rfl dX5_runLines_91 ?_
                    refine v_iload (pc := 94) C dX5_runLines_94 rfl ?_
                    refine v_iconst (pc := 96) (v := 0) C dX5_runLines_96 (by decide) ?_
                    refine v_iastN (pc := 97) (i := (k)) (f := ft) C 9 rfl (by omega) (by decide) dX5_runLines_97 (ws' := (MW G o a (sA (sA (sA (sA (sI (sI S 10 (0 : Int32)) 11 (0 : Int32)) 5 (v0 inp)) 6 c0) 7 r0) 9 (upd (ft) (k) (0 : Int32))))) rfl ?_
                    refine v_iinc1 (pc := 98) C (k) rfl dX5_runLines_98 rfl ?_
                    refine v_goto (pc := 101) (tgt := 83) C dX5_runLines_101 (by decide) ?_
                    exact V.lessE (ih  (((k) + 1)) ((upd (ft) (k) (0 : Int32))) (by omega) (by omega) (upd_in hft rfl)) ⟨rfl, rfl, rfl, rfl, rfl, rfl, rfl, trivial⟩
              exact V.lessE (L83 (21) (0) ((mA S 9)) (by omega) (by omega) (fun j hj => absurd hj (Nat.not_lt_zero j))) ⟨rfl, rfl, rfl, rfl, rfl, rfl, rfl, trivial⟩
            · refine v_aload_n (pc := 42) C dX5_runLines_42 rfl ?_
              refine v_get (pc := 43) (v := .ref (a 6)) C inX5 0 rfl rfl 6 (by decide) kw3_31 rfl dX5_runLines_43 ?_
              refine v_iload (pc := 46) C dX5_runLines_46 rfl ?_
              refine v_iconst (pc := 48) (v := 0) C dX5_runLines_48 (by decide) ?_
              refine v_iastN (pc := 49) (i := (k)) (f := fc) C 6 rfl (by omega) (by decide) dX5_runLines_49 (ws' := (MW G o a (sA (sA S 5 (v0 inp)) 6 (upd (fc) (k) (0 : Int32))))) rfl ?_
              refine v_iinc1 (pc := 50) C (k) rfl dX5_runLines_50 rfl ?_
              refine v_goto (pc := 53) (tgt := 35) C dX5_runLines_53 (by decide) ?_
              exact V.lessE (ih  (((k) + 1)) ((upd (fc) (k) (0 : Int32))) (by omega) (by omega) (upd_in hfc rfl)) ⟨rfl, rfl, rfl, rfl, rfl, rfl, rfl, trivial⟩
        exact V.lessE (L35 (9) (0) ((mA S 6)) (by omega) (by omega) (fun j hj => absurd hj (Nat.not_lt_zero j))) ⟨rfl, rfl, rfl, rfl, rfl, rfl, rfl, trivial⟩
      · refine v_aload_n (pc := 9) C dX5_runLines_9 rfl ?_
        refine v_get (pc := 10) (v := .ref (a 5)) C inX5 0 rfl rfl 5 (by decide) kw3_30 rfl dX5_runLines_10 ?_
        refine v_iload (pc := 13) C dX5_runLines_13 rfl ?_
        refine v_iload (pc := 15) C dX5_runLines_15 rfl ?_
        refine v_if_neN (pc := 17) (tgt := 24) C (k) rfl (by omega) dX5_runLines_17 (by decide) (fun c_17 => ?_) (fun c_17 => ?_)
        · refine v_iconst (pc := 24) (v := 0) C dX5_runLines_24 (by decide) ?_
          refine v_iastN (pc := 25) (i := (k)) (f := fv) C 5 rfl (by omega) (by decide) dX5_runLines_25 (ws' := (MW G o a (sA S 5 (upd (fv) (k) (0 : Int32))))) rfl ?_
          refine v_iinc1 (pc := 26) C (k) rfl dX5_runLines_26 rfl ?_
          refine v_goto (pc := 29) (tgt := 3) C dX5_runLines_29 (by decide) ?_
          exact V.lessE (ih  (((k) + 1)) ((upd (fv) (k) (0 : Int32))) (by omega) (by omega) (upd_in hfv (by unfold v0; rw [if_neg c_17]))) ⟨rfl, rfl, rfl, rfl, rfl, rfl, rfl, trivial⟩
        · refine v_iload_n (pc := 20) C dX5_runLines_20 rfl ?_
          refine v_goto (pc := 21) (tgt := 25) C dX5_runLines_21 (by decide) ?_
          refine v_iastN (pc := 25) (i := (k)) (f := fv) C 5 rfl (by omega) (by decide) dX5_runLines_25 (ws' := (MW G o a (sA S 5 (upd (fv) (k) (inp))))) rfl ?_
          refine v_iinc1 (pc := 26) C (k) rfl dX5_runLines_26 rfl ?_
          refine v_goto (pc := 29) (tgt := 3) C dX5_runLines_29 (by decide) ?_
          exact V.lessE (ih  (((k) + 1)) ((upd (fv) (k) (inp))) (by omega) (by omega) (upd_in hfv (by subst c_17; rfl))) ⟨rfl, rfl, rfl, rfl, rfl, rfl, rfl, trivial⟩
  exact V.lessE (L3 (5) (0) ((mA S 5)) (by omega) (by omega) (fun j hj => absurd hj (Nat.not_lt_zero j))) ⟨rfl, rfl, rfl, rfl, rfl, rfl, rfl, trivial⟩
