/-! the machine: a whole run -/
theorem KRel_0 {O : Nat → Int32} {S : MS} {inp : Int32} : KRel O (0, v0 inp, c0, r0, fun _ => 0) (sA (sA (sA (sA S 0 (upd (fun _ => 0) 0 inp)) 1 (fun _ => 0)) 2 (upd (upd (mA S 2) 0 0) 1 4)) 3 (fun _ => 0)) := by
  refine ⟨fun k hk => ?_, fun k hk => rfl, fun k hk => ?_, fun k hk => ?_⟩
  · show upd (fun _ => 0) 0 inp k = v0 inp k
    by_cases e : k = 0
    · subst e; exact pk_us
    · rw [pk_un e]; exact (if_neg e).symm
  · show upd (upd (mA S 2) 0 0) 1 4 k = nI (4 * tn (r0 k))
    rcases (show k = 0 ∨ k = 1 by omega) with rfl | rfl <;> rfl
  · obtain ⟨e, -, -, h, -⟩ := hk
    exact absurd h (Nat.not_lt_zero k)
def rmX0_perform : Room := { frames := 2, cells := 0, slots := 0, locals := 48 }
set_option maxHeartbeats 4000000 in
set_option maxRecDepth 100000 in
theorem kX0_perform (G : TG) (p o : Nat) (c b : Nat → Nat) (T S : MS) (O Ξ Y : Nat → Int32) (n : Nat) (inp mk : Int32) (hP : PR O Ξ Y n T) (hok : okp O Ξ Y n) : CT G yX0_perform cX0_perform 5 none rmX0_perform 0 0 [.ref (o), .ref (p), .int (inp), .int (mk)] (PWd G p c T ++ (KWd G o b S)) (fun S : MS => PWd G p c T ++ KWd G o b S) (Rv (fun S' => KFin n (RUN O Ξ Y n mk inp) S' ∧ mI S' 5 = mk)) := by
  refine CT.enter (by decide) (Nat.le_of_ble_eq_true rfl) (fun X C hnm => ?_)
  refine V.less [(0, .ref (o)), (1, .ref (p)), (2, .int (inp)), (3, .int (mk))] ⟨rfl, rfl, rfl, rfl, trivial⟩ ?_
  generalize hQ : (QX G X (fun S : MS => PWd G p c T ++ KWd G o b S) (Rv (fun S' => KFin n (RUN O Ξ Y n mk inp) S' ∧ mI S' 5 = mk)) 0 0) = Qq
  have hn20 := hok.1
  refine v_aload_n (pc := 0) C dX0_perform_0 rfl ?_
  refine v_iload_n (pc := 1) C dX0_perform_1 rfl ?_
  refine v_callV (pc := 2) (st := []) (q0 := 0) (wr := (PWd G p c T)) C (kX0_begin G o b S inp) ykX0_begin cvX0_begin kw1_239 dX0_perform_2 rfl rfl rfl rfl rfl (by decide) (Nat.le_of_ble_eq_true rfl) (by decide) rfl (Rv_kk (fun u_2 h_2 => ?_))
  rw [h_2]
  refine V.same (ws' := (PWd G p c T ++ (KWd G o b (sA (sA (sA (sA S 0 (upd (fun _ => 0) 0 inp)) 1 (fun _ => 0)) 2 (upd (upd (mA S 2) 0 0) 1 4)) 3 (fun _ => 0))))) rfl ?_
  refine v_aload_n (pc := 5) C dX0_perform_5 rfl ?_
  refine v_iload_n (pc := 6) C dX0_perform_6 rfl ?_
  refine v_put (pc := 7) C inX0 tyX0 tyX0_ok nmX0 7 rfl rfl 5 (by decide) kw1_38 rfl (rfl) rfl (Nat.le_of_ble_eq_true rfl) dX0_perform_7 (ws' := (PWd G p c T ++ (KWd G o b (sA (sA (sA (sA (sI S 5 (mk)) 0 (upd (fun _ => 0) 0 inp)) 1 (fun _ => 0)) 2 (upd (upd (mA S 2) 0 0) 1 4)) 3 (fun _ => 0))))) rfl ?_
  refine v_aload_n (pc := 10) C dX0_perform_10 rfl ?_
  refine v_aload_n (pc := 11) C dX0_perform_11 rfl ?_
  refine v_getN (pc := 12) (v := .int (mI T 7)) C inX1 0 rfl rfl 7 (by decide) nw_17 rfl dX0_perform_12 ?_
  refine v_cv (y := (nI (n))) (hP.1) ?_
  refine v_put (pc := 15) C inX0 tyX0 tyX0_ok nmX0 7 rfl rfl 6 (by decide) kw1_39 rfl (rfl) rfl (Nat.le_of_ble_eq_true rfl) dX0_perform_15 (ws' := (PWd G p c T ++ (KWd G o b (sA (sA (sA (sA (sI (sI S 5 (mk)) 6 (nI (n))) 0 (upd (fun _ => 0) 0 inp)) 1 (fun _ => 0)) 2 (upd (upd (mA S 2) 0 0) 1 4)) 3 (fun _ => 0))))) rfl ?_
  refine v_iconst (pc := 18) (v := 0) C dX0_perform_18 (by decide) ?_
  refine v_istore (pc := 19) C dX0_perform_19 (by decide) ?_
  refine v_aload_n (pc := 21) C dX0_perform_21 rfl ?_
  refine v_iconst (pc := 22) (v := 0) C dX0_perform_22 (by decide) ?_
  refine v_put (pc := 23) C inX0 tyX0 tyX0_ok nmX0 7 rfl rfl 7 (by decide) kw1_41 rfl (rfl) rfl (Nat.le_of_ble_eq_true rfl) dX0_perform_23 (ws' := (PWd G p c T ++ (KWd G o b (sA (sA (sA (sA (sI (sI (sI S 5 (mk)) 6 (nI (n))) 7 (0 : Int32)) 0 (upd (fun _ => 0) 0 inp)) 1 (fun _ => 0)) 2 (upd (upd (mA S 2) 0 0) 1 4)) 3 (fun _ => 0))))) rfl ?_
  have L26 : ∀ (fu : Nat) (i : Nat) (s : RS) (t : Nat → Int32) (S1 : MS), (300 < i + fu) → (i ≤ 300) → (s.1 ≤ n) → ((i + (rnS O Ξ Y n mk (300 - i) t s).1, (rnS O Ξ Y n mk (300 - i) t s).2) = RUN O Ξ Y n mk inp) → (KRel O s S1) → (okr s.2.2.2.1) → (sl1 mk s.2.2.2.1) → (mI S1 5 = mk) → (mI S1 6 = nI n) → (mI S1 7 = nI i) → (∀ k, k < 20 → mA S1 3 k = t k) → V G X cX0_perform 5 rmX0_perform Qq 0 0 26 (lvo [(0, .ref (o)), (1, .ref (p)), (2, .int (inp)), (3, .int (mk)), (4, .int (nI (s.1)))]) [] (PWd G p c T ++ (KWd G o b S1)) := by
    intro fu
    induction fu with
    | zero => intro i s t S1 hf hi hsn hR hK1 hr1 hl1 h5 h6 h7 ht; exfalso; omega
    | succ fu ih26 =>
      intro i s t S1 hf hi hsn hR hK1 hr1 hl1 h5 h6 h7 ht
      refine v_aload_n (pc := 26) C dX0_perform_26 rfl ?_
      refine v_get (pc := 27) (v := .int (mI S1 7)) C inX0 7 rfl rfl 7 (by decide) kw1_41 rfl dX0_perform_27 ?_
      refine v_cv (y := (nI (i))) (h7) ?_
      refine v_sipush (pc := 30) (v := 300) C dX0_perform_30 (by decide) ?_
      refine v_icmp_geN (pc := 33) (tgt := 78) C (i) 300 rfl rfl (by omega) (by omega) dX0_perform_33 (by decide) (fun c_33 => ?_) (fun c_33 => ?_)
      · refine v_aload_n (pc := 78) C dX0_perform_78 rfl ?_
        refine v_iload (pc := 79) C dX0_perform_79 rfl ?_
        refine v_aload_n (pc := 81) C dX0_perform_81 rfl ?_
        refine v_get (pc := 82) (v := .int (mI S1 6)) C inX0 7 rfl rfl 6 (by decide) kw1_39 rfl dX0_perform_82 ?_
        refine v_cv (y := (nI (n))) (h6) ?_
        refine v_icmp_geN (pc := 85) (tgt := 92) C (s.1) (n) rfl rfl (by omega) (by omega) dX0_perform_85 (by decide) (fun c_85 => ?_) (fun c_85 => ?_)
        · refine v_iconst (pc := 92) (v := 0) C dX0_perform_92 (by decide) ?_
          refine v_put (pc := 93) C inX0 tyX0 tyX0_ok nmX0 7 rfl rfl 8 (by decide) kw1_43 rfl (rfl) rfl (Nat.le_of_ble_eq_true rfl) dX0_perform_93 (ws' := (PWd G p c T ++ (KWd G o b (sI S1 8 (0 : Int32))))) rfl ?_
          subst hQ
          exact v_vret (pc := 96) C dX0_perform_96 ((sI S1 8 (0 : Int32))) rfl (⟨by have e9 : RUN O Ξ Y n mk inp = (300, t, s) := (by rw [← hR, show 300 - i = 0 by omega, show i = 300 by omega]; rfl); rw [e9]; exact ⟨hK1.1, hK1.2.1, hK1.2.2.1, ht, h6, by rw [show 300 = i by omega]; exact h7, by rw [if_neg (by show ¬ s.1 < n; omega)]; rfl, hr1⟩, h5⟩)
        · refine v_iconst (pc := 88) (v := 1) C dX0_perform_88 (by decide) ?_
          refine v_goto (pc := 89) (tgt := 93) C dX0_perform_89 (by decide) ?_
          refine v_put (pc := 93) C inX0 tyX0 tyX0_ok nmX0 7 rfl rfl 8 (by decide) kw1_43 rfl (rfl) rfl (Nat.le_of_ble_eq_true rfl) dX0_perform_93 (ws' := (PWd G p c T ++ (KWd G o b (sI S1 8 (1 : Int32))))) rfl ?_
          subst hQ
          exact v_vret (pc := 96) C dX0_perform_96 ((sI S1 8 (1 : Int32))) rfl (⟨by have e9 : RUN O Ξ Y n mk inp = (300, t, s) := (by rw [← hR, show 300 - i = 0 by omega, show i = 300 by omega]; rfl); rw [e9]; exact ⟨hK1.1, hK1.2.1, hK1.2.2.1, ht, h6, by rw [show 300 = i by omega]; exact h7, by rw [if_pos (by show s.1 < n; omega)]; rfl, hr1⟩, h5⟩)
      · refine v_iload (pc := 36) C dX0_perform_36 rfl ?_
        refine v_aload_n (pc := 38) C dX0_perform_38 rfl ?_
        refine v_get (pc := 39) (v := .int (mI S1 6)) C inX0 7 rfl rfl 6 (by decide) kw1_39 rfl dX0_perform_39 ?_
        refine v_cv (y := (nI (n))) (h6) ?_
        refine v_icmp_geN (pc := 42) (tgt := 78) C (s.1) (n) rfl rfl (by omega) (by omega) dX0_perform_42 (by decide) (fun c_42 => ?_) (fun c_42 => ?_)
        · refine v_aload_n (pc := 78) C dX0_perform_78 rfl ?_
          refine v_iload (pc := 79) C dX0_perform_79 rfl ?_
          refine v_aload_n (pc := 81) C dX0_perform_81 rfl ?_
          refine v_get (pc := 82) (v := .int (mI S1 6)) C inX0 7 rfl rfl 6 (by decide) kw1_39 rfl dX0_perform_82 ?_
          refine v_cv (y := (nI (n))) (h6) ?_
          refine v_icmp_geN (pc := 85) (tgt := 92) C (s.1) (n) rfl rfl (by omega) (by omega) dX0_perform_85 (by decide) (fun c_85 => ?_) (fun c_85 => ?_)
          · refine v_iconst (pc := 92) (v := 0) C dX0_perform_92 (by decide) ?_
            refine v_put (pc := 93) C inX0 tyX0 tyX0_ok nmX0 7 rfl rfl 8 (by decide) kw1_43 rfl (rfl) rfl (Nat.le_of_ble_eq_true rfl) dX0_perform_93 (ws' := (PWd G p c T ++ (KWd G o b (sI S1 8 (0 : Int32))))) rfl ?_
            subst hQ
            exact v_vret (pc := 96) C dX0_perform_96 ((sI S1 8 (0 : Int32))) rfl (⟨by have e9 : RUN O Ξ Y n mk inp = (i, t, s) := (by rw [← hR, rnS_stop (by omega)]; rfl); rw [e9]; exact ⟨hK1.1, hK1.2.1, hK1.2.2.1, ht, h6, h7, by rw [if_neg (by show ¬ s.1 < n; omega)]; rfl, hr1⟩, h5⟩)
          · refine v_iconst (pc := 88) (v := 1) C dX0_perform_88 (by decide) ?_
            refine v_goto (pc := 89) (tgt := 93) C dX0_perform_89 (by decide) ?_
            refine v_put (pc := 93) C inX0 tyX0 tyX0_ok nmX0 7 rfl rfl 8 (by decide) kw1_43 rfl (rfl) rfl (Nat.le_of_ble_eq_true rfl) dX0_perform_93 (ws' := (PWd G p c T ++ (KWd G o b (sI S1 8 (1 : Int32))))) rfl ?_
            subst hQ
            exact v_vret (pc := 96) C dX0_perform_96 ((sI S1 8 (1 : Int32))) rfl (⟨by have e9 : RUN O Ξ Y n mk inp = (i, t, s) := (by rw [← hR, rnS_stop (by omega)]; rfl); rw [e9]; exact ⟨hK1.1, hK1.2.1, hK1.2.2.1, ht, h6, h7, by rw [if_pos (by show s.1 < n; omega)]; rfl, hr1⟩, h5⟩)
        · refine v_aload_n (pc := 45) C dX0_perform_45 rfl ?_
          refine v_get (pc := 46) (v := .ref (b 3)) C inX0 7 rfl rfl 3 (by decide) kw1_35 rfl dX0_perform_46 ?_
          refine v_iload (pc := 49) C dX0_perform_49 rfl ?_
          refine v_dup2_11 (pc := 51) C dX0_perform_51 rfl rfl ?_
          refine v_ialdN (pc := 52) (i := (s.1)) (f := (mA S1 3)) C 11 rfl (by omega) (by decide) dX0_perform_52 ?_
          refine v_iconst (pc := 53) (v := 1) C dX0_perform_53 (by decide) ?_
          refine v_iadd (pc := 54) C dX0_perform_54 ?_
          refine v_iastN (pc := 55) (i := (s.1)) (f := (mA S1 3)) C 11 rfl (by omega) (by decide) dX0_perform_55 (ws' := (PWd G p c T ++ (KWd G o b (sA S1 3 (upd ((mA S1 3)) (s.1) (((mA S1 3) (s.1)) + (1 : Int32))))))) rfl ?_
          refine v_aload_n (pc := 56) C dX0_perform_56 rfl ?_
          refine v_aload_n (pc := 57) C dX0_perform_57 rfl ?_
          refine v_iload (pc := 58) C dX0_perform_58 rfl ?_
          refine v_callV0 (pc := 60) (st := []) (q0 := 7) C (kX0_doLine G p o c b T (sA S1 3 (upd ((mA S1 3)) (s.1) (((mA S1 3) (s.1)) + (1 : Int32)))) s hP hok (by omega) hK1 hr1 hl1 h5) ykX0_doLine cvX0_doLine kw2_4 dX0_perform_60 rfl rfl rfl rfl rfl (by decide) (Nat.le_of_ble_eq_true rfl) (by decide) rfl (Ri_kk (fun r_60 u_60 h_60 => ?_))
          obtain ⟨e_60, hK2, hI2, hT2⟩ := h_60
          subst e_60
          refine v_istore (pc := 63) C dX0_perform_63 (by decide) ?_
          refine v_aload_n (pc := 65) C dX0_perform_65 rfl ?_
          refine v_dup (pc := 66) C dX0_perform_66 rfl ?_
          refine v_get (pc := 67) (v := .int (mI u_60 7)) C inX0 7 rfl rfl 7 (by decide) kw1_41 rfl dX0_perform_67 ?_
          refine v_cv (y := (nI (i))) ((hI2 7).trans h7) ?_
          refine v_iconst (pc := 70) (v := 1) C dX0_perform_70 (by decide) ?_
          refine v_iaddN (pc := 71) C (i) 1 rfl rfl dX0_perform_71 ?_
          refine v_put (pc := 72) C inX0 tyX0 tyX0_ok nmX0 7 rfl rfl 7 (by decide) kw1_41 rfl (rfl) rfl (Nat.le_of_ble_eq_true rfl) dX0_perform_72 (ws' := (PWd G p c T ++ (KWd G o b (sI u_60 7 (nI ((i) + 1)))))) rfl ?_
          refine v_goto (pc := 75) (tgt := 26) C dX0_perform_75 (by decide) ?_
          exact V.lessE (ih26  (i + 1) ((stS O Ξ Y mk s)) (upd t s.1 (t s.1 + 1)) ((sI u_60 7 (nI ((i) + 1)))) (by omega) (by omega) (st_le hok (by omega)) (by rw [← hR, show 300 - i = (300 - (i + 1)) + 1 by omega, rnS_step (by omega), show i + 1 + (rnS O Ξ Y n mk (300 - (i + 1)) (upd t s.1 (t s.1 + 1)) (stS O Ξ Y mk s)).1 = i + ((rnS O Ξ Y n mk (300 - (i + 1)) (upd t s.1 (t s.1 + 1)) (stS O Ξ Y mk s)).1 + 1) by omega]) (hK2) (okr_st hr1 (hok.2.2.2 s.1 (by omega))) (sl1_st hl1 (hok.2.2.2 s.1 (by omega))) ((hI2 5).trans h5) ((hI2 6).trans h6) (rfl) (fun k hk => by show mA u_60 3 k = _; rw [hT2]; exact upd_ag (m := 20) ht (by rw [ht s.1 (by omega)]) k hk)) ⟨rfl, rfl, rfl, rfl, rfl, trivial⟩
  exact V.lessE (L26 (301) (0) (((0, v0 inp, c0, r0, fun _ => 0) : RS)) (c0) ((sA (sA (sA (sA (sI (sI (sI S 5 (mk)) 6 (nI (n))) 7 (0 : Int32)) 0 (upd (fun _ => 0) 0 inp)) 1 (fun _ => 0)) 2 (upd (upd (mA S 2) 0 0) 1 4)) 3 (fun _ => 0))) (by omega) (by omega) (Nat.zero_le n) (by unfold RUN rnR; rw [Nat.zero_add]) (KRel_0) (okr_r0) (fun _ => ⟨rfl, rfl⟩) (rfl) (rfl) (rfl) (fun _ _ => rfl)) ⟨rfl, rfl, rfl, rfl, rfl, trivial⟩
