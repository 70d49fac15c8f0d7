/-! the reference: PUT, GET, SHARE and one line -/
theorem okr_at {rw : Nat → Int32} (h : okr rw) {k : Nat} (hk : k < 2) : ∃ j, j < 2 ∧ rw k = nI j ∧ tn (rw k) = j := by
  rcases h k hk with q | q
  · exact ⟨0, by omega, q, by rw [q]; exact tn_nI (by omega)⟩
  · exact ⟨1, by omega, q, by rw [q]; exact tn_nI (by omega)⟩
theorem and3_at (x : Int32) : ∃ j, j < 4 ∧ x &&& 3 = nI j ∧ tn (x &&& 3) = j := by
  obtain ⟨j, h1, h2⟩ := pk_andE x (m := 3) 2 (by decide)
  exact ⟨j, h1, h2, by rw [h2]; exact tn_nI (by omega)⟩
theorem has01 {m b r : Int32} (h : r = if m &&& b = 0 then 0 else 1) : (m &&& b = 0 ∧ r = 0) ∨ (¬ m &&& b = 0 ∧ r = 1) := by
  by_cases q : m &&& b = 0
  · exact Or.inl ⟨q, by rw [h, if_pos q]⟩
  · exact Or.inr ⟨q, by rw [h, if_neg q]⟩
def rmX5_rows : Room := { frames := 1, cells := 0, slots := 0, locals := 21 }
set_option maxHeartbeats 4000000 in
set_option maxRecDepth 100000 in
theorem kX5_rows_7 (G : TG) (o : Nat) (a : Nat → Nat) (S : MS) (x y : Nat) (mk : Int32) (hr : okr (mA S 7)) (hx : x < 8) (hy : y < 4) : CT G yX5_rows cX5_rows 8 none rmX5_rows 0 0 [.ref (o), .int 7, .int (nI (x)), .int (nI (y)), .int (mk)] (MW G o a S) (fun S : MS => MW G o a S) (Rv (fun S' => S' = sA S 6 (upd (mA S 6) (4 * tn (mA S 7 (x / 4)) + tn (mA S 5 (x % 4) &&& 3)) (mA S 5 y)))) := by
  refine CT.enter (by decide) (Nat.le_of_ble_eq_true rfl) (fun X C hnm => ?_)
  refine V.less [(0, .ref (o)), (1, .int 7), (2, .int (nI (x))), (3, .int (nI (y))), (4, .int (mk))] ⟨rfl, rfl, rfl, rfl, rfl, trivial⟩ ?_
  obtain ⟨ρ, hρ, eρ, tρ⟩ := okr_at hr (show x / 4 < 2 by omega)
  obtain ⟨κ, hκ, eκ, tκ⟩ := and3_at (mA S 5 (x % 4))
  refine v_iload_n (pc := 0) C dX5_rows_0 rfl ?_
  refine v_bipush (pc := 1) (v := 7) C dX5_rows_1 (by decide) ?_
  refine v_icmp_ne (pc := 3) (tgt := 41) C dX5_rows_3 (by decide) (fun q => absurd (by decide) q) (fun _ => ?_)
  refine v_aload_n (pc := 6) C dX5_rows_6 rfl ?_
  refine v_get (pc := 7) (v := .ref (a 6)) C inX5 0 rfl rfl 6 (by decide) kw3_31 rfl dX5_rows_7 ?_
  refine v_iconst (pc := 10) (v := 4) C dX5_rows_10 (by decide) ?_
  refine v_aload_n (pc := 11) C dX5_rows_11 rfl ?_
  refine v_get (pc := 12) (v := .ref (a 7)) C inX5 0 rfl rfl 7 (by decide) kw3_32 rfl dX5_rows_12 ?_
  refine v_iload_n (pc := 15) C dX5_rows_15 rfl ?_
  refine v_iconst (pc := 16) (v := 4) C dX5_rows_16 (by decide) ?_
  refine v_idivN (pc := 17) C (x) 4 rfl rfl (by omega) (by omega) (by omega) dX5_rows_17 ?_
  refine v_ialdN (pc := 18) (i := ((x) / 4)) (f := (mA S 7)) C 7 rfl (by omega) (by decide) dX5_rows_18 ?_
  refine v_cv (y := (nI (ρ))) (eρ) ?_
  refine v_imulN (pc := 19) C 4 (ρ) rfl rfl dX5_rows_19 ?_
  refine v_aload_n (pc := 20) C dX5_rows_20 rfl ?_
  refine v_get (pc := 21) (v := .ref (a 5)) C inX5 0 rfl rfl 5 (by decide) kw3_30 rfl dX5_rows_21 ?_
  refine v_iload_n (pc := 24) C dX5_rows_24 rfl ?_
  refine v_iconst (pc := 25) (v := 4) C dX5_rows_25 (by decide) ?_
  refine v_iremN (pc := 26) C (x) 4 rfl rfl (by omega) (by omega) (by omega) dX5_rows_26 ?_
  refine v_ialdN (pc := 27) (i := ((x) % 4)) (f := (mA S 5)) C 5 rfl (by omega) (by decide) dX5_rows_27 ?_
  refine v_iconst (pc := 28) (v := 3) C dX5_rows_28 (by decide) ?_
  refine v_iand (pc := 29) C dX5_rows_29 ?_
  refine v_cv (y := (nI (κ))) (eκ) ?_
  refine v_iaddN (pc := 30) C (4 * (ρ)) (κ) rfl rfl dX5_rows_30 ?_
  refine v_aload_n (pc := 31) C dX5_rows_31 rfl ?_
  refine v_get (pc := 32) (v := .ref (a 5)) C inX5 0 rfl rfl 5 (by decide) kw3_30 rfl dX5_rows_32 ?_
  refine v_iload_n (pc := 35) C dX5_rows_35 rfl ?_
  refine v_ialdN (pc := 36) (i := (y)) (f := (mA S 5)) C 5 rfl (by omega) (by decide) dX5_rows_36 ?_
  refine v_iastN (pc := 37) (i := ((4 * (ρ)) + (κ))) (f := (mA S 6)) C 6 rfl (by omega) (by decide) dX5_rows_37 (ws' := (MW G o a (sA S 6 (upd ((mA S 6)) ((4 * (ρ)) + (κ)) ((mA S 5) (y)))))) rfl ?_
  refine v_goto (pc := 38) (tgt := 211) C dX5_rows_38 (by decide) ?_
  exact v_vret (pc := 211) C dX5_rows_211 ((sA S 6 (upd ((mA S 6)) ((4 * (ρ)) + (κ)) ((mA S 5) (y))))) rfl (by rw [tρ, tκ])
set_option maxHeartbeats 4000000 in
set_option maxRecDepth 100000 in
theorem kX5_rows_8 (G : TG) (o : Nat) (a : Nat → Nat) (S : MS) (x y : Nat) (mk : Int32) (hr : okr (mA S 7)) (hx : x < 4) (hy : y < 8) : CT G yX5_rows cX5_rows 8 none rmX5_rows 0 0 [.ref (o), .int 8, .int (nI (x)), .int (nI (y)), .int (mk)] (MW G o a S) (fun S : MS => MW G o a S) (Rv (fun S' => S' = sA S 5 (upd (mA S 5) x (mA S 6 (4 * tn (mA S 7 (y / 4)) + tn ((mA S 5 (y % 4) + (if mk &&& 32 = 0 then 0 else 1)) &&& 3)))))) := by
  refine CT.enter (by decide) (Nat.le_of_ble_eq_true rfl) (fun X C hnm => ?_)
  refine V.less [(0, .ref (o)), (1, .int 8), (2, .int (nI (x))), (3, .int (nI (y))), (4, .int (mk))] ⟨rfl, rfl, rfl, rfl, rfl, trivial⟩ ?_
  obtain ⟨ρ, hρ, eρ, tρ⟩ := okr_at hr (show y / 4 < 2 by omega)
  obtain ⟨κ, hκ, eκ, tκ⟩ := and3_at (mA S 5 (y % 4) + (if mk &&& 32 = 0 then 0 else 1))
  refine v_iload_n (pc := 0) C dX5_rows_0 rfl ?_
  refine v_bipush (pc := 1) (v := 7) C dX5_rows_1 (by decide) ?_
  refine v_icmp_ne (pc := 3) (tgt := 41) C dX5_rows_3 (by decide) (fun _ => ?_) (fun q => absurd q (by decide))
  refine v_iload_n (pc := 41) C dX5_rows_41 rfl ?_
  refine v_bipush (pc := 42) (v := 8) C dX5_rows_42 (by decide) ?_
  refine v_icmp_ne (pc := 44) (tgt := 102) C dX5_rows_44 (by decide) (fun q => absurd (by decide) q) (fun _ => ?_)
  refine v_aload_n (pc := 47) C dX5_rows_47 rfl ?_
  refine v_get (pc := 48) (v := .ref (a 5)) C inX5 0 rfl rfl 5 (by decide) kw3_30 rfl dX5_rows_48 ?_
  refine v_iload_n (pc := 51) C dX5_rows_51 rfl ?_
  refine v_iconst (pc := 52) (v := 4) C dX5_rows_52 (by decide) ?_
  refine v_iremN (pc := 53) C (y) 4 rfl rfl (by omega) (by omega) (by omega) dX5_rows_53 ?_
  refine v_ialdN (pc := 54) (i := ((y) % 4)) (f := (mA S 5)) C 5 rfl (by omega) (by decide) dX5_rows_54 ?_
  refine v_iload (pc := 55) C dX5_rows_55 rfl ?_
  refine v_bipush (pc := 57) (v := 32) C dX5_rows_57 (by decide) ?_
  refine v_callS0 (pc := 59) (st := [.int ((mA S 5) ((y) % 4))]) C (kX5_has G _ mk 32) ykX5_has kw3_174 kw3_173 dX5_rows_59 rfl rfl rfl (by decide) (Nat.le_of_ble_eq_true rfl) (by decide) rfl (Ri_kk (fun r_59 u_59 h_59 => ?_))
  rcases (has01 h_59) with ⟨q_59, rfl⟩ | ⟨q_59, rfl⟩
  · refine v_if_eqT (pc := 62) (tgt := 69) C (by decide) dX5_rows_62 (by decide) ?_
    refine v_iconst (pc := 69) (v := 0) C dX5_rows_69 (by decide) ?_
    refine v_iadd (pc := 70) C dX5_rows_70 ?_
    refine v_iconst (pc := 71) (v := 3) C dX5_rows_71 (by decide) ?_
    refine v_iand (pc := 72) C dX5_rows_72 ?_
    refine v_cv (y := (nI (κ))) (by rw [if_pos q_59] at eκ; exact eκ) ?_
    refine v_istore (pc := 73) C dX5_rows_73 (by decide) ?_
    refine v_aload_n (pc := 75) C dX5_rows_75 rfl ?_
    refine v_get (pc := 76) (v := .ref (a 5)) C inX5 0 rfl rfl 5 (by decide) kw3_30 rfl dX5_rows_76 ?_
    refine v_iload_n (pc := 79) C dX5_rows_79 rfl ?_
    refine v_aload_n (pc := 80) C dX5_rows_80 rfl ?_
    refine v_get (pc := 81) (v := .ref (a 6)) C inX5 0 rfl rfl 6 (by decide) kw3_31 rfl dX5_rows_81 ?_
    refine v_iconst (pc := 84) (v := 4) C dX5_rows_84 (by decide) ?_
    refine v_aload_n (pc := 85) C dX5_rows_85 rfl ?_
    refine v_get (pc := 86) (v := .ref (a 7)) C inX5 0 rfl rfl 7 (by decide) kw3_32 rfl dX5_rows_86 ?_
    refine v_iload_n (pc := 89) C dX5_rows_89 rfl ?_
    refine v_iconst (pc := 90) (v := 4) C dX5_rows_90 (by decide) ?_
    refine v_idivN (pc := 91) C (y) 4 rfl rfl (by omega) (by omega) (by omega) dX5_rows_91 ?_
    refine v_ialdN (pc := 92) (i := ((y) / 4)) (f := (mA S 7)) C 7 rfl (by omega) (by decide) dX5_rows_92 ?_
    refine v_cv (y := (nI (ρ))) (eρ) ?_
    refine v_imulN (pc := 93) C 4 (ρ) rfl rfl dX5_rows_93 ?_
    refine v_iload (pc := 94) C dX5_rows_94 rfl ?_
    refine v_iaddN (pc := 96) C (4 * (ρ)) (κ) rfl rfl dX5_rows_96 ?_
    refine v_ialdN (pc := 97) (i := ((4 * (ρ)) + (κ))) (f := (mA S 6)) C 6 rfl (by omega) (by decide) dX5_rows_97 ?_
    refine v_iastN (pc := 98) (i := (x)) (f := (mA S 5)) C 5 rfl (by omega) (by decide) dX5_rows_98 (ws' := (MW G o a (sA S 5 (upd ((mA S 5)) (x) ((mA S 6) ((4 * (ρ)) + (κ))))))) rfl ?_
    refine v_goto (pc := 99) (tgt := 211) C dX5_rows_99 (by decide) ?_
    exact v_vret (pc := 211) C dX5_rows_211 ((sA S 5 (upd ((mA S 5)) (x) ((mA S 6) ((4 * (ρ)) + (κ)))))) rfl (by rw [tρ, tκ])
  · refine v_if_eqF (pc := 62) (tgt := 69) C (by decide) dX5_rows_62 (by decide) ?_
    refine v_iconst (pc := 65) (v := 1) C dX5_rows_65 (by decide) ?_
    refine v_goto (pc := 66) (tgt := 70) C dX5_rows_66 (by decide) ?_
    refine v_iadd (pc := 70) C dX5_rows_70 ?_
    refine v_iconst (pc := 71) (v := 3) C dX5_rows_71 (by decide) ?_
    refine v_iand (pc := 72) C dX5_rows_72 ?_
    refine v_cv (y := (nI (κ))) (by rw [if_neg q_59] at eκ; exact eκ) ?_
    refine v_istore (pc := 73) C dX5_rows_73 (by decide) ?_
    refine v_aload_n (pc := 75) C dX5_rows_75 rfl ?_
    refine v_get (pc := 76) (v := .ref (a 5)) C inX5 0 rfl rfl 5 (by decide) kw3_30 rfl dX5_rows_76 ?_
    refine v_iload_n (pc := 79) C dX5_rows_79 rfl ?_
    refine v_aload_n (pc := 80) C dX5_rows_80 rfl ?_
    refine v_get (pc := 81) (v := .ref (a 6)) C inX5 0 rfl rfl 6 (by decide) kw3_31 rfl dX5_rows_81 ?_
    refine v_iconst (pc := 84) (v := 4) C dX5_rows_84 (by decide) ?_
    refine v_aload_n (pc := 85) C dX5_rows_85 rfl ?_
    refine v_get (pc := 86) (v := .ref (a 7)) C inX5 0 rfl rfl 7 (by decide) kw3_32 rfl dX5_rows_86 ?_
    refine v_iload_n (pc := 89) C dX5_rows_89 rfl ?_
    refine v_iconst (pc := 90) (v := 4) C dX5_rows_90 (by decide) ?_
    refine v_idivN (pc := 91) C (y) 4 rfl rfl (by omega) (by omega) (by omega) dX5_rows_91 ?_
    refine v_ialdN (pc := 92) (i := ((y) / 4)) (f := (mA S 7)) C 7 rfl (by omega) (by decide) dX5_rows_92 ?_
    refine v_cv (y := (nI (ρ))) (eρ) ?_
    refine v_imulN (pc := 93) C 4 (ρ) rfl rfl dX5_rows_93 ?_
    refine v_iload (pc := 94) C dX5_rows_94 rfl ?_
    refine v_iaddN (pc := 96) C (4 * (ρ)) (κ) rfl rfl dX5_rows_96 ?_
    refine v_ialdN (pc := 97) (i := ((4 * (ρ)) + (κ))) (f := (mA S 6)) C 6 rfl (by omega) (by decide) dX5_rows_97 ?_
    refine v_iastN (pc := 98) (i := (x)) (f := (mA S 5)) C 5 rfl (by omega) (by decide) dX5_rows_98 (ws' := (MW G o a (sA S 5 (upd ((mA S 5)) (x) ((mA S 6) ((4 * (ρ)) + (κ))))))) rfl ?_
    refine v_goto (pc := 99) (tgt := 211) C dX5_rows_99 (by decide) ?_
    exact v_vret (pc := 211) C dX5_rows_211 ((sA S 5 (upd ((mA S 5)) (x) ((mA S 6) ((4 * (ρ)) + (κ)))))) rfl (by rw [tρ, tκ])
set_option maxHeartbeats 4000000 in
set_option maxRecDepth 100000 in
theorem kX5_rows_9 (G : TG) (o : Nat) (a : Nat → Nat) (S : MS) (x y : Nat) (mk : Int32) (hr : okr (mA S 7)) (hx : x < 2) (hy : y < 2) (hm : mk &&& 1 = 0) : CT G yX5_rows cX5_rows 8 none rmX5_rows 0 0 [.ref (o), .int 9, .int (nI (x)), .int (nI (y)), .int (mk)] (MW G o a S) (fun S : MS => MW G o a S) (Rv (fun S' => S' = sA S 7 (upd (mA S 7) x (mA S 7 y)))) := by
  refine CT.enter (by decide) (Nat.le_of_ble_eq_true rfl) (fun X C hnm => ?_)
  refine V.less [(0, .ref (o)), (1, .int 9), (2, .int (nI (x))), (3, .int (nI (y))), (4, .int (mk))] ⟨rfl, rfl, rfl, rfl, rfl, trivial⟩ ?_
  refine v_iload_n (pc := 0) C dX5_rows_0 rfl ?_
  refine v_bipush (pc := 1) (v := 7) C dX5_rows_1 (by decide) ?_
  refine v_icmp_ne (pc := 3) (tgt := 41) C dX5_rows_3 (by decide) (fun _ => ?_) (fun q => absurd q (by decide))
  refine v_iload_n (pc := 41) C dX5_rows_41 rfl ?_
  refine v_bipush (pc := 42) (v := 8) C dX5_rows_42 (by decide) ?_
  refine v_icmp_ne (pc := 44) (tgt := 102) C dX5_rows_44 (by decide) (fun _ => ?_) (fun q => absurd q (by decide))
  refine v_iload (pc := 102) C dX5_rows_102 rfl ?_
  refine v_iconst (pc := 104) (v := 1) C dX5_rows_104 (by decide) ?_
  refine v_callS0 (pc := 105) (st := []) C (kX5_has G _ mk 1) ykX5_has kw3_174 kw3_173 dX5_rows_105 rfl rfl rfl (by decide) (Nat.le_of_ble_eq_true rfl) (by decide) rfl (Ri_kk (fun r_105 u_105 h_105 => ?_))
  rw [if_pos hm] at h_105; subst h_105
  refine v_if_eqT (pc := 108) (tgt := 199) C (by decide) dX5_rows_108 (by decide) ?_
  refine v_aload_n (pc := 199) C dX5_rows_199 rfl ?_
  refine v_get (pc := 200) (v := .ref (a 7)) C inX5 0 rfl rfl 7 (by decide) kw3_32 rfl dX5_rows_200 ?_
  refine v_iload_n (pc := 203) C dX5_rows_203 rfl ?_
  refine v_aload_n (pc := 204) C dX5_rows_204 rfl ?_
  refine v_get (pc := 205) (v := .ref (a 7)) C inX5 0 rfl rfl 7 (by decide) kw3_32 rfl dX5_rows_205 ?_
  refine v_iload_n (pc := 208) C dX5_rows_208 rfl ?_
  refine v_ialdN (pc := 209) (i := (y)) (f := (mA S 7)) C 7 rfl (by omega) (by decide) dX5_rows_209 ?_
  refine v_iastN (pc := 210) (i := (x)) (f := (mA S 7)) C 7 rfl (by omega) (by decide) dX5_rows_210 (ws' := (MW G o a (sA S 7 (upd ((mA S 7)) (x) ((mA S 7) (y)))))) rfl ?_
  exact v_vret (pc := 211) C dX5_rows_211 ((sA S 7 (upd ((mA S 7)) (x) ((mA S 7) (y))))) rfl (rfl)
set_option maxHeartbeats 4000000 in
set_option maxRecDepth 100000 in
theorem kX5_rows_9s (G : TG) (o : Nat) (a : Nat → Nat) (S : MS) (x y : Nat) (mk : Int32) (hr : okr (mA S 7)) (hx : x < 2) (hy : y < 2) (hm : ¬ mk &&& 1 = 0) : CT G yX5_rows cX5_rows 8 none rmX5_rows 0 0 [.ref (o), .int 9, .int (nI (x)), .int (nI (y)), .int (mk)] (MW G o a S) (fun S : MS => MW G o a S) (Rv (fun S' => S' = sA (sA S 6 (cpk (mA S 6) (tn (mA S 7 y)) (if mA S 7 0 = mA S 7 1 then 1 - tn (mA S 7 y) else tn (mA S 7 x)) 4)) 7 (upd (mA S 7) x (nI (if mA S 7 0 = mA S 7 1 then 1 - tn (mA S 7 y) else tn (mA S 7 x)))))) := by
  refine CT.enter (by decide) (Nat.le_of_ble_eq_true rfl) (fun X C hnm => ?_)
  refine V.less [(0, .ref (o)), (1, .int 9), (2, .int (nI (x))), (3, .int (nI (y))), (4, .int (mk))] ⟨rfl, rfl, rfl, rfl, rfl, trivial⟩ ?_
  obtain ⟨ρ, hρ, eρ, tρ⟩ := okr_at hr hy
  obtain ⟨σ, hσ, eσ, tσ⟩ := okr_at hr hx
  refine v_iload_n (pc := 0) C dX5_rows_0 rfl ?_
  refine v_bipush (pc := 1) (v := 7) C dX5_rows_1 (by decide) ?_
  refine v_icmp_ne (pc := 3) (tgt := 41) C dX5_rows_3 (by decide) (fun _ => ?_) (fun q => absurd q (by decide))
  refine v_iload_n (pc := 41) C dX5_rows_41 rfl ?_
  refine v_bipush (pc := 42) (v := 8) C dX5_rows_42 (by decide) ?_
  refine v_icmp_ne (pc := 44) (tgt := 102) C dX5_rows_44 (by decide) (fun _ => ?_) (fun q => absurd q (by decide))
  refine v_iload (pc := 102) C dX5_rows_102 rfl ?_
  refine v_iconst (pc := 104) (v := 1) C dX5_rows_104 (by decide) ?_
  refine v_callS0 (pc := 105) (st := []) C (kX5_has G _ mk 1) ykX5_has kw3_174 kw3_173 dX5_rows_105 rfl rfl rfl (by decide) (Nat.le_of_ble_eq_true rfl) (by decide) rfl (Ri_kk (fun r_105 u_105 h_105 => ?_))
  rw [if_neg hm] at h_105; subst h_105
  refine v_if_eqF (pc := 108) (tgt := 199) C (by decide) dX5_rows_108 (by decide) ?_
  refine v_aload_n (pc := 111) C dX5_rows_111 rfl ?_
  refine v_get (pc := 112) (v := .ref (a 7)) C inX5 0 rfl rfl 7 (by decide) kw3_32 rfl dX5_rows_112 ?_
  refine v_iload_n (pc := 115) C dX5_rows_115 rfl ?_
  refine v_ialdN (pc := 116) (i := (y)) (f := (mA S 7)) C 7 rfl (by omega) (by decide) dX5_rows_116 ?_
  refine v_cv (y := (nI (ρ))) (eρ) ?_
  refine v_istore (pc := 117) C dX5_rows_117 (by decide) ?_
  refine v_aload_n (pc := 119) C dX5_rows_119 rfl ?_
  refine v_get (pc := 120) (v := .ref (a 7)) C inX5 0 rfl rfl 7 (by decide) kw3_32 rfl dX5_rows_120 ?_
  refine v_iconst (pc := 123) (v := 0) C dX5_rows_123 (by decide) ?_
  refine v_ialdN (pc := 124) (i := 0) (f := (mA S 7)) C 7 rfl (by omega) (by decide) dX5_rows_124 ?_
  refine v_aload_n (pc := 125) C dX5_rows_125 rfl ?_
  refine v_get (pc := 126) (v := .ref (a 7)) C inX5 0 rfl rfl 7 (by decide) kw3_32 rfl dX5_rows_126 ?_
  refine v_iconst (pc := 129) (v := 1) C dX5_rows_129 (by decide) ?_
  refine v_ialdN (pc := 130) (i := 1) (f := (mA S 7)) C 7 rfl (by omega) (by decide) dX5_rows_130 ?_
  refine v_icmp_ne (pc := 131) (tgt := 141) C dX5_rows_131 (by decide) (fun c_131 => ?_) (fun c_131 => ?_)
  · refine v_aload_n (pc := 141) C dX5_rows_141 rfl ?_
    refine v_get (pc := 142) (v := .ref (a 7)) C inX5 0 rfl rfl 7 (by decide) kw3_32 rfl dX5_rows_142 ?_
    refine v_iload_n (pc := 145) C dX5_rows_145 rfl ?_
    refine v_ialdN (pc := 146) (i := (x)) (f := (mA S 7)) C 7 rfl (by omega) (by decide) dX5_rows_146 ?_
    refine v_cv (y := (nI (σ))) (eσ) ?_
    refine v_istore (pc := 147) C dX5_rows_147 (by decide) ?_
    refine v_iconst (pc := 149) (v := 0) C dX5_rows_149 (by decide) ?_
    refine v_istore (pc := 150) C dX5_rows_150 (by decide) ?_
    have L152 : ∀ (fu : Nat) (k : Nat) (c : Nat → Int32), (4 < k + fu) → (k ≤ 4) → (c = cpk (mA S 6) ρ ((σ)) k) → V G X cX5_rows 8 rmX5_rows (QX G X (fun S : MS => MW G o a S) (Rv (fun S' => S' = sA (sA S 6 (cpk (mA S 6) (tn (mA S 7 y)) (if mA S 7 0 = mA S 7 1 then 1 - tn (mA S 7 y) else tn (mA S 7 x)) 4)) 7 (upd (mA S 7) x (nI (if mA S 7 0 = mA S 7 1 then 1 - tn (mA S 7 y) else tn (mA S 7 x)))))) 0 0) 0 0 152 (lvo [(0, .ref (o)), (1, .int 9), (2, .int (nI (x))), (3, .int (nI (y))), (4, .int (mk)), (5, .int (nI (ρ))), (6, .int (nI (σ))), (7, .int (nI (k)))]) [] (MW G o a (sA S 6 c)) := by
      intro fu
      induction fu with
      | zero => intro k c hf hk hc; exfalso; omega
      | succ fu ih =>
        intro k c hf hk hc
        refine v_iload (pc := 152) C dX5_rows_152 rfl ?_
        refine v_iconst (pc := 154) (v := 4) C dX5_rows_154 (by decide) ?_
        refine v_icmp_geN (pc := 155) (tgt := 188) C (k) 4 rfl rfl (by omega) (by omega) dX5_rows_155 (by decide) (fun c_155 => ?_) (fun c_155 => ?_)
        · refine v_aload_n (pc := 188) C dX5_rows_188 rfl ?_
          refine v_get (pc := 189) (v := .ref (a 7)) C inX5 0 rfl rfl 7 (by decide) kw3_32 rfl dX5_rows_189 ?_
          refine v_iload_n (pc := 192) C dX5_rows_192 rfl ?_
          refine v_iload (pc := 193) C dX5_rows_193 rfl ?_
          refine v_iastN (pc := 195) (i := (x)) (f := (mA S 7)) C 7 rfl (by omega) (by decide) dX5_rows_195 (ws' := (MW G o a (sA (sA S 6 c) 7 (upd ((mA S 7)) (x) (nI (σ)))))) rfl ?_
          refine v_goto (pc := 196) (tgt := 211) C dX5_rows_196 (by decide) ?_
          exact v_vret (pc := 211) C dX5_rows_211 ((sA (sA S 6 c) 7 (upd ((mA S 7)) (x) (nI (σ))))) rfl (by rw [hc, show k = 4 by omega, if_neg c_131, tσ, tρ])
        · refine v_aload_n (pc := 158) C dX5_rows_158 rfl ?_
          refine v_get (pc := 159) (v := .ref (a 6)) C inX5 0 rfl rfl 6 (by decide) kw3_31 rfl dX5_rows_159 ?_
          refine v_iconst (pc := 162) (v := 4) C dX5_rows_162 (by decide) ?_
          refine v_iload (pc := 163) C dX5_rows_163 rfl ?_
          refine v_imulN (pc := 165) C 4 (σ) rfl rfl dX5_rows_165 ?_
          refine v_iload (pc := 166) C dX5_rows_166 rfl ?_
          refine v_iaddN (pc := 168) C (4 * (σ)) (k) rfl rfl dX5_rows_168 ?_
          refine v_aload_n (pc := 169) C dX5_rows_169 rfl ?_
          refine v_get (pc := 170) (v := .ref (a 6)) C inX5 0 rfl rfl 6 (by decide) kw3_31 rfl dX5_rows_170 ?_
          refine v_iconst (pc := 173) (v := 4) C dX5_rows_173 (by decide) ?_
          refine v_iload (pc := 174) C dX5_rows_174 rfl ?_
          refine v_imulN (pc := 176) C 4 (ρ) rfl rfl dX5_rows_176 ?_
          refine v_iload (pc := 177) C dX5_rows_177 rfl ?_
          refine v_iaddN (pc := 179) C (4 * (ρ)) (k) rfl rfl dX5_rows_179 ?_
          refine v_ialdN (pc := 180) (i := ((4 * (ρ)) + (k))) (f := c) C 6 rfl (by omega) (by decide) dX5_rows_180 ?_
          refine v_iastN (pc := 181) (i := ((4 * (σ)) + (k))) (f := c) C 6 rfl (by omega) (by decide) dX5_rows_181 (ws' := (MW G o a (sA S 6 (upd (c) ((4 * (σ)) + (k)) (c ((4 * (ρ)) + (k))))))) rfl ?_
          refine v_iinc1 (pc := 182) C (k) rfl dX5_rows_182 rfl ?_
          refine v_goto (pc := 185) (tgt := 152) C dX5_rows_185 (by decide) ?_
          exact V.lessE (ih  (((k) + 1)) ((upd (c) ((4 * (σ)) + (k)) (c ((4 * (ρ)) + (k))))) (by omega) (by omega) (by rw [hc]; rfl)) ⟨rfl, rfl, rfl, rfl, rfl, rfl, rfl, rfl, trivial⟩
    exact V.lessE (L152 (5) (0) ((mA S 6)) (by omega) (by omega) (rfl)) ⟨rfl, rfl, rfl, rfl, rfl, rfl, rfl, rfl, trivial⟩
  · refine v_iconst (pc := 134) (v := 1) C dX5_rows_134 (by decide) ?_
    refine v_iload (pc := 135) C dX5_rows_135 rfl ?_
    refine v_isubN (pc := 137) C 1 (ρ) rfl rfl (by omega) dX5_rows_137 ?_
    refine v_goto (pc := 138) (tgt := 147) C dX5_rows_138 (by decide) ?_
    refine v_istore (pc := 147) C dX5_rows_147 (by decide) ?_
    refine v_iconst (pc := 149) (v := 0) C dX5_rows_149 (by decide) ?_
    refine v_istore (pc := 150) C dX5_rows_150 (by decide) ?_
    have L152 : ∀ (fu : Nat) (k : Nat) (c : Nat → Int32), (4 < k + fu) → (k ≤ 4) → (c = cpk (mA S 6) ρ ((1 - (ρ))) k) → V G X cX5_rows 8 rmX5_rows (QX G X (fun S : MS => MW G o a S) (Rv (fun S' => S' = sA (sA S 6 (cpk (mA S 6) (tn (mA S 7 y)) (if mA S 7 0 = mA S 7 1 then 1 - tn (mA S 7 y) else tn (mA S 7 x)) 4)) 7 (upd (mA S 7) x (nI (if mA S 7 0 = mA S 7 1 then 1 - tn (mA S 7 y) else tn (mA S 7 x)))))) 0 0) 0 0 152 (lvo [(0, .ref (o)), (1, .int 9), (2, .int (nI (x))), (3, .int (nI (y))), (4, .int (mk)), (5, .int (nI (ρ))), (6, .int (nI (1 - (ρ)))), (7, .int (nI (k)))]) [] (MW G o a (sA S 6 c)) := by
      intro fu
      induction fu with
      | zero => intro k c hf hk hc; exfalso; omega
      | succ fu ih =>
        intro k c hf hk hc
        refine v_iload (pc := 152) C dX5_rows_152 rfl ?_
        refine v_iconst (pc := 154) (v := 4) C dX5_rows_154 (by decide) ?_
        refine v_icmp_geN (pc := 155) (tgt := 188) C (k) 4 rfl rfl (by omega) (by omega) dX5_rows_155 (by decide) (fun c_155 => ?_) (fun c_155 => ?_)
        · refine v_aload_n (pc := 188) C dX5_rows_188 rfl ?_
          refine v_get (pc := 189) (v := .ref (a 7)) C inX5 0 rfl rfl 7 (by decide) kw3_32 rfl dX5_rows_189 ?_
          refine v_iload_n (pc := 192) C dX5_rows_192 rfl ?_
          refine v_iload (pc := 193) C dX5_rows_193 rfl ?_
          refine v_iastN (pc := 195) (i := (x)) (f := (mA S 7)) C 7 rfl (by omega) (by decide) dX5_rows_195 (ws' := (MW G o a (sA (sA S 6 c) 7 (upd ((mA S 7)) (x) (nI (1 - (ρ))))))) rfl ?_
          refine v_goto (pc := 196) (tgt := 211) C dX5_rows_196 (by decide) ?_
          exact v_vret (pc := 211) C dX5_rows_211 ((sA (sA S 6 c) 7 (upd ((mA S 7)) (x) (nI (1 - (ρ)))))) rfl (by rw [hc, show k = 4 by omega, if_pos c_131, tρ])
        · refine v_aload_n (pc := 158) C dX5_rows_158 rfl ?_
          refine v_get (pc := 159) (v := .ref (a 6)) C inX5 0 rfl rfl 6 (by decide) kw3_31 rfl dX5_rows_159 ?_
          refine v_iconst (pc := 162) (v := 4) C dX5_rows_162 (by decide) ?_
          refine v_iload (pc := 163) C dX5_rows_163 rfl ?_
          refine v_imulN (pc := 165) C 4 (1 - (ρ)) rfl rfl dX5_rows_165 ?_
          refine v_iload (pc := 166) C dX5_rows_166 rfl ?_
          refine v_iaddN (pc := 168) C (4 * (1 - (ρ))) (k) rfl rfl dX5_rows_168 ?_
          refine v_aload_n (pc := 169) C dX5_rows_169 rfl ?_
          refine v_get (pc := 170) (v := .ref (a 6)) C inX5 0 rfl rfl 6 (by decide) kw3_31 rfl dX5_rows_170 ?_
          refine v_iconst (pc := 173) (v := 4) C dX5_rows_173 (by decide) ?_
          refine v_iload (pc := 174) C dX5_rows_174 rfl ?_
          refine v_imulN (pc := 176) C 4 (ρ) rfl rfl dX5_rows_176 ?_
          refine v_iload (pc := 177) C dX5_rows_177 rfl ?_
          refine v_iaddN (pc := 179) C (4 * (ρ)) (k) rfl rfl dX5_rows_179 ?_
          refine v_ialdN (pc := 180) (i := ((4 * (ρ)) + (k))) (f := c) C 6 rfl (by omega) (by decide) dX5_rows_180 ?_
          refine v_iastN (pc := 181) (i := ((4 * (1 - (ρ))) + (k))) (f := c) C 6 rfl (by omega) (by decide) dX5_rows_181 (ws' := (MW G o a (sA S 6 (upd (c) ((4 * (1 - (ρ))) + (k)) (c ((4 * (ρ)) + (k))))))) rfl ?_
          refine v_iinc1 (pc := 182) C (k) rfl dX5_rows_182 rfl ?_
          refine v_goto (pc := 185) (tgt := 152) C dX5_rows_185 (by decide) ?_
          exact V.lessE (ih  (((k) + 1)) ((upd (c) ((4 * (1 - (ρ))) + (k)) (c ((4 * (ρ)) + (k))))) (by omega) (by omega) (by rw [hc]; rfl)) ⟨rfl, rfl, rfl, rfl, rfl, rfl, rfl, rfl, trivial⟩
    exact V.lessE (L152 (5) (0) ((mA S 6)) (by omega) (by omega) (rfl)) ⟨rfl, rfl, rfl, rfl, rfl, rfl, rfl, rfl, trivial⟩
