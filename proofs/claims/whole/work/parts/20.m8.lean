/-! the reference: mayBe, line -/
theorem mb01 {b : Bool} {r : Int32} (h : r = if b = false then 0 else 1) : (b = false ∧ r = 0) ∨ (¬ b = false ∧ r = 1) := by
  by_cases q : b = false
  · exact Or.inl ⟨q, by rw [h, if_pos q]⟩
  · exact Or.inr ⟨q, by rw [h, if_neg q]⟩
def rmX5_mayBe : Room := { frames := 1, cells := 0, slots := 0, locals := 22 }
set_option maxHeartbeats 4000000 in
set_option maxRecDepth 100000 in
theorem kX5_mayBe (G : TG) (ws : va_W) (c x y : Int32) : CT G yX5_mayBe cX5_mayBe 4 (some .boolean) rmX5_mayBe 0 0 [.int (c), .int (x), .int (y)] ws (fun _ : Unit => ws) (Ri (fun r _ => r = if mayB c x y = false then 0 else 1)) := by
  refine CT.enter (by decide) (Nat.le_of_ble_eq_true rfl) (fun X C hnm => ?_)
  refine V.less [(0, .int (c)), (1, .int (x)), (2, .int (y))] ⟨rfl, rfl, rfl, trivial⟩ ?_
  generalize hQ : (QX G X (fun _ : Unit => ws) (Ri (fun r _ => r = if mayB c x y = false then 0 else 1)) 0 0) = Qq
  refine v_iload_n (pc := 0) C dX5_mayBe_0 rfl ?_
  refine v_iconst (pc := 1) (v := 0) C dX5_mayBe_1 (by decide) ?_
  refine v_iconst (pc := 2) (v := 3) C dX5_mayBe_2 (by decide) ?_
  refine v_callS0 (pc := 3) (st := []) C (kX5_within G _ x 0 3) ykX5_within kw3_142 kw3_141 dX5_mayBe_3 rfl rfl rfl (by decide) (Nat.le_of_ble_eq_true rfl) (by decide) rfl (Ri_kk (fun r_3 u_3 h_3 => ?_))
  rcases (w01 h_3) with ⟨q_3, rfl⟩ | ⟨q_3, rfl⟩
  · refine v_istore_n (pc := 6) C dX5_mayBe_6 (by decide) ?_
    refine v_iload_n (pc := 7) C dX5_mayBe_7 rfl ?_
    by_cases sw_8_0 : (c) = 0
    · refine v_cv (y := 0) sw_8_0 ?_
      refine v_tableIn (pc := 8) (tgt := 64) C dX5_mayBe_8 (by decide) (by decide) rfl (by decide) ?_
      refine v_iload_n (pc := 64) C dX5_mayBe_64 rfl ?_
      refine v_if_eqT (pc := 65) (tgt := 83) C (by decide) dX5_mayBe_65 (by decide) ?_
      refine v_iconst (pc := 83) (v := 0) C dX5_mayBe_83 (by decide) ?_
      subst hQ
      exact v_iret (pc := 84) C dX5_mayBe_84 (rfl) (()) rfl (by rw [sw_8_0]; simp [mayB, inw_f q_3])
    by_cases sw_8_1 : (c) = 1
    · refine v_cv (y := 1) sw_8_1 ?_
      refine v_tableIn (pc := 8) (tgt := 85) C dX5_mayBe_8 (by decide) (by decide) rfl (by decide) ?_
      refine v_iload_n (pc := 85) C dX5_mayBe_85 rfl ?_
      refine v_if_eqT (pc := 86) (tgt := 102) C (by decide) dX5_mayBe_86 (by decide) ?_
      refine v_iconst (pc := 102) (v := 0) C dX5_mayBe_102 (by decide) ?_
      subst hQ
      exact v_iret (pc := 103) C dX5_mayBe_103 (rfl) (()) rfl (by rw [sw_8_1]; simp [mayB, inw_f q_3])
    by_cases sw_8_2 : (c) = 2
    · refine v_cv (y := 2) sw_8_2 ?_
      refine v_tableIn (pc := 8) (tgt := 85) C dX5_mayBe_8 (by decide) (by decide) rfl (by decide) ?_
      refine v_iload_n (pc := 85) C dX5_mayBe_85 rfl ?_
      refine v_if_eqT (pc := 86) (tgt := 102) C (by decide) dX5_mayBe_86 (by decide) ?_
      refine v_iconst (pc := 102) (v := 0) C dX5_mayBe_102 (by decide) ?_
      subst hQ
      exact v_iret (pc := 103) C dX5_mayBe_103 (rfl) (()) rfl (by rw [sw_8_2]; simp [mayB, inw_f q_3])
    by_cases sw_8_3 : (c) = 3
    · refine v_cv (y := 3) sw_8_3 ?_
      refine v_tableIn (pc := 8) (tgt := 85) C dX5_mayBe_8 (by decide) (by decide) rfl (by decide) ?_
      refine v_iload_n (pc := 85) C dX5_mayBe_85 rfl ?_
      refine v_if_eqT (pc := 86) (tgt := 102) C (by decide) dX5_mayBe_86 (by decide) ?_
      refine v_iconst (pc := 102) (v := 0) C dX5_mayBe_102 (by decide) ?_
      subst hQ
      exact v_iret (pc := 103) C dX5_mayBe_103 (rfl) (()) rfl (by rw [sw_8_3]; simp [mayB, inw_f q_3])
    by_cases sw_8_4 : (c) = 4
    · refine v_cv (y := 4) sw_8_4 ?_
      refine v_tableIn (pc := 8) (tgt := 104) C dX5_mayBe_8 (by decide) (by decide) rfl (by decide) ?_
      refine v_iload_n (pc := 104) C dX5_mayBe_104 rfl ?_
      refine v_if_eqT (pc := 105) (tgt := 116) C (by decide) dX5_mayBe_105 (by decide) ?_
      refine v_iconst (pc := 116) (v := 0) C dX5_mayBe_116 (by decide) ?_
      subst hQ
      exact v_iret (pc := 117) C dX5_mayBe_117 (rfl) (()) rfl (by rw [sw_8_4]; simp [mayB, inw_f q_3])
    by_cases sw_8_5 : (c) = 5
    · refine v_cv (y := 5) sw_8_5 ?_
      refine v_tableIn (pc := 8) (tgt := 85) C dX5_mayBe_8 (by decide) (by decide) rfl (by decide) ?_
      refine v_iload_n (pc := 85) C dX5_mayBe_85 rfl ?_
      refine v_if_eqT (pc := 86) (tgt := 102) C (by decide) dX5_mayBe_86 (by decide) ?_
      refine v_iconst (pc := 102) (v := 0) C dX5_mayBe_102 (by decide) ?_
      subst hQ
      exact v_iret (pc := 103) C dX5_mayBe_103 (rfl) (()) rfl (by rw [sw_8_5]; simp [mayB, inw_f q_3])
    by_cases sw_8_6 : (c) = 6
    · refine v_cv (y := 6) sw_8_6 ?_
      refine v_tableIn (pc := 8) (tgt := 118) C dX5_mayBe_8 (by decide) (by decide) rfl (by decide) ?_
      refine v_iload_n (pc := 118) C dX5_mayBe_118 rfl ?_
      refine v_if_ne (pc := 119) (tgt := 130) C dX5_mayBe_119 (by decide) (fun c_119 => ?_) (fun c_119 => ?_)
      · refine v_iconst (pc := 130) (v := 0) C dX5_mayBe_130 (by decide) ?_
        subst hQ
        exact v_iret (pc := 131) C dX5_mayBe_131 (rfl) (()) rfl (by rw [sw_8_6]; simp [mayB, inw_f q_3, c_119])
      · refine v_iload_n (pc := 122) C dX5_mayBe_122 rfl ?_
        refine v_if_ne (pc := 123) (tgt := 130) C dX5_mayBe_123 (by decide) (fun c_123 => ?_) (fun c_123 => ?_)
        · refine v_iconst (pc := 130) (v := 0) C dX5_mayBe_130 (by decide) ?_
          subst hQ
          exact v_iret (pc := 131) C dX5_mayBe_131 (rfl) (()) rfl (by rw [sw_8_6]; simp [mayB, inw_f q_3, c_119, c_123])
        · refine v_iconst (pc := 126) (v := 1) C dX5_mayBe_126 (by decide) ?_
          refine v_goto (pc := 127) (tgt := 131) C dX5_mayBe_127 (by decide) ?_
          subst hQ
          exact v_iret (pc := 131) C dX5_mayBe_131 (rfl) (()) rfl (by rw [sw_8_6]; simp [mayB, inw_f q_3, c_119, c_123])
    by_cases sw_8_7 : (c) = 7
    · refine v_cv (y := 7) sw_8_7 ?_
      refine v_tableIn (pc := 8) (tgt := 132) C dX5_mayBe_8 (by decide) (by decide) rfl (by decide) ?_
      refine v_iload_n (pc := 132) C dX5_mayBe_132 rfl ?_
      refine v_iconst (pc := 133) (v := 0) C dX5_mayBe_133 (by decide) ?_
      refine v_bipush (pc := 134) (v := 7) C dX5_mayBe_134 (by decide) ?_
      refine v_callS0 (pc := 136) (st := []) C (kX5_within G _ x 0 7) ykX5_within kw3_142 kw3_141 dX5_mayBe_136 rfl rfl rfl (by decide) (Nat.le_of_ble_eq_true rfl) (by decide) rfl (Ri_kk (fun r_136 u_136 h_136 => ?_))
      rcases (w01 h_136) with ⟨q_136, rfl⟩ | ⟨q_136, rfl⟩
      · refine v_if_eqT (pc := 139) (tgt := 155) C (by decide) dX5_mayBe_139 (by decide) ?_
        refine v_iconst (pc := 155) (v := 0) C dX5_mayBe_155 (by decide) ?_
        subst hQ
        exact v_iret (pc := 156) C dX5_mayBe_156 (rfl) (()) rfl (by rw [sw_8_7]; simp [mayB, inw_f q_3, inw_f q_136])
      · refine v_if_eqF (pc := 139) (tgt := 155) C (by decide) dX5_mayBe_139 (by decide) ?_
        refine v_iload_n (pc := 142) C dX5_mayBe_142 rfl ?_
        refine v_iconst (pc := 143) (v := 0) C dX5_mayBe_143 (by decide) ?_
        refine v_iconst (pc := 144) (v := 3) C dX5_mayBe_144 (by decide) ?_
        refine v_callS0 (pc := 145) (st := []) C (kX5_within G _ y 0 3) ykX5_within kw3_142 kw3_141 dX5_mayBe_145 rfl rfl rfl (by decide) (Nat.le_of_ble_eq_true rfl) (by decide) rfl (Ri_kk (fun r_145 u_145 h_145 => ?_))
        rcases (w01 h_145) with ⟨q_145, rfl⟩ | ⟨q_145, rfl⟩
        · refine v_if_eqT (pc := 148) (tgt := 155) C (by decide) dX5_mayBe_148 (by decide) ?_
          refine v_iconst (pc := 155) (v := 0) C dX5_mayBe_155 (by decide) ?_
          subst hQ
          exact v_iret (pc := 156) C dX5_mayBe_156 (rfl) (()) rfl (by rw [sw_8_7]; simp [mayB, inw_f q_3, inw_t q_136, inw_f q_145])
        · refine v_if_eqF (pc := 148) (tgt := 155) C (by decide) dX5_mayBe_148 (by decide) ?_
          refine v_iconst (pc := 151) (v := 1) C dX5_mayBe_151 (by decide) ?_
          refine v_goto (pc := 152) (tgt := 156) C dX5_mayBe_152 (by decide) ?_
          subst hQ
          exact v_iret (pc := 156) C dX5_mayBe_156 (rfl) (()) rfl (by rw [sw_8_7]; simp [mayB, inw_f q_3, inw_t q_136, inw_t q_145])
    by_cases sw_8_8 : (c) = 8
    · refine v_cv (y := 8) sw_8_8 ?_
      refine v_tableIn (pc := 8) (tgt := 157) C dX5_mayBe_8 (by decide) (by decide) rfl (by decide) ?_
      refine v_iload_n (pc := 157) C dX5_mayBe_157 rfl ?_
      refine v_if_eqT (pc := 158) (tgt := 175) C (by decide) dX5_mayBe_158 (by decide) ?_
      refine v_iconst (pc := 175) (v := 0) C dX5_mayBe_175 (by decide) ?_
      subst hQ
      exact v_iret (pc := 176) C dX5_mayBe_176 (rfl) (()) rfl (by rw [sw_8_8]; simp [mayB, inw_f q_3])
    by_cases sw_8_9 : (c) = 9
    · refine v_cv (y := 9) sw_8_9 ?_
      refine v_tableIn (pc := 8) (tgt := 177) C dX5_mayBe_8 (by decide) (by decide) rfl (by decide) ?_
      refine v_iload_n (pc := 177) C dX5_mayBe_177 rfl ?_
      refine v_iconst (pc := 178) (v := 0) C dX5_mayBe_178 (by decide) ?_
      refine v_iconst (pc := 179) (v := 1) C dX5_mayBe_179 (by decide) ?_
      refine v_callS0 (pc := 180) (st := []) C (kX5_within G _ x 0 1) ykX5_within kw3_142 kw3_141 dX5_mayBe_180 rfl rfl rfl (by decide) (Nat.le_of_ble_eq_true rfl) (by decide) rfl (Ri_kk (fun r_180 u_180 h_180 => ?_))
      rcases (w01 h_180) with ⟨q_180, rfl⟩ | ⟨q_180, rfl⟩
      · refine v_if_eqT (pc := 183) (tgt := 199) C (by decide) dX5_mayBe_183 (by decide) ?_
        refine v_iconst (pc := 199) (v := 0) C dX5_mayBe_199 (by decide) ?_
        subst hQ
        exact v_iret (pc := 200) C dX5_mayBe_200 (rfl) (()) rfl (by rw [sw_8_9]; simp [mayB, inw_f q_3, inw_f q_180])
      · refine v_if_eqF (pc := 183) (tgt := 199) C (by decide) dX5_mayBe_183 (by decide) ?_
        refine v_iload_n (pc := 186) C dX5_mayBe_186 rfl ?_
        refine v_iconst (pc := 187) (v := 0) C dX5_mayBe_187 (by decide) ?_
        refine v_iconst (pc := 188) (v := 1) C dX5_mayBe_188 (by decide) ?_
        refine v_callS0 (pc := 189) (st := []) C (kX5_within G _ y 0 1) ykX5_within kw3_142 kw3_141 dX5_mayBe_189 rfl rfl rfl (by decide) (Nat.le_of_ble_eq_true rfl) (by decide) rfl (Ri_kk (fun r_189 u_189 h_189 => ?_))
        rcases (w01 h_189) with ⟨q_189, rfl⟩ | ⟨q_189, rfl⟩
        · refine v_if_eqT (pc := 192) (tgt := 199) C (by decide) dX5_mayBe_192 (by decide) ?_
          refine v_iconst (pc := 199) (v := 0) C dX5_mayBe_199 (by decide) ?_
          subst hQ
          exact v_iret (pc := 200) C dX5_mayBe_200 (rfl) (()) rfl (by rw [sw_8_9]; simp [mayB, inw_f q_3, inw_t q_180, inw_f q_189])
        · refine v_if_eqF (pc := 192) (tgt := 199) C (by decide) dX5_mayBe_192 (by decide) ?_
          refine v_iconst (pc := 195) (v := 1) C dX5_mayBe_195 (by decide) ?_
          refine v_goto (pc := 196) (tgt := 200) C dX5_mayBe_196 (by decide) ?_
          subst hQ
          exact v_iret (pc := 200) C dX5_mayBe_200 (rfl) (()) rfl (by rw [sw_8_9]; simp [mayB, inw_f q_3, inw_t q_180, inw_t q_189])
    have so_8 : (c).toInt < 0 ∨ 9 < (c).toInt := by
      refine sw_out (fun v h1 h2 h3 => ?_)
      rcases (show v = 0 ∨ v = 1 ∨ v = 2 ∨ v = 3 ∨ v = 4 ∨ v = 5 ∨ v = 6 ∨ v = 7 ∨ v = 8 ∨ v = 9 by omega) with rfl | rfl | rfl | rfl | rfl | rfl | rfl | rfl | rfl | rfl
      · exact sw_8_0 (Int32.toInt_inj.mp h3)
      · exact sw_8_1 (Int32.toInt_inj.mp h3)
      · exact sw_8_2 (Int32.toInt_inj.mp h3)
      · exact sw_8_3 (Int32.toInt_inj.mp h3)
      · exact sw_8_4 (Int32.toInt_inj.mp h3)
      · exact sw_8_5 (Int32.toInt_inj.mp h3)
      · exact sw_8_6 (Int32.toInt_inj.mp h3)
      · exact sw_8_7 (Int32.toInt_inj.mp h3)
      · exact sw_8_8 (Int32.toInt_inj.mp h3)
      · exact sw_8_9 (Int32.toInt_inj.mp h3)
    refine v_tableOut (pc := 8) (tgt := 201) C dX5_mayBe_8 so_8 (by decide) ?_
    refine v_iconst (pc := 201) (v := 0) C dX5_mayBe_201 (by decide) ?_
    subst hQ
    exact v_iret (pc := 202) C dX5_mayBe_202 (rfl) (()) rfl (by simp [mayB, sw_8_0, sw_8_1, sw_8_2, sw_8_3, sw_8_4, sw_8_5, sw_8_6, sw_8_7, sw_8_8, sw_8_9])
  · refine v_istore_n (pc := 6) C dX5_mayBe_6 (by decide) ?_
    refine v_iload_n (pc := 7) C dX5_mayBe_7 rfl ?_
    by_cases sw_8_0 : (c) = 0
    · refine v_cv (y := 0) sw_8_0 ?_
      refine v_tableIn (pc := 8) (tgt := 64) C dX5_mayBe_8 (by decide) (by decide) rfl (by decide) ?_
      refine v_iload_n (pc := 64) C dX5_mayBe_64 rfl ?_
      refine v_if_eqF (pc := 65) (tgt := 83) C (by decide) dX5_mayBe_65 (by decide) ?_
      refine v_iload_n (pc := 68) C dX5_mayBe_68 rfl ?_
      refine v_bipush (pc := 69) (v := (-99)) C dX5_mayBe_69 (by decide) ?_
      refine v_bipush (pc := 71) (v := 99) C dX5_mayBe_71 (by decide) ?_
      refine v_callS0 (pc := 73) (st := []) C (kX5_within G _ y (-99) 99) ykX5_within kw3_142 kw3_141 dX5_mayBe_73 rfl rfl rfl (by decide) (Nat.le_of_ble_eq_true rfl) (by decide) rfl (Ri_kk (fun r_73 u_73 h_73 => ?_))
      rcases (w01 h_73) with ⟨q_73, rfl⟩ | ⟨q_73, rfl⟩
      · refine v_if_eqT (pc := 76) (tgt := 83) C (by decide) dX5_mayBe_76 (by decide) ?_
        refine v_iconst (pc := 83) (v := 0) C dX5_mayBe_83 (by decide) ?_
        subst hQ
        exact v_iret (pc := 84) C dX5_mayBe_84 (rfl) (()) rfl (by rw [sw_8_0]; simp [mayB, inw_t q_3, inw_f q_73])
      · refine v_if_eqF (pc := 76) (tgt := 83) C (by decide) dX5_mayBe_76 (by decide) ?_
        refine v_iconst (pc := 79) (v := 1) C dX5_mayBe_79 (by decide) ?_
        refine v_goto (pc := 80) (tgt := 84) C dX5_mayBe_80 (by decide) ?_
        subst hQ
        exact v_iret (pc := 84) C dX5_mayBe_84 (rfl) (()) rfl (by rw [sw_8_0]; simp [mayB, inw_t q_3, inw_t q_73])
    by_cases sw_8_1 : (c) = 1
    · refine v_cv (y := 1) sw_8_1 ?_
      refine v_tableIn (pc := 8) (tgt := 85) C dX5_mayBe_8 (by decide) (by decide) rfl (by decide) ?_
      refine v_iload_n (pc := 85) C dX5_mayBe_85 rfl ?_
      refine v_if_eqF (pc := 86) (tgt := 102) C (by decide) dX5_mayBe_86 (by decide) ?_
      refine v_iload_n (pc := 89) C dX5_mayBe_89 rfl ?_
      refine v_iconst (pc := 90) (v := 0) C dX5_mayBe_90 (by decide) ?_
      refine v_iconst (pc := 91) (v := 3) C dX5_mayBe_91 (by decide) ?_
      refine v_callS0 (pc := 92) (st := []) C (kX5_within G _ y 0 3) ykX5_within kw3_142 kw3_141 dX5_mayBe_92 rfl rfl rfl (by decide) (Nat.le_of_ble_eq_true rfl) (by decide) rfl (Ri_kk (fun r_92 u_92 h_92 => ?_))
      rcases (w01 h_92) with ⟨q_92, rfl⟩ | ⟨q_92, rfl⟩
      · refine v_if_eqT (pc := 95) (tgt := 102) C (by decide) dX5_mayBe_95 (by decide) ?_
        refine v_iconst (pc := 102) (v := 0) C dX5_mayBe_102 (by decide) ?_
        subst hQ
        exact v_iret (pc := 103) C dX5_mayBe_103 (rfl) (()) rfl (by rw [sw_8_1]; simp [mayB, inw_t q_3, inw_f q_92])
      · refine v_if_eqF (pc := 95) (tgt := 102) C (by decide) dX5_mayBe_95 (by decide) ?_
        refine v_iconst (pc := 98) (v := 1) C dX5_mayBe_98 (by decide) ?_
        refine v_goto (pc := 99) (tgt := 103) C dX5_mayBe_99 (by decide) ?_
        subst hQ
        exact v_iret (pc := 103) C dX5_mayBe_103 (rfl) (()) rfl (by rw [sw_8_1]; simp [mayB, inw_t q_3, inw_t q_92])
    by_cases sw_8_2 : (c) = 2
    · refine v_cv (y := 2) sw_8_2 ?_
      refine v_tableIn (pc := 8) (tgt := 85) C dX5_mayBe_8 (by decide) (by decide) rfl (by decide) ?_
      refine v_iload_n (pc := 85) C dX5_mayBe_85 rfl ?_
      refine v_if_eqF (pc := 86) (tgt := 102) C (by decide) dX5_mayBe_86 (by decide) ?_
      refine v_iload_n (pc := 89) C dX5_mayBe_89 rfl ?_
      refine v_iconst (pc := 90) (v := 0) C dX5_mayBe_90 (by decide) ?_
      refine v_iconst (pc := 91) (v := 3) C dX5_mayBe_91 (by decide) ?_
      refine v_callS0 (pc := 92) (st := []) C (kX5_within G _ y 0 3) ykX5_within kw3_142 kw3_141 dX5_mayBe_92 rfl rfl rfl (by decide) (Nat.le_of_ble_eq_true rfl) (by decide) rfl (Ri_kk (fun r_92 u_92 h_92 => ?_))
      rcases (w01 h_92) with ⟨q_92, rfl⟩ | ⟨q_92, rfl⟩
      · refine v_if_eqT (pc := 95) (tgt := 102) C (by decide) dX5_mayBe_95 (by decide) ?_
        refine v_iconst (pc := 102) (v := 0) C dX5_mayBe_102 (by decide) ?_
        subst hQ
        exact v_iret (pc := 103) C dX5_mayBe_103 (rfl) (()) rfl (by rw [sw_8_2]; simp [mayB, inw_t q_3, inw_f q_92])
      · refine v_if_eqF (pc := 95) (tgt := 102) C (by decide) dX5_mayBe_95 (by decide) ?_
        refine v_iconst (pc := 98) (v := 1) C dX5_mayBe_98 (by decide) ?_
        refine v_goto (pc := 99) (tgt := 103) C dX5_mayBe_99 (by decide) ?_
        subst hQ
        exact v_iret (pc := 103) C dX5_mayBe_103 (rfl) (()) rfl (by rw [sw_8_2]; simp [mayB, inw_t q_3, inw_t q_92])
    by_cases sw_8_3 : (c) = 3
    · refine v_cv (y := 3) sw_8_3 ?_
      refine v_tableIn (pc := 8) (tgt := 85) C dX5_mayBe_8 (by decide) (by decide) rfl (by decide) ?_
      refine v_iload_n (pc := 85) C dX5_mayBe_85 rfl ?_
      refine v_if_eqF (pc := 86) (tgt := 102) C (by decide) dX5_mayBe_86 (by decide) ?_
      refine v_iload_n (pc := 89) C dX5_mayBe_89 rfl ?_
      refine v_iconst (pc := 90) (v := 0) C dX5_mayBe_90 (by decide) ?_
      refine v_iconst (pc := 91) (v := 3) C dX5_mayBe_91 (by decide) ?_
      refine v_callS0 (pc := 92) (st := []) C (kX5_within G _ y 0 3) ykX5_within kw3_142 kw3_141 dX5_mayBe_92 rfl rfl rfl (by decide) (Nat.le_of_ble_eq_true rfl) (by decide) rfl (Ri_kk (fun r_92 u_92 h_92 => ?_))
      rcases (w01 h_92) with ⟨q_92, rfl⟩ | ⟨q_92, rfl⟩
      · refine v_if_eqT (pc := 95) (tgt := 102) C (by decide) dX5_mayBe_95 (by decide) ?_
        refine v_iconst (pc := 102) (v := 0) C dX5_mayBe_102 (by decide) ?_
        subst hQ
        exact v_iret (pc := 103) C dX5_mayBe_103 (rfl) (()) rfl (by rw [sw_8_3]; simp [mayB, inw_t q_3, inw_f q_92])
      · refine v_if_eqF (pc := 95) (tgt := 102) C (by decide) dX5_mayBe_95 (by decide) ?_
        refine v_iconst (pc := 98) (v := 1) C dX5_mayBe_98 (by decide) ?_
        refine v_goto (pc := 99) (tgt := 103) C dX5_mayBe_99 (by decide) ?_
        subst hQ
        exact v_iret (pc := 103) C dX5_mayBe_103 (rfl) (()) rfl (by rw [sw_8_3]; simp [mayB, inw_t q_3, inw_t q_92])
    by_cases sw_8_4 : (c) = 4
    · refine v_cv (y := 4) sw_8_4 ?_
      refine v_tableIn (pc := 8) (tgt := 104) C dX5_mayBe_8 (by decide) (by decide) rfl (by decide) ?_
      refine v_iload_n (pc := 104) C dX5_mayBe_104 rfl ?_
      refine v_if_eqF (pc := 105) (tgt := 116) C (by decide) dX5_mayBe_105 (by decide) ?_
      refine v_iload_n (pc := 108) C dX5_mayBe_108 rfl ?_
      refine v_if_ne (pc := 109) (tgt := 116) C dX5_mayBe_109 (by decide) (fun c_109 => ?_) (fun c_109 => ?_)
      · refine v_iconst (pc := 116) (v := 0) C dX5_mayBe_116 (by decide) ?_
        subst hQ
        exact v_iret (pc := 117) C dX5_mayBe_117 (rfl) (()) rfl (by rw [sw_8_4]; simp [mayB, inw_t q_3, c_109])
      · refine v_iconst (pc := 112) (v := 1) C dX5_mayBe_112 (by decide) ?_
        refine v_goto (pc := 113) (tgt := 117) C dX5_mayBe_113 (by decide) ?_
        subst hQ
        exact v_iret (pc := 117) C dX5_mayBe_117 (rfl) (()) rfl (by rw [sw_8_4]; simp [mayB, inw_t q_3, c_109])
    by_cases sw_8_5 : (c) = 5
    · refine v_cv (y := 5) sw_8_5 ?_
      refine v_tableIn (pc := 8) (tgt := 85) C dX5_mayBe_8 (by decide) (by decide) rfl (by decide) ?_
      refine v_iload_n (pc := 85) C dX5_mayBe_85 rfl ?_
      refine v_if_eqF (pc := 86) (tgt := 102) C (by decide) dX5_mayBe_86 (by decide) ?_
      refine v_iload_n (pc := 89) C dX5_mayBe_89 rfl ?_
      refine v_iconst (pc := 90) (v := 0) C dX5_mayBe_90 (by decide) ?_
      refine v_iconst (pc := 91) (v := 3) C dX5_mayBe_91 (by decide) ?_
      refine v_callS0 (pc := 92) (st := []) C (kX5_within G _ y 0 3) ykX5_within kw3_142 kw3_141 dX5_mayBe_92 rfl rfl rfl (by decide) (Nat.le_of_ble_eq_true rfl) (by decide) rfl (Ri_kk (fun r_92 u_92 h_92 => ?_))
      rcases (w01 h_92) with ⟨q_92, rfl⟩ | ⟨q_92, rfl⟩
      · refine v_if_eqT (pc := 95) (tgt := 102) C (by decide) dX5_mayBe_95 (by decide) ?_
        refine v_iconst (pc := 102) (v := 0) C dX5_mayBe_102 (by decide) ?_
        subst hQ
        exact v_iret (pc := 103) C dX5_mayBe_103 (rfl) (()) rfl (by rw [sw_8_5]; simp [mayB, inw_t q_3, inw_f q_92])
      · refine v_if_eqF (pc := 95) (tgt := 102) C (by decide) dX5_mayBe_95 (by decide) ?_
        refine v_iconst (pc := 98) (v := 1) C dX5_mayBe_98 (by decide) ?_
        refine v_goto (pc := 99) (tgt := 103) C dX5_mayBe_99 (by decide) ?_
        subst hQ
        exact v_iret (pc := 103) C dX5_mayBe_103 (rfl) (()) rfl (by rw [sw_8_5]; simp [mayB, inw_t q_3, inw_t q_92])
    by_cases sw_8_6 : (c) = 6
    · refine v_cv (y := 6) sw_8_6 ?_
      refine v_tableIn (pc := 8) (tgt := 118) C dX5_mayBe_8 (by decide) (by decide) rfl (by decide) ?_
      refine v_iload_n (pc := 118) C dX5_mayBe_118 rfl ?_
      refine v_if_ne (pc := 119) (tgt := 130) C dX5_mayBe_119 (by decide) (fun c_119 => ?_) (fun c_119 => ?_)
      · refine v_iconst (pc := 130) (v := 0) C dX5_mayBe_130 (by decide) ?_
        subst hQ
        exact v_iret (pc := 131) C dX5_mayBe_131 (rfl) (()) rfl (by rw [sw_8_6]; simp [mayB, inw_t q_3, c_119])
      · refine v_iload_n (pc := 122) C dX5_mayBe_122 rfl ?_
        refine v_if_ne (pc := 123) (tgt := 130) C dX5_mayBe_123 (by decide) (fun c_123 => ?_) (fun c_123 => ?_)
        · refine v_iconst (pc := 130) (v := 0) C dX5_mayBe_130 (by decide) ?_
          subst hQ
          exact v_iret (pc := 131) C dX5_mayBe_131 (rfl) (()) rfl (by rw [sw_8_6]; simp [mayB, inw_t q_3, c_119, c_123])
        · refine v_iconst (pc := 126) (v := 1) C dX5_mayBe_126 (by decide) ?_
          refine v_goto (pc := 127) (tgt := 131) C dX5_mayBe_127 (by decide) ?_
          subst hQ
          exact v_iret (pc := 131) C dX5_mayBe_131 (rfl) (()) rfl (by rw [sw_8_6]; simp [mayB, inw_t q_3, c_119, c_123])
    by_cases sw_8_7 : (c) = 7
    · refine v_cv (y := 7) sw_8_7 ?_
      refine v_tableIn (pc := 8) (tgt := 132) C dX5_mayBe_8 (by decide) (by decide) rfl (by decide) ?_
      refine v_iload_n (pc := 132) C dX5_mayBe_132 rfl ?_
      refine v_iconst (pc := 133) (v := 0) C dX5_mayBe_133 (by decide) ?_
      refine v_bipush (pc := 134) (v := 7) C dX5_mayBe_134 (by decide) ?_
      refine v_callS0 (pc := 136) (st := []) C (kX5_within G _ x 0 7) ykX5_within kw3_142 kw3_141 dX5_mayBe_136 rfl rfl rfl (by decide) (Nat.le_of_ble_eq_true rfl) (by decide) rfl (Ri_kk (fun r_136 u_136 h_136 => ?_))
      rcases (w01 h_136) with ⟨q_136, rfl⟩ | ⟨q_136, rfl⟩
      · refine v_if_eqT (pc := 139) (tgt := 155) C (by decide) dX5_mayBe_139 (by decide) ?_
        refine v_iconst (pc := 155) (v := 0) C dX5_mayBe_155 (by decide) ?_
        subst hQ
        exact v_iret (pc := 156) C dX5_mayBe_156 (rfl) (()) rfl (by rw [sw_8_7]; simp [mayB, inw_t q_3, inw_f q_136])
      · refine v_if_eqF (pc := 139) (tgt := 155) C (by decide) dX5_mayBe_139 (by decide) ?_
        refine v_iload_n (pc := 142) C dX5_mayBe_142 rfl ?_
        refine v_iconst (pc := 143) (v := 0) C dX5_mayBe_143 (by decide) ?_
        refine v_iconst (pc := 144) (v := 3) C dX5_mayBe_144 (by decide) ?_
        refine v_callS0 (pc := 145) (st := []) C (kX5_within G _ y 0 3) ykX5_within kw3_142 kw3_141 dX5_mayBe_145 rfl rfl rfl (by decide) (Nat.le_of_ble_eq_true rfl) (by decide) rfl (Ri_kk (fun r_145 u_145 h_145 => ?_))
        rcases (w01 h_145) with ⟨q_145, rfl⟩ | ⟨q_145, rfl⟩
        · refine v_if_eqT (pc := 148) (tgt := 155) C (by decide) dX5_mayBe_148 (by decide) ?_
          refine v_iconst (pc := 155) (v := 0) C dX5_mayBe_155 (by decide) ?_
          subst hQ
          exact v_iret (pc := 156) C dX5_mayBe_156 (rfl) (()) rfl (by rw [sw_8_7]; simp [mayB, inw_t q_3, inw_t q_136, inw_f q_145])
        · refine v_if_eqF (pc := 148) (tgt := 155) C (by decide) dX5_mayBe_148 (by decide) ?_
          refine v_iconst (pc := 151) (v := 1) C dX5_mayBe_151 (by decide) ?_
          refine v_goto (pc := 152) (tgt := 156) C dX5_mayBe_152 (by decide) ?_
          subst hQ
          exact v_iret (pc := 156) C dX5_mayBe_156 (rfl) (()) rfl (by rw [sw_8_7]; simp [mayB, inw_t q_3, inw_t q_136, inw_t q_145])
    by_cases sw_8_8 : (c) = 8
    · refine v_cv (y := 8) sw_8_8 ?_
      refine v_tableIn (pc := 8) (tgt := 157) C dX5_mayBe_8 (by decide) (by decide) rfl (by decide) ?_
      refine v_iload_n (pc := 157) C dX5_mayBe_157 rfl ?_
      refine v_if_eqF (pc := 158) (tgt := 175) C (by decide) dX5_mayBe_158 (by decide) ?_
      refine v_iload_n (pc := 161) C dX5_mayBe_161 rfl ?_
      refine v_iconst (pc := 162) (v := 0) C dX5_mayBe_162 (by decide) ?_
      refine v_bipush (pc := 163) (v := 7) C dX5_mayBe_163 (by decide) ?_
      refine v_callS0 (pc := 165) (st := []) C (kX5_within G _ y 0 7) ykX5_within kw3_142 kw3_141 dX5_mayBe_165 rfl rfl rfl (by decide) (Nat.le_of_ble_eq_true rfl) (by decide) rfl (Ri_kk (fun r_165 u_165 h_165 => ?_))
      rcases (w01 h_165) with ⟨q_165, rfl⟩ | ⟨q_165, rfl⟩
      · refine v_if_eqT (pc := 168) (tgt := 175) C (by decide) dX5_mayBe_168 (by decide) ?_
        refine v_iconst (pc := 175) (v := 0) C dX5_mayBe_175 (by decide) ?_
        subst hQ
        exact v_iret (pc := 176) C dX5_mayBe_176 (rfl) (()) rfl (by rw [sw_8_8]; simp [mayB, inw_t q_3, inw_f q_165])
      · refine v_if_eqF (pc := 168) (tgt := 175) C (by decide) dX5_mayBe_168 (by decide) ?_
        refine v_iconst (pc := 171) (v := 1) C dX5_mayBe_171 (by decide) ?_
        refine v_goto (pc := 172) (tgt := 176) C dX5_mayBe_172 (by decide) ?_
        subst hQ
        exact v_iret (pc := 176) C dX5_mayBe_176 (rfl) (()) rfl (by rw [sw_8_8]; simp [mayB, inw_t q_3, inw_t q_165])
    by_cases sw_8_9 : (c) = 9
    · refine v_cv (y := 9) sw_8_9 ?_
      refine v_tableIn (pc := 8) (tgt := 177) C dX5_mayBe_8 (by decide) (by decide) rfl (by decide) ?_
      refine v_iload_n (pc := 177) C dX5_mayBe_177 rfl ?_
      refine v_iconst (pc := 178) (v := 0) C dX5_mayBe_178 (by decide) ?_
      refine v_iconst (pc := 179) (v := 1) C dX5_mayBe_179 (by decide) ?_
      refine v_callS0 (pc := 180) (st := []) C (kX5_within G _ x 0 1) ykX5_within kw3_142 kw3_141 dX5_mayBe_180 rfl rfl rfl (by decide) (Nat.le_of_ble_eq_true rfl) (by decide) rfl (Ri_kk (fun r_180 u_180 h_180 => ?_))
      rcases (w01 h_180) with ⟨q_180, rfl⟩ | ⟨q_180, rfl⟩
      · refine v_if_eqT (pc := 183) (tgt := 199) C (by decide) dX5_mayBe_183 (by decide) ?_
        refine v_iconst (pc := 199) (v := 0) C dX5_mayBe_199 (by decide) ?_
        subst hQ
        exact v_iret (pc := 200) C dX5_mayBe_200 (rfl) (()) rfl (by rw [sw_8_9]; simp [mayB, inw_t q_3, inw_f q_180])
      · refine v_if_eqF (pc := 183) (tgt := 199) C (by decide) dX5_mayBe_183 (by decide) ?_
        refine v_iload_n (pc := 186) C dX5_mayBe_186 rfl ?_
        refine v_iconst (pc := 187) (v := 0) C dX5_mayBe_187 (by decide) ?_
        refine v_iconst (pc := 188) (v := 1) C dX5_mayBe_188 (by decide) ?_
        refine v_callS0 (pc := 189) (st := []) C (kX5_within G _ y 0 1) ykX5_within kw3_142 kw3_141 dX5_mayBe_189 rfl rfl rfl (by decide) (Nat.le_of_ble_eq_true rfl) (by decide) rfl (Ri_kk (fun r_189 u_189 h_189 => ?_))
        rcases (w01 h_189) with ⟨q_189, rfl⟩ | ⟨q_189, rfl⟩
        · refine v_if_eqT (pc := 192) (tgt := 199) C (by decide) dX5_mayBe_192 (by decide) ?_
          refine v_iconst (pc := 199) (v := 0) C dX5_mayBe_199 (by decide) ?_
          subst hQ
          exact v_iret (pc := 200) C dX5_mayBe_200 (rfl) (()) rfl (by rw [sw_8_9]; simp [mayB, inw_t q_3, inw_t q_180, inw_f q_189])
        · refine v_if_eqF (pc := 192) (tgt := 199) C (by decide) dX5_mayBe_192 (by decide) ?_
          refine v_iconst (pc := 195) (v := 1) C dX5_mayBe_195 (by decide) ?_
          refine v_goto (pc := 196) (tgt := 200) C dX5_mayBe_196 (by decide) ?_
          subst hQ
          exact v_iret (pc := 200) C dX5_mayBe_200 (rfl) (()) rfl (by rw [sw_8_9]; simp [mayB, inw_t q_3, inw_t q_180, inw_t q_189])
    have so_8 : (c).toInt < 0 ∨ 9 < (c).toInt := by
      refine sw_out (fun v h1 h2 h3 => ?_)
      rcases (show v = 0 ∨ v = 1 ∨ v = 2 ∨ v = 3 ∨ v = 4 ∨ v = 5 ∨ v = 6 ∨ v = 7 ∨ v = 8 ∨ v = 9 by omega) with rfl | rfl | rfl | rfl | rfl | rfl | rfl | rfl | rfl | rfl
      · exact sw_8_0 (Int32.toInt_inj.mp h3)
      · exact sw_8_1 (Int32.toInt_inj.mp h3)
      · exact sw_8_2 (Int32.toInt_inj.mp h3)
      · exact sw_8_3 (Int32.toInt_inj.mp h3)
      · exact sw_8_4 (Int32.toInt_inj.mp h3)
      · exact sw_8_5 (Int32.toInt_inj.mp h3)
      · exact sw_8_6 (Int32.toInt_inj.mp h3)
      · exact sw_8_7 (Int32.toInt_inj.mp h3)
      · exact sw_8_8 (Int32.toInt_inj.mp h3)
      · exact sw_8_9 (Int32.toInt_inj.mp h3)
    refine v_tableOut (pc := 8) (tgt := 201) C dX5_mayBe_8 so_8 (by decide) ?_
    refine v_iconst (pc := 201) (v := 0) C dX5_mayBe_201 (by decide) ?_
    subst hQ
    exact v_iret (pc := 202) C dX5_mayBe_202 (rfl) (()) rfl (by simp [mayB, sw_8_0, sw_8_1, sw_8_2, sw_8_3, sw_8_4, sw_8_5, sw_8_6, sw_8_7, sw_8_8, sw_8_9])
def rmX5_line : Room := { frames := 2, cells := 0, slots := 0, locals := 45 }
set_option maxHeartbeats 4000000 in
set_option maxRecDepth 100000 in
theorem kX5_line (G : TG) (o : Nat) (a : Nat → Nat) (S : MS) (A : AS) (hI : AInv A) (hM : MRel A S) (p c x y : Int32) : CT G yX5_line cX5_line 6 (some .int) rmX5_line 0 0 [.ref (o), .int (p), .int (c), .int (x), .int (y)] (MW G o a S) (fun S : MS => MW G o a S) (Ri (fun r S' => r = (s_line A p c x y).1 ∧ MRel (s_line A p c x y).2 S')) := by
  refine CT.enter (by decide) (Nat.le_of_ble_eq_true rfl) (fun X C hnm => ?_)
  refine V.less [(0, .ref (o)), (1, .int (p)), (2, .int (c)), (3, .int (x)), (4, .int (y))] ⟨rfl, rfl, rfl, rfl, rfl, trivial⟩ ?_
  generalize hQ : (QX G X (fun S : MS => MW G o a S) (Ri (fun r S' => r = (s_line A p c x y).1 ∧ MRel (s_line A p c x y).2 S')) 0 0) = Qq
  have hnp := hI.1
  have hnq := hI.2.2.2.2.1
  refine v_aload_n (pc := 0) C dX5_line_0 rfl ?_
  refine v_iload_n (pc := 1) C dX5_line_1 rfl ?_
  refine v_callV0 (pc := 2) (st := []) (q0 := 0) C (kX5_isProgram G o a S p) ykX5_isProgram cvX5_isProgram kw3_134 dX5_line_2 rfl rfl rfl rfl rfl (by decide) (Nat.le_of_ble_eq_true rfl) (by decide) rfl (Ri_kk (fun r_2 u_2 h_2 => ?_))
  obtain ⟨e_2, h_2⟩ := h_2
  rw [e_2]
  rcases (is01 (by omega) hM.1 h_2) with ⟨b_p, rfl⟩ | ⟨j, hj, rfl, rfl⟩
  · refine v_if_eqT (pc := 5) (tgt := 18) C (by decide) dX5_line_5 (by decide) ?_
    refine v_iconst (pc := 18) (v := (-1)) C dX5_line_18 (by decide) ?_
    subst hQ
    exact v_iret (pc := 19) C dX5_line_19 (rfl) (S) rfl (by unfold s_line; rw [if_pos b_p]; exact ⟨rfl, hM⟩)
  · refine v_if_eqF (pc := 5) (tgt := 18) C (by decide) dX5_line_5 (by decide) ?_
    refine v_iload_n (pc := 8) C dX5_line_8 rfl ?_
    refine v_iload_n (pc := 9) C dX5_line_9 rfl ?_
    refine v_iload (pc := 10) C dX5_line_10 rfl ?_
    refine v_callS0 (pc := 12) (st := []) C (kX5_mayBe G _ c x y) ykX5_mayBe kw3_139 kw3_138 dX5_line_12 rfl rfl rfl (by decide) (Nat.le_of_ble_eq_true rfl) (by decide) rfl (Ri_kk (fun r_12 u_12 h_12 => ?_))
    rcases (mb01 h_12) with ⟨q_12, rfl⟩ | ⟨q_12, rfl⟩
    · refine v_if_neF (pc := 15) (tgt := 20) C (by decide) dX5_line_15 (by decide) ?_
      refine v_iconst (pc := 18) (v := (-1)) C dX5_line_18 (by decide) ?_
      subst hQ
      exact v_iret (pc := 19) C dX5_line_19 (rfl) (S) rfl (by unfold s_line; rw [if_neg (nbad hj (by omega)), if_pos q_12]; exact ⟨rfl, hM⟩)
    · refine v_if_neT (pc := 15) (tgt := 20) C (by decide) dX5_line_15 (by decide) ?_
      have hn := hI.2.1 j
      have hd := dp_le (aO A j) (aN A j)
      have hqp := fun q hq => (hI.2.2.2.2.2.1 q hq).1
      refine v_iconst (pc := 20) (v := 0) C dX5_line_20 (by decide) ?_
      refine v_istore (pc := 21) C dX5_line_21 (by decide) ?_
      have L23 : ∀ (fu : Nat) (q : Nat), (aNq A < q + fu) → (q ≤ aNq A) → (∀ z, z < q → aQp A z ≠ j) → V G X cX5_line 6 rmX5_line Qq 0 0 23 (lvo [(0, .ref (o)), (1, .int (nI (j))), (2, .int (c)), (3, .int (x)), (4, .int (y)), (5, .int (nI (q)))]) [] (MW G o a S) := by
        intro fu
        induction fu with
        | zero => intro q hf hq hall; exfalso; omega
        | succ fu ih =>
          intro q hf hq hall
          refine v_iload (pc := 23) C dX5_line_23 rfl ?_
          refine v_aload_n (pc := 25) C dX5_line_25 rfl ?_
          refine v_get (pc := 26) (v := .int (mI S 19)) C inX5 0 rfl rfl 19 (by decide) kw3_44 rfl dX5_line_26 ?_
          refine v_cv (y := (nI (aNq A))) (hM.2.2.2.1) ?_
          refine v_icmp_geN (pc := 29) (tgt := 52) C (q) (aNq A) rfl rfl (by omega) (by omega) dX5_line_29 (by decide) (fun c_29 => ?_) (fun c_29 => ?_)
          · have hna : askedA A j = false := asked_f (fun z hz => hall z (by omega))
            refine v_iload_n (pc := 52) C dX5_line_52 rfl ?_
            refine v_bipush (pc := 53) (v := 6) C dX5_line_53 (by decide) ?_
            refine v_icmp_ne (pc := 55) (tgt := 75) C dX5_line_55 (by decide) (fun c_55 => ?_) (fun c_55 => ?_)
            · refine v_aload_n (pc := 75) C dX5_line_75 rfl ?_
              refine v_get (pc := 76) (v := .ref (a 3)) C inX5 0 rfl rfl 3 (by decide) kw3_28 rfl dX5_line_76 ?_
              refine v_iload_n (pc := 79) C dX5_line_79 rfl ?_
              refine v_ialdN (pc := 80) (i := (j)) (f := (mA S 3)) C 4 rfl (by omega) (by decide) dX5_line_80 ?_
              refine v_cv (y := (nI (aN A j))) (hM.2.1 j (by omega)) ?_
              refine v_bipush (pc := 81) (v := 20) C dX5_line_81 (by decide) ?_
              refine v_icmp_neN (pc := 83) (tgt := 89) C (aN A j) 20 rfl rfl (by omega) (by omega) dX5_line_83 (by decide) (fun c_83 => ?_) (fun c_83 => ?_)
              · refine v_bipush (pc := 89) (v := 20) C dX5_line_89 (by decide) ?_
                refine v_iload_n (pc := 91) C dX5_line_91 rfl ?_
                refine v_imulN (pc := 92) C 20 (j) rfl rfl dX5_line_92 ?_
                refine v_aload_n (pc := 93) C dX5_line_93 rfl ?_
                refine v_get (pc := 94) (v := .ref (a 3)) C inX5 0 rfl rfl 3 (by decide) kw3_28 rfl dX5_line_94 ?_
                refine v_iload_n (pc := 97) C dX5_line_97 rfl ?_
                refine v_ialdN (pc := 98) (i := (j)) (f := (mA S 3)) C 4 rfl (by omega) (by decide) dX5_line_98 ?_
                refine v_cv (y := (nI (aN A j))) (hM.2.1 j (by omega)) ?_
                refine v_iaddN (pc := 99) C (20 * (j)) (aN A j) rfl rfl dX5_line_99 ?_
                refine v_istore (pc := 100) C dX5_line_100 (by decide) ?_
                refine v_aload_n (pc := 102) C dX5_line_102 rfl ?_
                refine v_get (pc := 103) (v := .ref (a 0)) C inX5 0 rfl rfl 0 (by decide) kw3_25 rfl dX5_line_103 ?_
                refine v_iload (pc := 106) C dX5_line_106 rfl ?_
                refine v_iload_n (pc := 108) C dX5_line_108 rfl ?_
                refine v_iastN (pc := 109) (i := ((20 * (j)) + (aN A j))) (f := (mA S 0)) C 1 rfl (by omega) (by decide) dX5_line_109 (ws' := (MW G o a (sA S 0 (upd ((mA S 0)) ((20 * (j)) + (aN A j)) (c))))) rfl ?_
                refine v_aload_n (pc := 110) C dX5_line_110 rfl ?_
                refine v_get (pc := 111) (v := .ref (a 1)) C inX5 0 rfl rfl 1 (by decide) kw3_26 rfl dX5_line_111 ?_
                refine v_iload (pc := 114) C dX5_line_114 rfl ?_
                refine v_iload_n (pc := 116) C dX5_line_116 rfl ?_
                refine v_iastN (pc := 117) (i := ((20 * (j)) + (aN A j))) (f := (mA S 1)) C 2 rfl (by omega) (by decide) dX5_line_117 (ws' := (MW G o a (sA (sA S 0 (upd ((mA S 0)) ((20 * (j)) + (aN A j)) (c))) 1 (upd ((mA S 1)) ((20 * (j)) + (aN A j)) (x))))) rfl ?_
                refine v_aload_n (pc := 118) C dX5_line_118 rfl ?_
                refine v_get (pc := 119) (v := .ref (a 2)) C inX5 0 rfl rfl 2 (by decide) kw3_27 rfl dX5_line_119 ?_
                refine v_iload (pc := 122) C dX5_line_122 rfl ?_
                refine v_iload (pc := 124) C dX5_line_124 rfl ?_
                refine v_iastN (pc := 126) (i := ((20 * (j)) + (aN A j))) (f := (mA S 2)) C 3 rfl (by omega) (by decide) dX5_line_126 (ws' := (MW G o a (sA (sA (sA S 0 (upd ((mA S 0)) ((20 * (j)) + (aN A j)) (c))) 1 (upd ((mA S 1)) ((20 * (j)) + (aN A j)) (x))) 2 (upd ((mA S 2)) ((20 * (j)) + (aN A j)) (y))))) rfl ?_
                refine v_aload_n (pc := 127) C dX5_line_127 rfl ?_
                refine v_get (pc := 128) (v := .ref (a 3)) C inX5 0 rfl rfl 3 (by decide) kw3_28 rfl dX5_line_128 ?_
                refine v_iload_n (pc := 131) C dX5_line_131 rfl ?_
                refine v_dup2_11 (pc := 132) C dX5_line_132 rfl rfl ?_
                refine v_ialdN (pc := 133) (i := (j)) (f := (mA S 3)) C 4 rfl (by omega) (by decide) dX5_line_133 ?_
                refine v_cv (y := (nI (aN A j))) (hM.2.1 j (by omega)) ?_
                refine v_iconst (pc := 134) (v := 1) C dX5_line_134 (by decide) ?_
                refine v_iaddN (pc := 135) C (aN A j) 1 rfl rfl dX5_line_135 ?_
                refine v_iastN (pc := 136) (i := (j)) (f := (mA S 3)) C 4 rfl (by omega) (by decide) dX5_line_136 (ws' := (MW G o a (sA (sA (sA (sA S 0 (upd ((mA S 0)) ((20 * (j)) + (aN A j)) (c))) 1 (upd ((mA S 1)) ((20 * (j)) + (aN A j)) (x))) 2 (upd ((mA S 2)) ((20 * (j)) + (aN A j)) (y))) 3 (upd ((mA S 3)) (j) (nI ((aN A j) + 1)))))) rfl ?_
                refine v_aload_n (pc := 137) C dX5_line_137 rfl ?_
                refine v_get (pc := 138) (v := .ref (a 3)) C inX5 0 rfl rfl 3 (by decide) kw3_28 rfl dX5_line_138 ?_
                refine v_iload_n (pc := 141) C dX5_line_141 rfl ?_
                refine v_ialdN (pc := 142) (i := (j)) (f := (upd ((mA S 3)) (j) (nI ((aN A j) + 1)))) C 4 rfl (by omega) (by decide) dX5_line_142 ?_
                refine v_cv (y := (nI (aN A j + 1))) (by rw [pk_us]) ?_
                refine v_iconst (pc := 143) (v := 1) C dX5_line_143 (by decide) ?_
                refine v_isubN (pc := 144) C (aN A j + 1) 1 rfl rfl (by omega) dX5_line_144 ?_
                subst hQ
                exact v_iret (pc := 145) C dX5_line_145 (rfl) ((sA (sA (sA (sA S 0 (upd ((mA S 0)) ((20 * (j)) + (aN A j)) (c))) 1 (upd ((mA S 1)) ((20 * (j)) + (aN A j)) (x))) 2 (upd ((mA S 2)) ((20 * (j)) + (aN A j)) (y))) 3 (upd ((mA S 3)) (j) (nI ((aN A j) + 1))))) rfl (by unfold s_line; rw [tn_nI (n := j) (by omega), if_neg (nbad hj (by omega)), if_neg q_12, hna, if_neg (by decide), if_neg (fun z => c_55 z.1), if_neg c_83]; exact ⟨congrArg nI (by omega), MRel_addL hM (by omega) (by omega)⟩)
              · refine v_bipush (pc := 86) (v := (-2)) C dX5_line_86 (by decide) ?_
                subst hQ
                exact v_iret (pc := 88) C dX5_line_88 (rfl) (S) rfl (by unfold s_line; rw [tn_nI (n := j) (by omega), if_neg (nbad hj (by omega)), if_neg q_12, hna, if_neg (by decide), if_neg (fun z => c_55 z.1), if_pos c_83]; exact ⟨rfl, hM⟩)
            · refine v_aload_n (pc := 58) C dX5_line_58 rfl ?_
              refine v_iload_n (pc := 59) C dX5_line_59 rfl ?_
              refine v_aload_n (pc := 60) C dX5_line_60 rfl ?_
              refine v_get (pc := 61) (v := .ref (a 3)) C inX5 0 rfl rfl 3 (by decide) kw3_28 rfl dX5_line_61 ?_
              refine v_iload_n (pc := 64) C dX5_line_64 rfl ?_
              refine v_ialdN (pc := 65) (i := (j)) (f := (mA S 3)) C 4 rfl (by omega) (by decide) dX5_line_65 ?_
              refine v_cv (y := (nI (aN A j))) (hM.2.1 j (by omega)) ?_
              refine v_callV0 (pc := 66) (st := []) (q0 := 0) C (kX5_openAhead G o a S j (aN A j) (by omega) (by omega)) ykX5_openAhead cvX5_openAhead kw3_144 dX5_line_66 rfl rfl rfl rfl rfl (by decide) (Nat.le_of_ble_eq_true rfl) (by decide) rfl (Ri_kk (fun r_66 u_66 h_66 => ?_))
              obtain ⟨e_66, e66⟩ := h_66
              rw [e_66]
              rw [oa_rel hI hM hj (Nat.le_refl _)] at e66
              subst e66
              refine v_if_neN (pc := 69) (tgt := 75) C (dp (aO A j) (aN A j)) rfl (by omega) dX5_line_69 (by decide) (fun c_69 => ?_) (fun c_69 => ?_)
              · refine v_aload_n (pc := 75) C dX5_line_75 rfl ?_
                refine v_get (pc := 76) (v := .ref (a 3)) C inX5 0 rfl rfl 3 (by decide) kw3_28 rfl dX5_line_76 ?_
                refine v_iload_n (pc := 79) C dX5_line_79 rfl ?_
                refine v_ialdN (pc := 80) (i := (j)) (f := (mA S 3)) C 4 rfl (by omega) (by decide) dX5_line_80 ?_
                refine v_cv (y := (nI (aN A j))) (hM.2.1 j (by omega)) ?_
                refine v_bipush (pc := 81) (v := 20) C dX5_line_81 (by decide) ?_
                refine v_icmp_neN (pc := 83) (tgt := 89) C (aN A j) 20 rfl rfl (by omega) (by omega) dX5_line_83 (by decide) (fun c_83 => ?_) (fun c_83 => ?_)
                · refine v_bipush (pc := 89) (v := 20) C dX5_line_89 (by decide) ?_
                  refine v_iload_n (pc := 91) C dX5_line_91 rfl ?_
                  refine v_imulN (pc := 92) C 20 (j) rfl rfl dX5_line_92 ?_
                  refine v_aload_n (pc := 93) C dX5_line_93 rfl ?_
                  refine v_get (pc := 94) (v := .ref (a 3)) C inX5 0 rfl rfl 3 (by decide) kw3_28 rfl dX5_line_94 ?_
                  refine v_iload_n (pc := 97) C dX5_line_97 rfl ?_
                  refine v_ialdN (pc := 98) (i := (j)) (f := (mA S 3)) C 4 rfl (by omega) (by decide) dX5_line_98 ?_
                  refine v_cv (y := (nI (aN A j))) (hM.2.1 j (by omega)) ?_
                  refine v_iaddN (pc := 99) C (20 * (j)) (aN A j) rfl rfl dX5_line_99 ?_
                  refine v_istore (pc := 100) C dX5_line_100 (by decide) ?_
                  refine v_aload_n (pc := 102) C dX5_line_102 rfl ?_
                  refine v_get (pc := 103) (v := .ref (a 0)) C inX5 0 rfl rfl 0 (by decide) kw3_25 rfl dX5_line_103 ?_
                  refine v_iload (pc := 106) C dX5_line_106 rfl ?_
                  refine v_iload_n (pc := 108) C dX5_line_108 rfl ?_
                  refine v_iastN (pc := 109) (i := ((20 * (j)) + (aN A j))) (f := (mA S 0)) C 1 rfl (by omega) (by decide) dX5_line_109 (ws' := (MW G o a (sA S 0 (upd ((mA S 0)) ((20 * (j)) + (aN A j)) (c))))) rfl ?_
                  refine v_aload_n (pc := 110) C dX5_line_110 rfl ?_
                  refine v_get (pc := 111) (v := .ref (a 1)) C inX5 0 rfl rfl 1 (by decide) kw3_26 rfl dX5_line_111 ?_
                  refine v_iload (pc := 114) C dX5_line_114 rfl ?_
                  refine v_iload_n (pc := 116) C dX5_line_116 rfl ?_
                  refine v_iastN (pc := 117) (i := ((20 * (j)) + (aN A j))) (f := (mA S 1)) C 2 rfl (by omega) (by decide) dX5_line_117 (ws' := (MW G o a (sA (sA S 0 (upd ((mA S 0)) ((20 * (j)) + (aN A j)) (c))) 1 (upd ((mA S 1)) ((20 * (j)) + (aN A j)) (x))))) rfl ?_
                  refine v_aload_n (pc := 118) C dX5_line_118 rfl ?_
                  refine v_get (pc := 119) (v := .ref (a 2)) C inX5 0 rfl rfl 2 (by decide) kw3_27 rfl dX5_line_119 ?_
                  refine v_iload (pc := 122) C dX5_line_122 rfl ?_
                  refine v_iload (pc := 124) C dX5_line_124 rfl ?_
                  refine v_iastN (pc := 126) (i := ((20 * (j)) + (aN A j))) (f := (mA S 2)) C 3 rfl (by omega) (by decide) dX5_line_126 (ws' := (MW G o a (sA (sA (sA S 0 (upd ((mA S 0)) ((20 * (j)) + (aN A j)) (c))) 1 (upd ((mA S 1)) ((20 * (j)) + (aN A j)) (x))) 2 (upd ((mA S 2)) ((20 * (j)) + (aN A j)) (y))))) rfl ?_
                  refine v_aload_n (pc := 127) C dX5_line_127 rfl ?_
                  refine v_get (pc := 128) (v := .ref (a 3)) C inX5 0 rfl rfl 3 (by decide) kw3_28 rfl dX5_line_128 ?_
                  refine v_iload_n (pc := 131) C dX5_line_131 rfl ?_
                  refine v_dup2_11 (pc := 132) C dX5_line_132 rfl rfl ?_
                  refine v_ialdN (pc := 133) (i := (j)) (f := (mA S 3)) C 4 rfl (by omega) (by decide) dX5_line_133 ?_
                  refine v_cv (y := (nI (aN A j))) (hM.2.1 j (by omega)) ?_
                  refine v_iconst (pc := 134) (v := 1) C dX5_line_134 (by decide) ?_
                  refine v_iaddN (pc := 135) C (aN A j) 1 rfl rfl dX5_line_135 ?_
                  refine v_iastN (pc := 136) (i := (j)) (f := (mA S 3)) C 4 rfl (by omega) (by decide) dX5_line_136 (ws' := (MW G o a (sA (sA (sA (sA S 0 (upd ((mA S 0)) ((20 * (j)) + (aN A j)) (c))) 1 (upd ((mA S 1)) ((20 * (j)) + (aN A j)) (x))) 2 (upd ((mA S 2)) ((20 * (j)) + (aN A j)) (y))) 3 (upd ((mA S 3)) (j) (nI ((aN A j) + 1)))))) rfl ?_
                  refine v_aload_n (pc := 137) C dX5_line_137 rfl ?_
                  refine v_get (pc := 138) (v := .ref (a 3)) C inX5 0 rfl rfl 3 (by decide) kw3_28 rfl dX5_line_138 ?_
                  refine v_iload_n (pc := 141) C dX5_line_141 rfl ?_
                  refine v_ialdN (pc := 142) (i := (j)) (f := (upd ((mA S 3)) (j) (nI ((aN A j) + 1)))) C 4 rfl (by omega) (by decide) dX5_line_142 ?_
                  refine v_cv (y := (nI (aN A j + 1))) (by rw [pk_us]) ?_
                  refine v_iconst (pc := 143) (v := 1) C dX5_line_143 (by decide) ?_
                  refine v_isubN (pc := 144) C (aN A j + 1) 1 rfl rfl (by omega) dX5_line_144 ?_
                  subst hQ
                  exact v_iret (pc := 145) C dX5_line_145 (rfl) ((sA (sA (sA (sA S 0 (upd ((mA S 0)) ((20 * (j)) + (aN A j)) (c))) 1 (upd ((mA S 1)) ((20 * (j)) + (aN A j)) (x))) 2 (upd ((mA S 2)) ((20 * (j)) + (aN A j)) (y))) 3 (upd ((mA S 3)) (j) (nI ((aN A j) + 1))))) rfl (by unfold s_line; rw [tn_nI (n := j) (by omega), if_neg (nbad hj (by omega)), if_neg q_12, hna, if_neg (by decide), if_neg (fun z => c_69 z.2), if_neg c_83]; exact ⟨congrArg nI (by omega), MRel_addL hM (by omega) (by omega)⟩)
                · refine v_bipush (pc := 86) (v := (-2)) C dX5_line_86 (by decide) ?_
                  subst hQ
                  exact v_iret (pc := 88) C dX5_line_88 (rfl) (S) rfl (by unfold s_line; rw [tn_nI (n := j) (by omega), if_neg (nbad hj (by omega)), if_neg q_12, hna, if_neg (by decide), if_neg (fun z => c_69 z.2), if_pos c_83]; exact ⟨rfl, hM⟩)
              · refine v_bipush (pc := 72) (v := (-3)) C dX5_line_72 (by decide) ?_
                subst hQ
                exact v_iret (pc := 74) C dX5_line_74 (rfl) (S) rfl (by unfold s_line; rw [tn_nI (n := j) (by omega), if_neg (nbad hj (by omega)), if_neg q_12, hna, if_neg (by decide), if_pos ⟨c_55, c_69⟩]; exact ⟨rfl, hM⟩)
          · have := hqp q (by omega)
            refine v_aload_n (pc := 32) C dX5_line_32 rfl ?_
            refine v_get (pc := 33) (v := .ref (a 15)) C inX5 0 rfl rfl 15 (by decide) kw3_40 rfl dX5_line_33 ?_
            refine v_iload (pc := 36) C dX5_line_36 rfl ?_
            refine v_ialdN (pc := 38) (i := (q)) (f := (mA S 15)) C 12 rfl (by omega) (by decide) dX5_line_38 ?_
            refine v_cv (y := (nI (aQp A q))) ((hM.2.2.2.2.1 q (by omega)).1) ?_
            refine v_iload_n (pc := 39) C dX5_line_39 rfl ?_
            refine v_icmp_neN (pc := 40) (tgt := 46) C (aQp A q) (j) rfl rfl (by omega) (by omega) dX5_line_40 (by decide) (fun c_40 => ?_) (fun c_40 => ?_)
            · refine v_iinc1 (pc := 46) C (q) rfl dX5_line_46 rfl ?_
              refine v_goto (pc := 49) (tgt := 23) C dX5_line_49 (by decide) ?_
              exact V.lessE (ih  (((q) + 1)) (by omega) (by omega) (lt_s hall c_40)) ⟨rfl, rfl, rfl, rfl, rfl, rfl, trivial⟩
            · refine v_bipush (pc := 43) (v := (-3)) C dX5_line_43 (by decide) ?_
              subst hQ
              exact v_iret (pc := 45) C dX5_line_45 (rfl) (S) rfl (by unfold s_line; rw [tn_nI (n := j) (by omega), if_neg (nbad hj (by omega)), if_neg q_12, if_pos (asked_t (by omega) c_40)]; exact ⟨rfl, hM⟩)
      exact V.lessE (L23 (aNq A + 1) (0) (by omega) (by omega) (fun z hz => absurd hz (Nat.not_lt_zero z))) ⟨rfl, rfl, rfl, rfl, rfl, rfl, trivial⟩
