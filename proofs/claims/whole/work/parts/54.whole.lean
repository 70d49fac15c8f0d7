/-! the law as a whole -/
section LL
variable {G : TG} {X : TX} {Q : State → Prop} {b L o o5 k : Nat} {sc : Nat → Int32} {a a5 : Nat → Nat} {f : Nat → Nat → Nat} {ua : Nat → Nat} {ub : Nat → Nat → Nat} {RU : Nat → Option Nat}
set_option maxHeartbeats 4000000 in
set_option maxRecDepth 100000 in
theorem lw_loop (C : OK G X cL_law R_law 4 (some .boolean)) (hL : L ≤ 2560) (hX : va_X b L sc (xs X) (xs X).heap) (hbl : b < (xs X).heap.size) (hbA : ¬ (xA X) b) (fin : ∀ (cs ss : Nat) (k : Nat) (w : va_W), cs ≤ 600000 → ss ≤ 7302250 → V G X cL_law 4 room_1 Q cs ss 865 (lvo [(0, .ref b), (1, .ref o), (2, .ref o5), (3, .int (nI (5 * k)))]) [] w) : ∀ (fu k : Nat) (A : AS) (D : DS) (S5 : MS), L < 5 * (k + fu) → 5 * k ≤ L → AInv A → CRel A RU ua D → MRel A S5 → V G X cL_law 4 room_1 Q (73 + 7 * k) (3555 + 129 * k) 18 (lvo [(0, .ref b), (1, .ref o), (2, .ref o5), (3, .int (nI (5 * k)))]) [] (MW G o5 a5 S5 ++ DWd G o a f ua ub RU A D) := by
  intro fu
  induction fu with
  | zero => intro k A D S5 hf hk hI hC hM; exfalso; omega
  | succ fu ih =>
    intro k A D S5 hf hk hI hC hM
    refine v_iload_n (pc := 18) C dL_law_18 rfl ?_
    refine v_aload_n (pc := 19) C dL_law_19 rfl ?_
    refine v_slen (pc := 20) C hX hbl hbA dL_law_20 ?_
    refine v_iconst (pc := 21) (v := 5) C dL_law_21 (by decide) ?_
    refine v_isub (pc := 22) C dL_law_22 ?_
    refine v_icmp_gt (pc := 23) (tgt := 865) C dL_law_23 (by decide) (fun _ => fin _ _ k _ (by omega) (by omega)) (fun c_23 => ?_)
    have hk5 := lw_gt hL (by omega) c_23
    have back : ∀ (A : AS) (D : DS) (S5 : MS), AInv A → CRel A RU ua D → MRel A S5 → V G X cL_law 4 room_1 Q (73 + 7 * (k + 1)) (3555 + 129 * (k + 1)) 859 (lvo [(0, .ref b), (1, .ref o), (2, .ref o5), (3, .int (nI (5 * k)))]) [] (MW G o5 a5 S5 ++ DWd G o a f ua ub RU A D) := by
      intro A D S5 hI hC hM
      refine v_iinc (pc := 859) C dL_law_859 rfl (lw_5 k) ?_
      refine v_goto (pc := 862) (tgt := 18) C dL_law_862 (by decide) ?_
      exact V.lessE (ih (k + 1) A D S5 (by omega) (by omega) hI hC hM) ⟨rfl, rfl, rfl, rfl, trivial⟩
    refine v_aload_n (pc := 26) C dL_law_26 rfl ?_
    refine v_iload_n (pc := 27) C dL_law_27 rfl ?_
    refine v_sld (pc := 28) C hX hbl hbA (by omega) (i := 5 * k) (by omega) dL_law_28 ?_
    refine v_bipush (pc := 29) (v := 31) C dL_law_29 (by decide) ?_
    refine v_iand (pc := 31) C dL_law_31 ?_
    by_cases sw_0 : (sc (5 * k) &&& 31) = 0
    · refine v_cv (y := 0) sw_0 ?_
      refine v_tableIn (pc := 32) (tgt := 140) C dL_law_32 (by decide) (by decide) rfl (by decide) ?_
      exact lw_c0 C hL hX hbl hbA hk5 A D S5 hI hC hM back
    by_cases sw_1 : (sc (5 * k) &&& 31) = 1
    · refine v_cv (y := 1) sw_1 ?_
      refine v_tableIn (pc := 32) (tgt := 153) C dL_law_32 (by decide) (by decide) rfl (by decide) ?_
      exact lw_c1 C hL hX hbl hbA hk5 A D S5 hI hC hM back
    by_cases sw_2 : (sc (5 * k) &&& 31) = 2
    · refine v_cv (y := 2) sw_2 ?_
      refine v_tableIn (pc := 32) (tgt := 206) C dL_law_32 (by decide) (by decide) rfl (by decide) ?_
      exact lw_c2 C hL hX hbl hbA hk5 A D S5 hI hC hM back
    by_cases sw_3 : (sc (5 * k) &&& 31) = 3
    · refine v_cv (y := 3) sw_3 ?_
      refine v_tableIn (pc := 32) (tgt := 249) C dL_law_32 (by decide) (by decide) rfl (by decide) ?_
      exact lw_c3 C hL hX hbl hbA hk5 A D S5 hI hC hM back
    by_cases sw_4 : (sc (5 * k) &&& 31) = 4
    · refine v_cv (y := 4) sw_4 ?_
      refine v_tableIn (pc := 32) (tgt := 272) C dL_law_32 (by decide) (by decide) rfl (by decide) ?_
      exact lw_c4 C hL hX hbl hbA hk5 A D S5 hI hC hM back
    by_cases sw_5 : (sc (5 * k) &&& 31) = 5
    · refine v_cv (y := 5) sw_5 ?_
      refine v_tableIn (pc := 32) (tgt := 315) C dL_law_32 (by decide) (by decide) rfl (by decide) ?_
      exact lw_c5 C hL hX hbl hbA hk5 A D S5 hI hC hM back
    by_cases sw_6 : (sc (5 * k) &&& 31) = 6
    · refine v_cv (y := 6) sw_6 ?_
      refine v_tableIn (pc := 32) (tgt := 338) C dL_law_32 (by decide) (by decide) rfl (by decide) ?_
      exact lw_c6 C hL hX hbl hbA hk5 A D S5 hI hC hM back
    by_cases sw_7 : (sc (5 * k) &&& 31) = 7
    · refine v_cv (y := 7) sw_7 ?_
      refine v_tableIn (pc := 32) (tgt := 361) C dL_law_32 (by decide) (by decide) rfl (by decide) ?_
      exact lw_c7 C hL hX hbl hbA hk5 A D S5 hI hC hM back
    by_cases sw_8 : (sc (5 * k) &&& 31) = 8
    · refine v_cv (y := 8) sw_8 ?_
      refine v_tableIn (pc := 32) (tgt := 414) C dL_law_32 (by decide) (by decide) rfl (by decide) ?_
      exact lw_c8 C hL hX hbl hbA hk5 A D S5 hI hC hM back
    by_cases sw_9 : (sc (5 * k) &&& 31) = 9
    · refine v_cv (y := 9) sw_9 ?_
      refine v_tableIn (pc := 32) (tgt := 447) C dL_law_32 (by decide) (by decide) rfl (by decide) ?_
      exact lw_c9 C hL hX hbl hbA hk5 A D S5 hI hC hM back
    by_cases sw_10 : (sc (5 * k) &&& 31) = 10
    · refine v_cv (y := 10) sw_10 ?_
      refine v_tableIn (pc := 32) (tgt := 480) C dL_law_32 (by decide) (by decide) rfl (by decide) ?_
      exact lw_c10 C hL hX hbl hbA hk5 A D S5 hI hC hM back
    by_cases sw_11 : (sc (5 * k) &&& 31) = 11
    · refine v_cv (y := 11) sw_11 ?_
      refine v_tableIn (pc := 32) (tgt := 513) C dL_law_32 (by decide) (by decide) rfl (by decide) ?_
      exact lw_c11 C hL hX hbl hbA hk5 A D S5 hI hC hM back
    by_cases sw_12 : (sc (5 * k) &&& 31) = 12
    · refine v_cv (y := 12) sw_12 ?_
      refine v_tableIn (pc := 32) (tgt := 546) C dL_law_32 (by decide) (by decide) rfl (by decide) ?_
      exact lw_c12 C hL hX hbl hbA hk5 A D S5 hI hC hM back
    by_cases sw_13 : (sc (5 * k) &&& 31) = 13
    · refine v_cv (y := 13) sw_13 ?_
      refine v_tableIn (pc := 32) (tgt := 569) C dL_law_32 (by decide) (by decide) rfl (by decide) ?_
      exact lw_c13 C hL hX hbl hbA hk5 A D S5 hI hC hM back
    by_cases sw_14 : (sc (5 * k) &&& 31) = 14
    · refine v_cv (y := 14) sw_14 ?_
      refine v_tableIn (pc := 32) (tgt := 602) C dL_law_32 (by decide) (by decide) rfl (by decide) ?_
      exact lw_c14 C hL hX hbl hbA hk5 A D S5 hI hC hM back
    by_cases sw_15 : (sc (5 * k) &&& 31) = 15
    · refine v_cv (y := 15) sw_15 ?_
      refine v_tableIn (pc := 32) (tgt := 635) C dL_law_32 (by decide) (by decide) rfl (by decide) ?_
      exact lw_c15 C hL hX hbl hbA hk5 A D S5 hI hC hM back
    by_cases sw_16 : (sc (5 * k) &&& 31) = 16
    · refine v_cv (y := 16) sw_16 ?_
      refine v_tableIn (pc := 32) (tgt := 678) C dL_law_32 (by decide) (by decide) rfl (by decide) ?_
      exact lw_c16 C hL hX hbl hbA hk5 A D S5 hI hC hM back
    by_cases sw_17 : (sc (5 * k) &&& 31) = 17
    · refine v_cv (y := 17) sw_17 ?_
      refine v_tableIn (pc := 32) (tgt := 711) C dL_law_32 (by decide) (by decide) rfl (by decide) ?_
      exact lw_c17 C hL hX hbl hbA hk5 A D S5 hI hC hM back
    by_cases sw_18 : (sc (5 * k) &&& 31) = 18
    · refine v_cv (y := 18) sw_18 ?_
      refine v_tableIn (pc := 32) (tgt := 744) C dL_law_32 (by decide) (by decide) rfl (by decide) ?_
      exact lw_c18 C hL hX hbl hbA hk5 A D S5 hI hC hM back
    by_cases sw_19 : (sc (5 * k) &&& 31) = 19
    · refine v_cv (y := 19) sw_19 ?_
      refine v_tableIn (pc := 32) (tgt := 767) C dL_law_32 (by decide) (by decide) rfl (by decide) ?_
      exact lw_c19 C hL hX hbl hbA hk5 A D S5 hI hC hM back
    by_cases sw_20 : (sc (5 * k) &&& 31) = 20
    · refine v_cv (y := 20) sw_20 ?_
      refine v_tableIn (pc := 32) (tgt := 800) C dL_law_32 (by decide) (by decide) rfl (by decide) ?_
      exact lw_c20 C hL hX hbl hbA hk5 A D S5 hI hC hM back
    by_cases sw_21 : (sc (5 * k) &&& 31) = 21
    · refine v_cv (y := 21) sw_21 ?_
      refine v_tableIn (pc := 32) (tgt := 823) C dL_law_32 (by decide) (by decide) rfl (by decide) ?_
      exact lw_c21 C hL hX hbl hbA hk5 A D S5 hI hC hM back
    by_cases sw_22 : (sc (5 * k) &&& 31) = 22
    · refine v_cv (y := 22) sw_22 ?_
      refine v_tableIn (pc := 32) (tgt := 836) C dL_law_32 (by decide) (by decide) rfl (by decide) ?_
      exact lw_c22 C hL hX hbl hbA hk5 A D S5 hI hC hM back
    have so : (sc (5 * k) &&& 31).toInt < 0 ∨ 22 < (sc (5 * k) &&& 31).toInt := by
      refine sw_out (fun v h1 h2 h3 => ?_)
      rcases (show v = 0 ∨ v = 1 ∨ v = 2 ∨ v = 3 ∨ v = 4 ∨ v = 5 ∨ v = 6 ∨ v = 7 ∨ v = 8 ∨ v = 9 ∨ v = 10 ∨ v = 11 ∨ v = 12 ∨ v = 13 ∨ v = 14 ∨ v = 15 ∨ v = 16 ∨ v = 17 ∨ v = 18 ∨ v = 19 ∨ v = 20 ∨ v = 21 ∨ v = 22 by omega) with rfl | rfl | rfl | rfl | rfl | rfl | rfl | rfl | rfl | rfl | rfl | rfl | rfl | rfl | rfl | rfl | rfl | rfl | rfl | rfl | rfl | rfl | rfl
      · exact sw_0 (Int32.toInt_inj.mp h3)
      · exact sw_1 (Int32.toInt_inj.mp h3)
      · exact sw_2 (Int32.toInt_inj.mp h3)
      · exact sw_3 (Int32.toInt_inj.mp h3)
      · exact sw_4 (Int32.toInt_inj.mp h3)
      · exact sw_5 (Int32.toInt_inj.mp h3)
      · exact sw_6 (Int32.toInt_inj.mp h3)
      · exact sw_7 (Int32.toInt_inj.mp h3)
      · exact sw_8 (Int32.toInt_inj.mp h3)
      · exact sw_9 (Int32.toInt_inj.mp h3)
      · exact sw_10 (Int32.toInt_inj.mp h3)
      · exact sw_11 (Int32.toInt_inj.mp h3)
      · exact sw_12 (Int32.toInt_inj.mp h3)
      · exact sw_13 (Int32.toInt_inj.mp h3)
      · exact sw_14 (Int32.toInt_inj.mp h3)
      · exact sw_15 (Int32.toInt_inj.mp h3)
      · exact sw_16 (Int32.toInt_inj.mp h3)
      · exact sw_17 (Int32.toInt_inj.mp h3)
      · exact sw_18 (Int32.toInt_inj.mp h3)
      · exact sw_19 (Int32.toInt_inj.mp h3)
      · exact sw_20 (Int32.toInt_inj.mp h3)
      · exact sw_21 (Int32.toInt_inj.mp h3)
      · exact sw_22 (Int32.toInt_inj.mp h3)
    refine v_tableOut (pc := 32) (tgt := 859) C dL_law_32 so (by decide) ?_
    refine V.wide (k := 73 + 7 * (k + 1)) (n := 3555 + 129 * (k + 1)) (by omega) (by omega) ?_
    exact back A D S5 hI hC hM
end LL
set_option maxHeartbeats 4000000 in
set_option maxRecDepth 100000 in
theorem lw_body {G : TG} {X : TX} {Q : State → Prop} {b L : Nat} {sc : Nat → Int32} (C : OK G X cL_law R_law 4 (some .boolean)) (hL : L ≤ 2560) (hX : va_X b L sc (xs X) (xs X).heap) (hbl : b < (xs X).heap.size) (hbA : ¬ (xA X) b) (fin : ∀ (o o5 : Nat) (cs ss : Nat) (k : Nat) (w : va_W), cs ≤ 600000 → ss ≤ 7302250 → V G X cL_law 4 room_1 Q cs ss 865 (lvo [(0, .ref b), (1, .ref o), (2, .ref o5), (3, .int (nI (5 * k)))]) [] w) : V G X cL_law 4 room_1 Q 0 0 0 (lvo [(0, .ref b)]) [] [] := by
  refine v_new (pc := 0) (ci := 4) (fs := [.null, .null, .null, .null, .null, .null, .null, .null, .null, .null, .null, .int 0, .int 0, .int 0, .int 0, .int 0, .int 0, .long ((0 : Int64))]) C inX4 tyX4 tyX4_ok kw1_11 kw1_12 kw1_1 rfl (by decide) (Nat.le_of_ble_eq_true rfl) (Nat.le_of_ble_eq_true rfl) dL_law_0 (fun o => ?_)
  refine v_dup (pc := 3) C dL_law_3 rfl ?_
  refine V.same (ws' := [] ++ [(o, .inr (4, [.null, .null, .null, .null, .null, .null, .null, .null, .null, .null, .null, .int 0, .int 0, .int 0, .int 0, .int 0, .int 0, .long ((0 : Int64))]))]) rfl ?_
  refine v_callI (cells := 0 + 1) (slots := 0 + 18) (R := room_1) (pc := 4) (st := [.ref o]) (wr := []) C (kX4_init G o) ykX4_init kw1_14 rfl kw1_13 dL_law_4 rfl rfl rfl (by decide) (Nat.le_of_ble_eq_true rfl) (by decide) rfl (Rv_kk (fun u1 h1 => ?_))
  refine V.same (ws' := DWd G o u1.1.1 u1.1.2.1 u1.1.2.2.1 u1.1.2.2.2.1 u1.1.2.2.2.2 aS0 u1.2) rfl ?_
  refine v_astore_n (pc := 7) C dL_law_7 (by decide) ?_
  refine v_new (pc := 8) (ci := 5) (fs := [.null, .null, .null, .null, .int 0, .null, .null, .null, .null, .null, .int 0, .int 0, .null, .null, .int 0, .null, .null, .null, .null, .int 0, .null, .null, .int 0, .null, .int 0, .null, .null, .null, .null, .null, .int 0, .null, .null]) C inX5 tyX5 tyX5_ok kw3_19 kw3_20 kw1_5 rfl (by decide) (Nat.le_of_ble_eq_true rfl) (Nat.le_of_ble_eq_true rfl) dL_law_8 (fun o5 => ?_)
  refine v_dup (pc := 11) C dL_law_11 rfl ?_
  refine v_callI (cells := 0 + 1 + 46 + 1) (slots := 0 + 18 + 986 + 33) (R := room_1) (pc := 12) (st := [.ref o5]) (wr := DWd G o u1.1.1 u1.1.2.1 u1.1.2.2.1 u1.1.2.2.2.1 u1.1.2.2.2.2 aS0 u1.2) C (kX5_init G o5) ykX5_init kw3_22 rfl kw3_21 dL_law_12 rfl rfl rfl (by decide) (Nat.le_of_ble_eq_true rfl) (by decide) rfl (Rv_kk (fun u2 h2 => ?_))
  refine v_astore_n (pc := 15) C dL_law_15 (by decide) ?_
  refine v_iconst (pc := 16) (v := 0) C dL_law_16 (by decide) ?_
  refine v_istore_n (pc := 17) C dL_law_17 (by decide) ?_
  refine V.perm (ws' := MW G o5 u2.1 u2.2 ++ DWd G o u1.1.1 u1.1.2.1 u1.1.2.2.1 u1.1.2.2.2.1 u1.1.2.2.2.2 aS0 u1.2) List.perm_append_comm ?_
  exact V.lessE (lw_loop (o := o) (o5 := o5) C hL hX hbl hbA (fin o o5) (L + 1) 0 aS0 u1.2 u2.2 (by omega) (Nat.zero_le _) AInv_0 h1 h2) ⟨rfl, rfl, rfl, rfl, trivial⟩
theorem whole_start {p : Program} {e : Env} {s : State} {m : MethodId} {below : List Frame} {meth : Method} {c : Code} (l : Launch) {b L : Nat} {xs : Nat → Int32} (hL : L ≤ 2560) (C0 : lw_At p s m meth c b L xs) : W p l e room_1 s m #[Value.ref b] below meth c s.heap [] 0 0 (lw_Z below #[Value.ref b] s) (entryFrame m ([Value.ref b] : List Value).toArray 4) := by
  obtain ⟨hx, hb, hr, hml, hown, hts, hX, hbl, hlocks, hgv⟩ := id C0
  obtain ⟨G, hG, hKK⟩ := KK_start l hts
  subst hG
  have hl := lv_entry ([.ref b]) (n := 4) (Nat.le_of_ble_eq_true rfl)
  rw [lg_entry_eq]
  have C : OK G (p, e, s, m, #[Value.ref b], below, meth, c, fun q : Nat => s.heap.size ≤ q) cL_law R_law 4 (some .boolean) := ⟨hx, hb, fun w hw => hts w (W0_in hw), hKK, hown, hml, hlocks, fun q h => h, hr⟩
  have hbA : ¬ (fun q : Nat => s.heap.size ≤ q) b := Nat.not_le.mpr hbl
  refine lw_body (Q := lw_Z below #[Value.ref b] s) C hL hX hbl hbA (fun o o5 cs ss k w h1 h2 => ?_) s.heap [] _ (lvf_of hl) (fun k q h => by simp at h) ⟨fun i j p q h => by simp at h, fun k q h => by simp at h⟩ va_S.rf
  refine V.wide (k := 600000) (n := 7302250) h1 h2 ?_
  refine v_iconst (pc := 865) (v := 1) C dL_law_865 (by decide) ?_
  exact fun H locs ls hl hP hD hS => va_forget (fun q hq => hS.2.2 q hq) (lw_ret hx hb hr hlocks dL_law_866)
set_option maxHeartbeats 4000000 in
theorem lw_walk (l : Launch) (b : Addr) (xs : List Int32) : MetFree l x (headSpec (Jvm.Cond.code x code maxLocals ret :: tables_1) room_1) (lw_P b xs) (fun _ _ _ _ _ => True) lw_Q := by
  refine MetFree.of_bodyS (code := code) (maxLocals := maxLocals) (ret := ret) (by decide) ?_ ?_
  · intro args s m h hn
    obtain ⟨meth, c, h1, h2, h3, h4, h5, h6, -, -⟩ := Cond.code_spec hn (atoms_spec (ws := Jvm.Cond.code x code maxLocals ret :: tables_1) h _ List.mem_cons_self)
    exact ⟨meth, c, h1, h2, h3, h4, h5, h6⟩
  · intro p e s m args below meth c s₁ B hml0 hP _
    obtain ⟨rfl, hx, hbd, hgv⟩ := hP
    obtain ⟨scr, harrAt, hlist, hof, hsmall⟩ := hx
    obtain ⟨hcb, hkn, -, -⟩ := State.arrayAt?_spec harrAt
    have hown : s.vm.findClass R_law = some m.cls := findClass_of_methodNamed B.named
    have hts0 : ∀ c ∈ (Jvm.Cond.code x code maxLocals ret :: tables_1), c.before #[Value.ref b] s = true := atoms_spec (ws := Jvm.Cond.code x code maxLocals ret :: tables_1) B.pre
    have hts : ∀ w ∈ lw_tbl, w.before #[Value.ref b] s = true := k2_hts_sels lw_privs (fun w hw => hts0 w (List.mem_cons_of_mem _ hw)) lw_privs_ok
    have hml : c.maxLocals = 4 := B.maxLocals_eq (hts0 _ List.mem_cons_self)
    have X₀ : Stand p l e room_1 s m #[Value.ref b] below meth c s₁ [] 0 0 := Stand.of_body B
    have hh0 : s₁.heap = s.heap := by rw [B.state]; rfl
    have hsz : scr.slots.size = xs.length := by rw [← Array.length_toList, hlist, List.length_map]
    have hval : ∀ j : Nat, j < xs.length → scr.slots[j]? = some (.int (xs.getD j 0)) := fun j hj => by
      rw [← Array.getElem?_toList, hlist]
      simp [hj]
    have hbl : b < s.heap.size := (Array.getElem?_eq_some_iff.mp hcb).1
    have hX : va_X b xs.length (fun j => xs.getD j 0) s s.heap := ⟨scr, hcb, hof, hkn, hsz, hval⟩
    have K : W p l e room_1 s m #[Value.ref b] below meth c s₁.heap [] 0 0 (lw_Z below #[Value.ref b] s) (entryFrame m ([Value.ref b] : List Value).toArray 4) := by
      rw [hh0]
      exact whole_start l hbd ⟨B.exec, B.bytes, B.returns, hml, hown, hts, hX, hbl, B.notSynchronized, hgv⟩
    obtain ⟨t, a1, o, b1, b2, b3⟩ := K s₁ rfl X₀
    exact ⟨t, o, a1, b1, b2, b3⟩
theorem lw_pre_spec {args : Array Value} {s : State} (h : (Jvm.Cond.and given_1 narrow_1).before args s = true) (hr : rest_1_c.before args s = true) : ∃ (b : Addr) (xs : List Int32), lw_P b xs args s := by
  have hs := flat_of_before _ h
  have hq := flat_of_before _ hr
  have hc : (Cond.count 1).before args s = true := hs _ (by decide +kernel)
  have harr : (Cond.arrayOf (.arg 0) .int).before args s = true := hs _ (by decide +kernel)
  have hle : (Cond.le (.length (.arg 0)) (.int 2560)).before args s = true := hs _ (by decide +kernel)
  have hlen : (Cond.isInt (.length (.arg 0))).before args s = true := hq _ (by decide +kernel)
  have hall : (Cond.all (.arg 0) (.isInt (.elem (.arg 0) (.index 0)))).before args s = true := hq _ (by decide +kernel)
  obtain ⟨b, xs, hb, hx⟩ := State.ints_of_pre rfl harr hlen hall
  have hsm : xs.length < 2 ^ 31 := hx.choose_spec.2.2.2
  have hev : (Term.length (.arg 0)).eval args s none [] s = some (.int xs.length.toInt32) := hx.length_eval hb
  have hv := Cond.le_ints hev (show (Term.int 2560).eval args s none [] s = some (.int 2560) from rfl)
  have hd : xs.length.toInt32 ≤ 2560 := by
    simpa [Cond.before, Cond.holds, hv] using hle
  have hN : xs.length ≤ 2560 := (Int32.ofNat_le_ofNat hsm (by decide)).mp (show Int32.ofNat xs.length ≤ Int32.ofNat 2560 from hd)
  exact ⟨b, xs, Cond.one_arg hc (show args[0]? = some (.ref b) from hb), hx, hN, h⟩
theorem lw_comes (l : Launch) : Comes l x (Jvm.Cond.code x code maxLocals ret :: tables_1) room_1 (fun tb e args s => Calls_1 tb e args s ∧ rest_1 tb e args s ∧ Pre_1 tb e args s)
    (fun _ _ args s o t => lw_Q args s o t) := by
  intro p e ha hc hk s m args below hf hfit hheap happ hpre
  obtain ⟨b, xs, hP⟩ := lw_pre_spec hpre.2.2 hpre.2.1
  obtain ⟨k, o, h1, h2, h3, hQ⟩ := lw_walk l b xs p e ha hc hk s m args below hf ((Spec.applies_iff_loose hf).mp happ).1 hP trivial
  exact ⟨k, o, h1, h2, h3, hQ⟩
theorem lw_frame {s t : State} {o : Outcome} {args : Array Value} (h : Framed s o t [] 600000 7302250) :
    Framed s o t (fieldLocs frame_1_writes args s ++ arrayLocs frame_1_arrays args s ++ staticLocs frame_1_statics s) 600000 7302250 := h
theorem lw_limb (L : Cond) (hL : ∀ (args : Array Value) (s t : State), L.after args s (.returned (some (.int 1))) t = true) :
    ArmFor flags0 classFile x code maxLocals ret World_1 tables_1 room_1 Calls_1 rest_1 Pre_1
      (fun tb e a s o t => postC L tb e a s o t ∧ Framed s o t (fieldLocs frame_1_writes a s ++ arrayLocs frame_1_arrays a s ++ staticLocs frame_1_statics s) 600000 7302250) := by
  intro l _ _ _ p e ha hc hk s m args below hf hfit hheap happ hpre
  obtain ⟨k, o, h1, h2, h3, rfl, hF⟩ := lw_comes l p e ha hc hk s m args below hf hfit hheap happ hpre
  exact ⟨k, _, h1, h2, h3, hL args s _, lw_frame hF⟩
theorem i_vc : Claimed_1_1 ∧ Claimed_1_2 := ⟨lw_limb limb_1_1 (fun args s t => by simp [limb_1_1, Cond.after, Cond.holds, Cond.value]), lw_limb limb_1_2 (fun args s t => Cond.after_iff.mpr (by
  first | (rw [show limb_1_2 = Cond.eq .result (.int 1) from rfl, Cond.eq_ints (x := 1) (y := 1) rfl rfl]; simp; done) | (simp [limb_1_2, Cond.value, Term.eval]; done)))⟩
