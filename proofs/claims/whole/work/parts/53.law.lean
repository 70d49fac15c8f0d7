/-! THE CLAIM OUT OF ONE WALK OF THE LAW'S BODY. Your part is whole_start (and what it stands on); all else here is the same for every law, but numbers. -/
def R_law : String := "CodeQuizLaw"
def lw_P (b : Addr) (xs : List Int32) (args : Array Value) (s : State) : Prop := args = #[.ref b] ∧ s.IntsAt b xs ∧ xs.length ≤ 2560 ∧ (Jvm.Cond.and given_1 narrow_1).before args s = true
def lw_Q (_ : Array Value) (s : State) (o : Outcome) (t : State) : Prop := o = .returned (some (.int 1)) ∧ Framed s o t [] 600000 7302250
def lw_Z (below : List Frame) (a : Array Value) (s : State) : State → Prop := fun t => ∃ o, t.status = .running ∧ Ended t below o ∧ lw_Q a s o t
/-- the law's own end, with 1 on the stack, nothing written that was there before, its room as the claim has it -/
theorem lw_ret {p : Program} {l : Launch} {e : Env} {s : State} {m : MethodId} {below : List Frame} {meth : Method} {c : Code} {b : Nat} (hx : p.tables.exec = Jvm.exec) (hb : c.code = code) (hr : meth.sig.returnType = ret) (hlocks : meth.locks = false) {pc : Nat} {H : Heap} {ls : Array Slot} (hdg : decode code pc = .ok (.ireturn, 1)) : W p l e room_1 s m #[Value.ref b] below meth c H [] 600000 7302250 (lw_Z below #[Value.ref b] s) (F0 m pc ls [.int 1]) := by
  intro T hT X
  obtain ⟨fs, hret, hrun, hended, hW, hframe⟩ := X.leave (v := some (.int 1)) (hlocks := hlocks) (fun h => by rw [hr] at h; cases h)
  have hmeth' : T.vm.method? m = some meth := X.method'
  refine ⟨T.setFrames fs, ?_, .returned (some (.int 1)), hrun, hended, rfl, ⟨_, rfl⟩, hW, hframe⟩
  jvm_step X.here [X.here.top, hx, hb, hdg, hmeth', hr, ret, narrow_b1]
  (try refine ⟨rfl, ?_⟩); (try refine ⟨rfl, ?_⟩)
  first | (intro acts; rw [hret _ acts rfl rfl rfl]) | rw [hret _ _ rfl rfl rfl]
  exact Steps.refl _
/-- what holds at the law's entry: the machine, the code, the tables' words (any of lw_tbl by 'hts w (by decide +kernel)'), the script of L ints xs at the cell b, what the Statement gives of the start (any of its parts by flat_of_before) -/
def lw_At (p : Program) (s : State) (m : MethodId) (meth : Method) (c : Code) (b L : Nat) (xs : Nat → Int32) : Prop :=
  p.tables.exec = Jvm.exec ∧ c.code = code ∧ meth.sig.returnType = ret ∧ c.maxLocals = 4 ∧ s.vm.findClass R_law = some m.cls ∧ (∀ w ∈ lw_tbl, w.before #[Value.ref b] s = true) ∧ va_X b L xs s s.heap ∧ b < s.heap.size ∧ meth.locks = false ∧ (Jvm.Cond.and given_1 narrow_1).before #[Value.ref b] s = true
/-! the law: its cases -/
section LC
variable {G : TG} {X : TX} {Q : State → Prop} {b L o o5 k : Nat} {sc : Nat → Int32} {a a5 : Nat → Nat} {f : Nat → Nat → Nat} {ua : Nat → Nat} {ub : Nat → Nat → Nat} {RU : Nat → Option Nat}
set_option maxHeartbeats 4000000 in
set_option maxRecDepth 100000 in
theorem lw_c0 (C : OK G X cL_law R_law 4 (some .boolean)) (hL : L ≤ 2560) (hX : va_X b L sc (xs X) (xs X).heap) (hbl : b < (xs X).heap.size) (hbA : ¬ (xA X) b) (hk : 5 * k + 5 ≤ L) (A : AS) (D : DS) (S5 : MS) (hI : AInv A) (hC : CRel A RU ua D) (hM : MRel A S5) (back : ∀ (A : AS) (D : DS) (S5 : MS), AInv A → CRel A RU ua D → MRel A S5 → V G X cL_law 4 room_1 Q (73 + 7 * (k + 1)) (3555 + 129 * (k + 1)) 859 (lvo [(0, .ref b), (1, .ref o), (2, .ref o5), (3, .int (nI (5 * k)))]) [] (MW G o5 a5 S5 ++ DWd G o a f ua ub RU A D)) : V G X cL_law 4 room_1 Q (73 + 7 * k) (3555 + 129 * k) 140 (lvo [(0, .ref b), (1, .ref o), (2, .ref o5), (3, .int (nI (5 * k)))]) [] (MW G o5 a5 S5 ++ DWd G o a f ua ub RU A D) := by
  refine v_aload_n (pc := 140) C dL_law_140 rfl ?_
  refine v_callV (cells := 73 + 7 * k) (slots := 3555 + 129 * k) (R := room_1) (pc := 141) (st := []) (q0 := 0) (wr := MW G o5 a5 S5) C (kX4_program G o a f ua ub D.2.2.2.2.2.2.2.1 D.2.2.2.2.2.2.2.2.1 RU D.1 D.2.1 D.2.2.1 D.2.2.2.1 D.2.2.2.2.1 D.2.2.2.2.2.1 D.2.2.2.2.2.2.1 D.2.2.2.2.2.2.2.2.2.1 D.2.2.2.2.2.2.2.2.2.2.2.1 D.2.2.2.2.2.2.2.2.2.2.1 D.2.2.2.2.2.2.2.2.2.2.2.2 A hI hC) ykX4_program cvX4_program kw1_137 dL_law_141 rfl rfl rfl rfl rfl (by decide) (Nat.le_of_ble_eq_true rfl) ⟨show 73 + 7 * k + 7 ≤ 600000 by omega, show 3555 + 129 * k + 129 ≤ 7302250 by omega⟩ rfl (Ri_kk (fun r1 u1 h1 => ?_))
  obtain ⟨er1, eA1, hC1⟩ := h1
  subst er1
  refine V.perm (ws' := DWd G o a f ua ub RU u1.1 u1.2 ++ MW G o5 a5 S5) List.perm_append_comm ?_
  refine v_aload_n (pc := 144) C dL_law_144 rfl ?_
  refine v_callV (cells := 73 + 7 * k + 7) (slots := 3555 + 129 * k + 129) (R := room_1) (pc := 145) (st := [.int ((s_program A).1)]) (q0 := 0) (wr := DWd G o a f ua ub RU u1.1 u1.2) C (kX5_program G o5 a5 S5 A hI hM) ykX5_program cvX5_program kw3_126 dL_law_145 rfl rfl rfl rfl rfl (by decide) (Nat.le_of_ble_eq_true rfl) ⟨show 73 + 7 * k + 7 + 0 ≤ 600000 by omega, show 3555 + 129 * k + 129 + 0 ≤ 7302250 by omega⟩ rfl (Ri_kk (fun r2 u2 h2 => ?_))
  obtain ⟨er2, hM2⟩ := h2
  subst er2
  refine V.perm (ws' := MW G o5 a5 u2 ++ DWd G o a f ua ub RU u1.1 u1.2) List.perm_append_comm ?_
  refine v_icmp_eq (pc := 148) (tgt := 859) C dL_law_148 (by decide) (fun _ => ?_) (fun q => absurd rfl q)
  refine V.wide (k := 73 + 7 * (k + 1)) (n := 3555 + 129 * (k + 1)) (by omega) (by omega) ?_
  exact back u1.1 u1.2 u2 (by rw [eA1]; exact inv_program hI) hC1 (by rw [eA1]; exact hM2)
set_option maxHeartbeats 4000000 in
set_option maxRecDepth 100000 in
theorem lw_c1 (C : OK G X cL_law R_law 4 (some .boolean)) (hL : L ≤ 2560) (hX : va_X b L sc (xs X) (xs X).heap) (hbl : b < (xs X).heap.size) (hbA : ¬ (xA X) b) (hk : 5 * k + 5 ≤ L) (A : AS) (D : DS) (S5 : MS) (hI : AInv A) (hC : CRel A RU ua D) (hM : MRel A S5) (back : ∀ (A : AS) (D : DS) (S5 : MS), AInv A → CRel A RU ua D → MRel A S5 → V G X cL_law 4 room_1 Q (73 + 7 * (k + 1)) (3555 + 129 * (k + 1)) 859 (lvo [(0, .ref b), (1, .ref o), (2, .ref o5), (3, .int (nI (5 * k)))]) [] (MW G o5 a5 S5 ++ DWd G o a f ua ub RU A D)) : V G X cL_law 4 room_1 Q (73 + 7 * k) (3555 + 129 * k) 153 (lvo [(0, .ref b), (1, .ref o), (2, .ref o5), (3, .int (nI (5 * k)))]) [] (MW G o5 a5 S5 ++ DWd G o a f ua ub RU A D) := by
  refine v_aload_n (pc := 153) C dL_law_153 rfl ?_
  refine v_aload_n (pc := 154) C dL_law_154 rfl ?_
  refine v_iload_n (pc := 155) C dL_law_155 rfl ?_
  refine v_iconst (pc := 156) (v := 1) C dL_law_156 (by decide) ?_
  refine v_iaddN (pc := 157) C (5 * k) 1 rfl rfl dL_law_157 ?_
  refine v_sld (pc := 158) C hX hbl hbA (by omega) (i := 5 * k + 1) (by omega) dL_law_158 ?_
  refine v_aload_n (pc := 159) C dL_law_159 rfl ?_
  refine v_iload_n (pc := 160) C dL_law_160 rfl ?_
  refine v_iconst (pc := 161) (v := 2) C dL_law_161 (by decide) ?_
  refine v_iaddN (pc := 162) C (5 * k) 2 rfl rfl dL_law_162 ?_
  refine v_sld (pc := 163) C hX hbl hbA (by omega) (i := 5 * k + 2) (by omega) dL_law_163 ?_
  refine v_aload_n (pc := 164) C dL_law_164 rfl ?_
  refine v_iload_n (pc := 165) C dL_law_165 rfl ?_
  refine v_iconst (pc := 166) (v := 3) C dL_law_166 (by decide) ?_
  refine v_iaddN (pc := 167) C (5 * k) 3 rfl rfl dL_law_167 ?_
  refine v_sld (pc := 168) C hX hbl hbA (by omega) (i := 5 * k + 3) (by omega) dL_law_168 ?_
  refine v_aload_n (pc := 169) C dL_law_169 rfl ?_
  refine v_iload_n (pc := 170) C dL_law_170 rfl ?_
  refine v_iconst (pc := 171) (v := 4) C dL_law_171 (by decide) ?_
  refine v_iaddN (pc := 172) C (5 * k) 4 rfl rfl dL_law_172 ?_
  refine v_sld (pc := 173) C hX hbl hbA (by omega) (i := 5 * k + 4) (by omega) dL_law_173 ?_
  refine v_callV (cells := 73 + 7 * k) (slots := 3555 + 129 * k) (R := room_1) (pc := 174) (st := []) (q0 := 0) (wr := MW G o5 a5 S5) C (kX4_line G o a f ua ub D.2.2.2.2.2.2.2.1 D.2.2.2.2.2.2.2.2.1 RU D.1 D.2.1 D.2.2.1 D.2.2.2.1 D.2.2.2.2.1 D.2.2.2.2.2.1 D.2.2.2.2.2.2.1 D.2.2.2.2.2.2.2.2.2.1 D.2.2.2.2.2.2.2.2.2.2.2.1 D.2.2.2.2.2.2.2.2.2.2.1 D.2.2.2.2.2.2.2.2.2.2.2.2 A hI hC (sc (5 * k + 1)) (sc (5 * k + 2)) (sc (5 * k + 3)) (sc (5 * k + 4))) ykX4_line cvX4_line kw1_184 dL_law_174 rfl rfl rfl rfl rfl (by decide) (Nat.le_of_ble_eq_true rfl) ⟨show 73 + 7 * k + 0 ≤ 600000 by omega, show 3555 + 129 * k + 0 ≤ 7302250 by omega⟩ rfl (Ri_kk (fun r1 u1 h1 => ?_))
  obtain ⟨er1, eA1, hC1⟩ := h1
  subst er1
  refine V.perm (ws' := DWd G o a f ua ub RU u1.1 u1.2 ++ MW G o5 a5 S5) List.perm_append_comm ?_
  refine v_aload_n (pc := 177) C dL_law_177 rfl ?_
  refine v_aload_n (pc := 178) C dL_law_178 rfl ?_
  refine v_iload_n (pc := 179) C dL_law_179 rfl ?_
  refine v_iconst (pc := 180) (v := 1) C dL_law_180 (by decide) ?_
  refine v_iaddN (pc := 181) C (5 * k) 1 rfl rfl dL_law_181 ?_
  refine v_sld (pc := 182) C hX hbl hbA (by omega) (i := 5 * k + 1) (by omega) dL_law_182 ?_
  refine v_aload_n (pc := 183) C dL_law_183 rfl ?_
  refine v_iload_n (pc := 184) C dL_law_184 rfl ?_
  refine v_iconst (pc := 185) (v := 2) C dL_law_185 (by decide) ?_
  refine v_iaddN (pc := 186) C (5 * k) 2 rfl rfl dL_law_186 ?_
  refine v_sld (pc := 187) C hX hbl hbA (by omega) (i := 5 * k + 2) (by omega) dL_law_187 ?_
  refine v_aload_n (pc := 188) C dL_law_188 rfl ?_
  refine v_iload_n (pc := 189) C dL_law_189 rfl ?_
  refine v_iconst (pc := 190) (v := 3) C dL_law_190 (by decide) ?_
  refine v_iaddN (pc := 191) C (5 * k) 3 rfl rfl dL_law_191 ?_
  refine v_sld (pc := 192) C hX hbl hbA (by omega) (i := 5 * k + 3) (by omega) dL_law_192 ?_
  refine v_aload_n (pc := 193) C dL_law_193 rfl ?_
  refine v_iload_n (pc := 194) C dL_law_194 rfl ?_
  refine v_iconst (pc := 195) (v := 4) C dL_law_195 (by decide) ?_
  refine v_iaddN (pc := 196) C (5 * k) 4 rfl rfl dL_law_196 ?_
  refine v_sld (pc := 197) C hX hbl hbA (by omega) (i := 5 * k + 4) (by omega) dL_law_197 ?_
  refine v_callV (cells := 73 + 7 * k + 0) (slots := 3555 + 129 * k + 0) (R := room_1) (pc := 198) (st := [.int ((s_line A (sc (5 * k + 1)) (sc (5 * k + 2)) (sc (5 * k + 3)) (sc (5 * k + 4))).1)]) (q0 := 0) (wr := DWd G o a f ua ub RU u1.1 u1.2) C (kX5_line G o5 a5 S5 A hI hM (sc (5 * k + 1)) (sc (5 * k + 2)) (sc (5 * k + 3)) (sc (5 * k + 4))) ykX5_line cvX5_line kw3_130 dL_law_198 rfl rfl rfl rfl rfl (by decide) (Nat.le_of_ble_eq_true rfl) ⟨show 73 + 7 * k + 0 + 0 ≤ 600000 by omega, show 3555 + 129 * k + 0 + 0 ≤ 7302250 by omega⟩ rfl (Ri_kk (fun r2 u2 h2 => ?_))
  obtain ⟨er2, hM2⟩ := h2
  subst er2
  refine V.perm (ws' := MW G o5 a5 u2 ++ DWd G o a f ua ub RU u1.1 u1.2) List.perm_append_comm ?_
  refine v_icmp_eq (pc := 201) (tgt := 859) C dL_law_201 (by decide) (fun _ => ?_) (fun q => absurd rfl q)
  refine V.wide (k := 73 + 7 * (k + 1)) (n := 3555 + 129 * (k + 1)) (by omega) (by omega) ?_
  exact back u1.1 u1.2 u2 (by rw [eA1]; exact inv_line hI) hC1 (by rw [eA1]; exact hM2)
set_option maxHeartbeats 4000000 in
set_option maxRecDepth 100000 in
theorem lw_c2 (C : OK G X cL_law R_law 4 (some .boolean)) (hL : L ≤ 2560) (hX : va_X b L sc (xs X) (xs X).heap) (hbl : b < (xs X).heap.size) (hbA : ¬ (xA X) b) (hk : 5 * k + 5 ≤ L) (A : AS) (D : DS) (S5 : MS) (hI : AInv A) (hC : CRel A RU ua D) (hM : MRel A S5) (back : ∀ (A : AS) (D : DS) (S5 : MS), AInv A → CRel A RU ua D → MRel A S5 → V G X cL_law 4 room_1 Q (73 + 7 * (k + 1)) (3555 + 129 * (k + 1)) 859 (lvo [(0, .ref b), (1, .ref o), (2, .ref o5), (3, .int (nI (5 * k)))]) [] (MW G o5 a5 S5 ++ DWd G o a f ua ub RU A D)) : V G X cL_law 4 room_1 Q (73 + 7 * k) (3555 + 129 * k) 206 (lvo [(0, .ref b), (1, .ref o), (2, .ref o5), (3, .int (nI (5 * k)))]) [] (MW G o5 a5 S5 ++ DWd G o a f ua ub RU A D) := by
  refine v_aload_n (pc := 206) C dL_law_206 rfl ?_
  refine v_aload_n (pc := 207) C dL_law_207 rfl ?_
  refine v_iload_n (pc := 208) C dL_law_208 rfl ?_
  refine v_iconst (pc := 209) (v := 1) C dL_law_209 (by decide) ?_
  refine v_iaddN (pc := 210) C (5 * k) 1 rfl rfl dL_law_210 ?_
  refine v_sld (pc := 211) C hX hbl hbA (by omega) (i := 5 * k + 1) (by omega) dL_law_211 ?_
  refine v_aload_n (pc := 212) C dL_law_212 rfl ?_
  refine v_iload_n (pc := 213) C dL_law_213 rfl ?_
  refine v_iconst (pc := 214) (v := 2) C dL_law_214 (by decide) ?_
  refine v_iaddN (pc := 215) C (5 * k) 2 rfl rfl dL_law_215 ?_
  refine v_sld (pc := 216) C hX hbl hbA (by omega) (i := 5 * k + 2) (by omega) dL_law_216 ?_
  refine v_aload_n (pc := 217) C dL_law_217 rfl ?_
  refine v_iload_n (pc := 218) C dL_law_218 rfl ?_
  refine v_iconst (pc := 219) (v := 3) C dL_law_219 (by decide) ?_
  refine v_iaddN (pc := 220) C (5 * k) 3 rfl rfl dL_law_220 ?_
  refine v_sld (pc := 221) C hX hbl hbA (by omega) (i := 5 * k + 3) (by omega) dL_law_221 ?_
  refine v_callV (cells := 73 + 7 * k) (slots := 3555 + 129 * k) (R := room_1) (pc := 222) (st := []) (q0 := 0) (wr := MW G o5 a5 S5) C (kX4_about G o a f ua ub D.2.2.2.2.2.2.2.1 D.2.2.2.2.2.2.2.2.1 RU D.1 D.2.1 D.2.2.1 D.2.2.2.1 D.2.2.2.2.1 D.2.2.2.2.2.1 D.2.2.2.2.2.2.1 D.2.2.2.2.2.2.2.2.2.1 D.2.2.2.2.2.2.2.2.2.2.2.1 D.2.2.2.2.2.2.2.2.2.2.1 D.2.2.2.2.2.2.2.2.2.2.2.2 A hI hC (sc (5 * k + 1)) (sc (5 * k + 2)) (sc (5 * k + 3))) ykX4_about cvX4_about kw1_212 dL_law_222 rfl rfl rfl rfl rfl (by decide) (Nat.le_of_ble_eq_true rfl) ⟨show 73 + 7 * k + 0 ≤ 600000 by omega, show 3555 + 129 * k + 0 ≤ 7302250 by omega⟩ rfl (Ri_kk (fun r1 u1 h1 => ?_))
  obtain ⟨er1, eA1, hC1⟩ := h1
  subst er1
  refine V.perm (ws' := DWd G o a f ua ub RU u1.1 u1.2 ++ MW G o5 a5 S5) List.perm_append_comm ?_
  refine v_aload_n (pc := 225) C dL_law_225 rfl ?_
  refine v_aload_n (pc := 226) C dL_law_226 rfl ?_
  refine v_iload_n (pc := 227) C dL_law_227 rfl ?_
  refine v_iconst (pc := 228) (v := 1) C dL_law_228 (by decide) ?_
  refine v_iaddN (pc := 229) C (5 * k) 1 rfl rfl dL_law_229 ?_
  refine v_sld (pc := 230) C hX hbl hbA (by omega) (i := 5 * k + 1) (by omega) dL_law_230 ?_
  refine v_aload_n (pc := 231) C dL_law_231 rfl ?_
  refine v_iload_n (pc := 232) C dL_law_232 rfl ?_
  refine v_iconst (pc := 233) (v := 2) C dL_law_233 (by decide) ?_
  refine v_iaddN (pc := 234) C (5 * k) 2 rfl rfl dL_law_234 ?_
  refine v_sld (pc := 235) C hX hbl hbA (by omega) (i := 5 * k + 2) (by omega) dL_law_235 ?_
  refine v_aload_n (pc := 236) C dL_law_236 rfl ?_
  refine v_iload_n (pc := 237) C dL_law_237 rfl ?_
  refine v_iconst (pc := 238) (v := 3) C dL_law_238 (by decide) ?_
  refine v_iaddN (pc := 239) C (5 * k) 3 rfl rfl dL_law_239 ?_
  refine v_sld (pc := 240) C hX hbl hbA (by omega) (i := 5 * k + 3) (by omega) dL_law_240 ?_
  refine v_callV (cells := 73 + 7 * k + 0) (slots := 3555 + 129 * k + 0) (R := room_1) (pc := 241) (st := [.int (s_about A (sc (5 * k + 1)) (sc (5 * k + 2)) (sc (5 * k + 3)))]) (q0 := 0) (wr := DWd G o a f ua ub RU u1.1 u1.2) C (kX5_about G o5 a5 S5 A hI hM (sc (5 * k + 1)) (sc (5 * k + 2)) (sc (5 * k + 3))) ykX5_about cvX5_about kw3_148 dL_law_241 rfl rfl rfl rfl rfl (by decide) (Nat.le_of_ble_eq_true rfl) ⟨show 73 + 7 * k + 0 + 0 ≤ 600000 by omega, show 3555 + 129 * k + 0 + 0 ≤ 7302250 by omega⟩ rfl (Ri_kk (fun r2 u2 h2 => ?_))
  obtain ⟨er2, hM2⟩ := h2
  subst er2
  refine V.perm (ws' := MW G o5 a5 u2 ++ DWd G o a f ua ub RU u1.1 u1.2) List.perm_append_comm ?_
  refine v_icmp_eq (pc := 244) (tgt := 859) C dL_law_244 (by decide) (fun _ => ?_) (fun q => absurd rfl q)
  refine V.wide (k := 73 + 7 * (k + 1)) (n := 3555 + 129 * (k + 1)) (by omega) (by omega) ?_
  exact back u1.1 u1.2 u2 (by rw [eA1]; exact hI) hC1 (by rw [eA1]; exact hM2)
set_option maxHeartbeats 4000000 in
set_option maxRecDepth 100000 in
theorem lw_c3 (C : OK G X cL_law R_law 4 (some .boolean)) (hL : L ≤ 2560) (hX : va_X b L sc (xs X) (xs X).heap) (hbl : b < (xs X).heap.size) (hbA : ¬ (xA X) b) (hk : 5 * k + 5 ≤ L) (A : AS) (D : DS) (S5 : MS) (hI : AInv A) (hC : CRel A RU ua D) (hM : MRel A S5) (back : ∀ (A : AS) (D : DS) (S5 : MS), AInv A → CRel A RU ua D → MRel A S5 → V G X cL_law 4 room_1 Q (73 + 7 * (k + 1)) (3555 + 129 * (k + 1)) 859 (lvo [(0, .ref b), (1, .ref o), (2, .ref o5), (3, .int (nI (5 * k)))]) [] (MW G o5 a5 S5 ++ DWd G o a f ua ub RU A D)) : V G X cL_law 4 room_1 Q (73 + 7 * k) (3555 + 129 * k) 249 (lvo [(0, .ref b), (1, .ref o), (2, .ref o5), (3, .int (nI (5 * k)))]) [] (MW G o5 a5 S5 ++ DWd G o a f ua ub RU A D) := by
  refine v_aload_n (pc := 249) C dL_law_249 rfl ?_
  refine v_aload_n (pc := 250) C dL_law_250 rfl ?_
  refine v_iload_n (pc := 251) C dL_law_251 rfl ?_
  refine v_iconst (pc := 252) (v := 1) C dL_law_252 (by decide) ?_
  refine v_iaddN (pc := 253) C (5 * k) 1 rfl rfl dL_law_253 ?_
  refine v_sld (pc := 254) C hX hbl hbA (by omega) (i := 5 * k + 1) (by omega) dL_law_254 ?_
  refine v_callV (cells := 73 + 7 * k) (slots := 3555 + 129 * k) (R := room_1) (pc := 255) (st := []) (q0 := 0) (wr := MW G o5 a5 S5) C (kX4_whole G o a f ua ub D.2.2.2.2.2.2.2.1 D.2.2.2.2.2.2.2.2.1 RU D.1 D.2.1 D.2.2.1 D.2.2.2.1 D.2.2.2.2.1 D.2.2.2.2.2.1 D.2.2.2.2.2.2.1 D.2.2.2.2.2.2.2.2.2.1 D.2.2.2.2.2.2.2.2.2.2.2.1 D.2.2.2.2.2.2.2.2.2.2.1 D.2.2.2.2.2.2.2.2.2.2.2.2 A hI hC (sc (5 * k + 1))) ykX4_whole cvX4_whole kw1_221 dL_law_255 rfl rfl rfl rfl rfl (by decide) (Nat.le_of_ble_eq_true rfl) ⟨show 73 + 7 * k + 0 ≤ 600000 by omega, show 3555 + 129 * k + 0 ≤ 7302250 by omega⟩ rfl (Ri_kk (fun r1 u1 h1 => ?_))
  obtain ⟨er1, eA1, hC1⟩ := h1
  subst er1
  refine V.perm (ws' := DWd G o a f ua ub RU u1.1 u1.2 ++ MW G o5 a5 S5) List.perm_append_comm ?_
  refine v_aload_n (pc := 258) C dL_law_258 rfl ?_
  refine v_aload_n (pc := 259) C dL_law_259 rfl ?_
  refine v_iload_n (pc := 260) C dL_law_260 rfl ?_
  refine v_iconst (pc := 261) (v := 1) C dL_law_261 (by decide) ?_
  refine v_iaddN (pc := 262) C (5 * k) 1 rfl rfl dL_law_262 ?_
  refine v_sld (pc := 263) C hX hbl hbA (by omega) (i := 5 * k + 1) (by omega) dL_law_263 ?_
  refine v_callV (cells := 73 + 7 * k + 0) (slots := 3555 + 129 * k + 0) (R := room_1) (pc := 264) (st := [.int (s_whole A (sc (5 * k + 1)))]) (q0 := 0) (wr := DWd G o a f ua ub RU u1.1 u1.2) C (kX5_whole G o5 a5 S5 A hI hM (sc (5 * k + 1))) ykX5_whole cvX5_whole kw3_153 dL_law_264 rfl rfl rfl rfl rfl (by decide) (Nat.le_of_ble_eq_true rfl) ⟨show 73 + 7 * k + 0 + 0 ≤ 600000 by omega, show 3555 + 129 * k + 0 + 0 ≤ 7302250 by omega⟩ rfl (Ri_kk (fun r2 u2 h2 => ?_))
  obtain ⟨er2, hM2⟩ := h2
  subst er2
  refine V.perm (ws' := MW G o5 a5 u2 ++ DWd G o a f ua ub RU u1.1 u1.2) List.perm_append_comm ?_
  refine v_icmp_eq (pc := 267) (tgt := 859) C dL_law_267 (by decide) (fun _ => ?_) (fun q => absurd rfl q)
  refine V.wide (k := 73 + 7 * (k + 1)) (n := 3555 + 129 * (k + 1)) (by omega) (by omega) ?_
  exact back u1.1 u1.2 u2 (by rw [eA1]; exact hI) hC1 (by rw [eA1]; exact hM2)
set_option maxHeartbeats 4000000 in
set_option maxRecDepth 100000 in
theorem lw_c4 (C : OK G X cL_law R_law 4 (some .boolean)) (hL : L ≤ 2560) (hX : va_X b L sc (xs X) (xs X).heap) (hbl : b < (xs X).heap.size) (hbA : ¬ (xA X) b) (hk : 5 * k + 5 ≤ L) (A : AS) (D : DS) (S5 : MS) (hI : AInv A) (hC : CRel A RU ua D) (hM : MRel A S5) (back : ∀ (A : AS) (D : DS) (S5 : MS), AInv A → CRel A RU ua D → MRel A S5 → V G X cL_law 4 room_1 Q (73 + 7 * (k + 1)) (3555 + 129 * (k + 1)) 859 (lvo [(0, .ref b), (1, .ref o), (2, .ref o5), (3, .int (nI (5 * k)))]) [] (MW G o5 a5 S5 ++ DWd G o a f ua ub RU A D)) : V G X cL_law 4 room_1 Q (73 + 7 * k) (3555 + 129 * k) 272 (lvo [(0, .ref b), (1, .ref o), (2, .ref o5), (3, .int (nI (5 * k)))]) [] (MW G o5 a5 S5 ++ DWd G o a f ua ub RU A D) := by
  refine v_aload_n (pc := 272) C dL_law_272 rfl ?_
  refine v_aload_n (pc := 273) C dL_law_273 rfl ?_
  refine v_iload_n (pc := 274) C dL_law_274 rfl ?_
  refine v_iconst (pc := 275) (v := 1) C dL_law_275 (by decide) ?_
  refine v_iaddN (pc := 276) C (5 * k) 1 rfl rfl dL_law_276 ?_
  refine v_sld (pc := 277) C hX hbl hbA (by omega) (i := 5 * k + 1) (by omega) dL_law_277 ?_
  refine v_aload_n (pc := 278) C dL_law_278 rfl ?_
  refine v_iload_n (pc := 279) C dL_law_279 rfl ?_
  refine v_iconst (pc := 280) (v := 2) C dL_law_280 (by decide) ?_
  refine v_iaddN (pc := 281) C (5 * k) 2 rfl rfl dL_law_281 ?_
  refine v_sld (pc := 282) C hX hbl hbA (by omega) (i := 5 * k + 2) (by omega) dL_law_282 ?_
  refine v_aload_n (pc := 283) C dL_law_283 rfl ?_
  refine v_iload_n (pc := 284) C dL_law_284 rfl ?_
  refine v_iconst (pc := 285) (v := 3) C dL_law_285 (by decide) ?_
  refine v_iaddN (pc := 286) C (5 * k) 3 rfl rfl dL_law_286 ?_
  refine v_sld (pc := 287) C hX hbl hbA (by omega) (i := 5 * k + 3) (by omega) dL_law_287 ?_
  refine v_callV (cells := 73 + 7 * k) (slots := 3555 + 129 * k) (R := room_1) (pc := 288) (st := []) (q0 := 0) (wr := MW G o5 a5 S5) C (kX4_run G o a f ua ub D.2.2.2.2.2.2.2.1 D.2.2.2.2.2.2.2.2.1 RU D.1 D.2.1 D.2.2.1 D.2.2.2.1 D.2.2.2.2.1 D.2.2.2.2.2.1 D.2.2.2.2.2.2.1 D.2.2.2.2.2.2.2.2.2.1 D.2.2.2.2.2.2.2.2.2.2.2.1 D.2.2.2.2.2.2.2.2.2.2.1 D.2.2.2.2.2.2.2.2.2.2.2.2 A hI hC (sc (5 * k + 1)) (sc (5 * k + 2)) (sc (5 * k + 3))) ykX4_run cvX4_run kw1_225 dL_law_288 rfl rfl rfl rfl rfl (by decide) (Nat.le_of_ble_eq_true rfl) ⟨show 73 + 7 * k + 0 ≤ 600000 by omega, show 3555 + 129 * k + 0 ≤ 7302250 by omega⟩ rfl (Ri_kk (fun r1 u1 h1 => ?_))
  obtain ⟨er1, eA1, hC1⟩ := h1
  subst er1
  refine V.perm (ws' := DWd G o a f ua ub RU u1.1 u1.2 ++ MW G o5 a5 S5) List.perm_append_comm ?_
  refine v_aload_n (pc := 291) C dL_law_291 rfl ?_
  refine v_aload_n (pc := 292) C dL_law_292 rfl ?_
  refine v_iload_n (pc := 293) C dL_law_293 rfl ?_
  refine v_iconst (pc := 294) (v := 1) C dL_law_294 (by decide) ?_
  refine v_iaddN (pc := 295) C (5 * k) 1 rfl rfl dL_law_295 ?_
  refine v_sld (pc := 296) C hX hbl hbA (by omega) (i := 5 * k + 1) (by omega) dL_law_296 ?_
  refine v_aload_n (pc := 297) C dL_law_297 rfl ?_
  refine v_iload_n (pc := 298) C dL_law_298 rfl ?_
  refine v_iconst (pc := 299) (v := 2) C dL_law_299 (by decide) ?_
  refine v_iaddN (pc := 300) C (5 * k) 2 rfl rfl dL_law_300 ?_
  refine v_sld (pc := 301) C hX hbl hbA (by omega) (i := 5 * k + 2) (by omega) dL_law_301 ?_
  refine v_aload_n (pc := 302) C dL_law_302 rfl ?_
  refine v_iload_n (pc := 303) C dL_law_303 rfl ?_
  refine v_iconst (pc := 304) (v := 3) C dL_law_304 (by decide) ?_
  refine v_iaddN (pc := 305) C (5 * k) 3 rfl rfl dL_law_305 ?_
  refine v_sld (pc := 306) C hX hbl hbA (by omega) (i := 5 * k + 3) (by omega) dL_law_306 ?_
  refine v_callV (cells := 73 + 7 * k + 0) (slots := 3555 + 129 * k + 0) (R := room_1) (pc := 307) (st := [.int ((s_run A (sc (5 * k + 1)) (sc (5 * k + 2)) (sc (5 * k + 3))).1)]) (q0 := 0) (wr := DWd G o a f ua ub RU u1.1 u1.2) C (kX5_run G o5 a5 S5 A hI hM (sc (5 * k + 1)) (sc (5 * k + 2)) (sc (5 * k + 3))) ykX5_run cvX5_run kw3_161 dL_law_307 rfl rfl rfl rfl rfl (by decide) (Nat.le_of_ble_eq_true rfl) ⟨show 73 + 7 * k + 0 + 0 ≤ 600000 by omega, show 3555 + 129 * k + 0 + 0 ≤ 7302250 by omega⟩ rfl (Ri_kk (fun r2 u2 h2 => ?_))
  obtain ⟨er2, hM2⟩ := h2
  subst er2
  refine V.perm (ws' := MW G o5 a5 u2 ++ DWd G o a f ua ub RU u1.1 u1.2) List.perm_append_comm ?_
  refine v_icmp_eq (pc := 310) (tgt := 859) C dL_law_310 (by decide) (fun _ => ?_) (fun q => absurd rfl q)
  refine V.wide (k := 73 + 7 * (k + 1)) (n := 3555 + 129 * (k + 1)) (by omega) (by omega) ?_
  exact back u1.1 u1.2 u2 (by rw [eA1]; exact inv_run hI) hC1 (by rw [eA1]; exact hM2)
set_option maxHeartbeats 4000000 in
set_option maxRecDepth 100000 in
theorem lw_c5 (C : OK G X cL_law R_law 4 (some .boolean)) (hL : L ≤ 2560) (hX : va_X b L sc (xs X) (xs X).heap) (hbl : b < (xs X).heap.size) (hbA : ¬ (xA X) b) (hk : 5 * k + 5 ≤ L) (A : AS) (D : DS) (S5 : MS) (hI : AInv A) (hC : CRel A RU ua D) (hM : MRel A S5) (back : ∀ (A : AS) (D : DS) (S5 : MS), AInv A → CRel A RU ua D → MRel A S5 → V G X cL_law 4 room_1 Q (73 + 7 * (k + 1)) (3555 + 129 * (k + 1)) 859 (lvo [(0, .ref b), (1, .ref o), (2, .ref o5), (3, .int (nI (5 * k)))]) [] (MW G o5 a5 S5 ++ DWd G o a f ua ub RU A D)) : V G X cL_law 4 room_1 Q (73 + 7 * k) (3555 + 129 * k) 315 (lvo [(0, .ref b), (1, .ref o), (2, .ref o5), (3, .int (nI (5 * k)))]) [] (MW G o5 a5 S5 ++ DWd G o a f ua ub RU A D) := by
  refine v_aload_n (pc := 315) C dL_law_315 rfl ?_
  refine v_aload_n (pc := 316) C dL_law_316 rfl ?_
  refine v_iload_n (pc := 317) C dL_law_317 rfl ?_
  refine v_iconst (pc := 318) (v := 1) C dL_law_318 (by decide) ?_
  refine v_iaddN (pc := 319) C (5 * k) 1 rfl rfl dL_law_319 ?_
  refine v_sld (pc := 320) C hX hbl hbA (by omega) (i := 5 * k + 1) (by omega) dL_law_320 ?_
  refine v_callV (cells := 73 + 7 * k) (slots := 3555 + 129 * k) (R := room_1) (pc := 321) (st := []) (q0 := 0) (wr := MW G o5 a5 S5) C (kX4_told G o a f ua ub D.2.2.2.2.2.2.2.1 D.2.2.2.2.2.2.2.2.1 RU D.1 D.2.1 D.2.2.1 D.2.2.2.1 D.2.2.2.2.1 D.2.2.2.2.2.1 D.2.2.2.2.2.2.1 D.2.2.2.2.2.2.2.2.2.1 D.2.2.2.2.2.2.2.2.2.2.2.1 D.2.2.2.2.2.2.2.2.2.2.1 D.2.2.2.2.2.2.2.2.2.2.2.2 A hI hC (sc (5 * k + 1))) ykX4_told cvX4_told kw2_32 dL_law_321 rfl rfl rfl rfl rfl (by decide) (Nat.le_of_ble_eq_true rfl) ⟨show 73 + 7 * k + 0 ≤ 600000 by omega, show 3555 + 129 * k + 0 ≤ 7302250 by omega⟩ rfl (Ri_kk (fun r1 u1 h1 => ?_))
  obtain ⟨er1, eA1, hC1⟩ := h1
  subst er1
  refine V.perm (ws' := DWd G o a f ua ub RU u1.1 u1.2 ++ MW G o5 a5 S5) List.perm_append_comm ?_
  refine v_aload_n (pc := 324) C dL_law_324 rfl ?_
  refine v_aload_n (pc := 325) C dL_law_325 rfl ?_
  refine v_iload_n (pc := 326) C dL_law_326 rfl ?_
  refine v_iconst (pc := 327) (v := 1) C dL_law_327 (by decide) ?_
  refine v_iaddN (pc := 328) C (5 * k) 1 rfl rfl dL_law_328 ?_
  refine v_sld (pc := 329) C hX hbl hbA (by omega) (i := 5 * k + 1) (by omega) dL_law_329 ?_
  refine v_callV (cells := 73 + 7 * k + 0) (slots := 3555 + 129 * k + 0) (R := room_1) (pc := 330) (st := [.int (s_told A (sc (5 * k + 1)))]) (q0 := 0) (wr := DWd G o a f ua ub RU u1.1 u1.2) C (kX5_told G o5 a5 S5 A hI hM (sc (5 * k + 1))) ykX5_told cvX5_told kw3_196 dL_law_330 rfl rfl rfl rfl rfl (by decide) (Nat.le_of_ble_eq_true rfl) ⟨show 73 + 7 * k + 0 + 0 ≤ 600000 by omega, show 3555 + 129 * k + 0 + 0 ≤ 7302250 by omega⟩ rfl (Ri_kk (fun r2 u2 h2 => ?_))
  obtain ⟨er2, hM2⟩ := h2
  subst er2
  refine V.perm (ws' := MW G o5 a5 u2 ++ DWd G o a f ua ub RU u1.1 u1.2) List.perm_append_comm ?_
  refine v_icmp_eq (pc := 333) (tgt := 859) C dL_law_333 (by decide) (fun _ => ?_) (fun q => absurd rfl q)
  refine V.wide (k := 73 + 7 * (k + 1)) (n := 3555 + 129 * (k + 1)) (by omega) (by omega) ?_
  exact back u1.1 u1.2 u2 (by rw [eA1]; exact hI) hC1 (by rw [eA1]; exact hM2)
set_option maxHeartbeats 4000000 in
set_option maxRecDepth 100000 in
theorem lw_c6 (C : OK G X cL_law R_law 4 (some .boolean)) (hL : L ≤ 2560) (hX : va_X b L sc (xs X) (xs X).heap) (hbl : b < (xs X).heap.size) (hbA : ¬ (xA X) b) (hk : 5 * k + 5 ≤ L) (A : AS) (D : DS) (S5 : MS) (hI : AInv A) (hC : CRel A RU ua D) (hM : MRel A S5) (back : ∀ (A : AS) (D : DS) (S5 : MS), AInv A → CRel A RU ua D → MRel A S5 → V G X cL_law 4 room_1 Q (73 + 7 * (k + 1)) (3555 + 129 * (k + 1)) 859 (lvo [(0, .ref b), (1, .ref o), (2, .ref o5), (3, .int (nI (5 * k)))]) [] (MW G o5 a5 S5 ++ DWd G o a f ua ub RU A D)) : V G X cL_law 4 room_1 Q (73 + 7 * k) (3555 + 129 * k) 338 (lvo [(0, .ref b), (1, .ref o), (2, .ref o5), (3, .int (nI (5 * k)))]) [] (MW G o5 a5 S5 ++ DWd G o a f ua ub RU A D) := by
  refine v_aload_n (pc := 338) C dL_law_338 rfl ?_
  refine v_aload_n (pc := 339) C dL_law_339 rfl ?_
  refine v_iload_n (pc := 340) C dL_law_340 rfl ?_
  refine v_iconst (pc := 341) (v := 1) C dL_law_341 (by decide) ?_
  refine v_iaddN (pc := 342) C (5 * k) 1 rfl rfl dL_law_342 ?_
  refine v_sld (pc := 343) C hX hbl hbA (by omega) (i := 5 * k + 1) (by omega) dL_law_343 ?_
  refine v_callV (cells := 73 + 7 * k) (slots := 3555 + 129 * k) (R := room_1) (pc := 344) (st := []) (q0 := 0) (wr := MW G o5 a5 S5) C (kX4_done G o a f ua ub D.2.2.2.2.2.2.2.1 D.2.2.2.2.2.2.2.2.1 RU D.1 D.2.1 D.2.2.1 D.2.2.2.1 D.2.2.2.2.1 D.2.2.2.2.2.1 D.2.2.2.2.2.2.1 D.2.2.2.2.2.2.2.2.2.1 D.2.2.2.2.2.2.2.2.2.2.2.1 D.2.2.2.2.2.2.2.2.2.2.1 D.2.2.2.2.2.2.2.2.2.2.2.2 A hI hC (sc (5 * k + 1))) ykX4_done cvX4_done kw2_44 dL_law_344 rfl rfl rfl rfl rfl (by decide) (Nat.le_of_ble_eq_true rfl) ⟨show 73 + 7 * k + 0 ≤ 600000 by omega, show 3555 + 129 * k + 0 ≤ 7302250 by omega⟩ rfl (Ri_kk (fun r1 u1 h1 => ?_))
  obtain ⟨er1, eA1, hC1⟩ := h1
  subst er1
  refine V.perm (ws' := DWd G o a f ua ub RU u1.1 u1.2 ++ MW G o5 a5 S5) List.perm_append_comm ?_
  refine v_aload_n (pc := 347) C dL_law_347 rfl ?_
  refine v_aload_n (pc := 348) C dL_law_348 rfl ?_
  refine v_iload_n (pc := 349) C dL_law_349 rfl ?_
  refine v_iconst (pc := 350) (v := 1) C dL_law_350 (by decide) ?_
  refine v_iaddN (pc := 351) C (5 * k) 1 rfl rfl dL_law_351 ?_
  refine v_sld (pc := 352) C hX hbl hbA (by omega) (i := 5 * k + 1) (by omega) dL_law_352 ?_
  refine v_callV (cells := 73 + 7 * k + 0) (slots := 3555 + 129 * k + 0) (R := room_1) (pc := 353) (st := [.int (s_done A (sc (5 * k + 1)))]) (q0 := 0) (wr := DWd G o a f ua ub RU u1.1 u1.2) C (kX5_done G o5 a5 S5 A hI hM (sc (5 * k + 1))) ykX5_done cvX5_done kw3_200 dL_law_353 rfl rfl rfl rfl rfl (by decide) (Nat.le_of_ble_eq_true rfl) ⟨show 73 + 7 * k + 0 + 0 ≤ 600000 by omega, show 3555 + 129 * k + 0 + 0 ≤ 7302250 by omega⟩ rfl (Ri_kk (fun r2 u2 h2 => ?_))
  obtain ⟨er2, hM2⟩ := h2
  subst er2
  refine V.perm (ws' := MW G o5 a5 u2 ++ DWd G o a f ua ub RU u1.1 u1.2) List.perm_append_comm ?_
  refine v_icmp_eq (pc := 356) (tgt := 859) C dL_law_356 (by decide) (fun _ => ?_) (fun q => absurd rfl q)
  refine V.wide (k := 73 + 7 * (k + 1)) (n := 3555 + 129 * (k + 1)) (by omega) (by omega) ?_
  exact back u1.1 u1.2 u2 (by rw [eA1]; exact hI) hC1 (by rw [eA1]; exact hM2)
set_option maxHeartbeats 4000000 in
set_option maxRecDepth 100000 in
theorem lw_c7 (C : OK G X cL_law R_law 4 (some .boolean)) (hL : L ≤ 2560) (hX : va_X b L sc (xs X) (xs X).heap) (hbl : b < (xs X).heap.size) (hbA : ¬ (xA X) b) (hk : 5 * k + 5 ≤ L) (A : AS) (D : DS) (S5 : MS) (hI : AInv A) (hC : CRel A RU ua D) (hM : MRel A S5) (back : ∀ (A : AS) (D : DS) (S5 : MS), AInv A → CRel A RU ua D → MRel A S5 → V G X cL_law 4 room_1 Q (73 + 7 * (k + 1)) (3555 + 129 * (k + 1)) 859 (lvo [(0, .ref b), (1, .ref o), (2, .ref o5), (3, .int (nI (5 * k)))]) [] (MW G o5 a5 S5 ++ DWd G o a f ua ub RU A D)) : V G X cL_law 4 room_1 Q (73 + 7 * k) (3555 + 129 * k) 361 (lvo [(0, .ref b), (1, .ref o), (2, .ref o5), (3, .int (nI (5 * k)))]) [] (MW G o5 a5 S5 ++ DWd G o a f ua ub RU A D) := by
  refine v_aload_n (pc := 361) C dL_law_361 rfl ?_
  refine v_aload_n (pc := 362) C dL_law_362 rfl ?_
  refine v_iload_n (pc := 363) C dL_law_363 rfl ?_
  refine v_iconst (pc := 364) (v := 1) C dL_law_364 (by decide) ?_
  refine v_iaddN (pc := 365) C (5 * k) 1 rfl rfl dL_law_365 ?_
  refine v_sld (pc := 366) C hX hbl hbA (by omega) (i := 5 * k + 1) (by omega) dL_law_366 ?_
  refine v_aload_n (pc := 367) C dL_law_367 rfl ?_
  refine v_iload_n (pc := 368) C dL_law_368 rfl ?_
  refine v_iconst (pc := 369) (v := 2) C dL_law_369 (by decide) ?_
  refine v_iaddN (pc := 370) C (5 * k) 2 rfl rfl dL_law_370 ?_
  refine v_sld (pc := 371) C hX hbl hbA (by omega) (i := 5 * k + 2) (by omega) dL_law_371 ?_
  refine v_aload_n (pc := 372) C dL_law_372 rfl ?_
  refine v_iload_n (pc := 373) C dL_law_373 rfl ?_
  refine v_iconst (pc := 374) (v := 3) C dL_law_374 (by decide) ?_
  refine v_iaddN (pc := 375) C (5 * k) 3 rfl rfl dL_law_375 ?_
  refine v_sld (pc := 376) C hX hbl hbA (by omega) (i := 5 * k + 3) (by omega) dL_law_376 ?_
  refine v_aload_n (pc := 377) C dL_law_377 rfl ?_
  refine v_iload_n (pc := 378) C dL_law_378 rfl ?_
  refine v_iconst (pc := 379) (v := 4) C dL_law_379 (by decide) ?_
  refine v_iaddN (pc := 380) C (5 * k) 4 rfl rfl dL_law_380 ?_
  refine v_sld (pc := 381) C hX hbl hbA (by omega) (i := 5 * k + 4) (by omega) dL_law_381 ?_
  refine v_callV (cells := 73 + 7 * k) (slots := 3555 + 129 * k) (R := room_1) (pc := 382) (st := []) (q0 := 0) (wr := MW G o5 a5 S5) C (kX4_question G o a f ua ub D.2.2.2.2.2.2.2.1 D.2.2.2.2.2.2.2.2.1 RU D.1 D.2.1 D.2.2.1 D.2.2.2.1 D.2.2.2.2.1 D.2.2.2.2.2.1 D.2.2.2.2.2.2.1 D.2.2.2.2.2.2.2.2.2.1 D.2.2.2.2.2.2.2.2.2.2.2.1 D.2.2.2.2.2.2.2.2.2.2.1 D.2.2.2.2.2.2.2.2.2.2.2.2 A hI hC (sc (5 * k + 1)) (sc (5 * k + 2)) (sc (5 * k + 3)) (sc (5 * k + 4))) ykX4_question cvX4_question kw2_48 dL_law_382 rfl rfl rfl rfl rfl (by decide) (Nat.le_of_ble_eq_true rfl) ⟨show 73 + 7 * k + 2 ≤ 600000 by omega, show 3555 + 129 * k + 70 ≤ 7302250 by omega⟩ rfl (Ri_kk (fun r1 u1 h1 => ?_))
  obtain ⟨er1, eA1, hC1⟩ := h1
  subst er1
  refine V.perm (ws' := DWd G o a f ua ub RU u1.1 u1.2 ++ MW G o5 a5 S5) List.perm_append_comm ?_
  refine v_aload_n (pc := 385) C dL_law_385 rfl ?_
  refine v_aload_n (pc := 386) C dL_law_386 rfl ?_
  refine v_iload_n (pc := 387) C dL_law_387 rfl ?_
  refine v_iconst (pc := 388) (v := 1) C dL_law_388 (by decide) ?_
  refine v_iaddN (pc := 389) C (5 * k) 1 rfl rfl dL_law_389 ?_
  refine v_sld (pc := 390) C hX hbl hbA (by omega) (i := 5 * k + 1) (by omega) dL_law_390 ?_
  refine v_aload_n (pc := 391) C dL_law_391 rfl ?_
  refine v_iload_n (pc := 392) C dL_law_392 rfl ?_
  refine v_iconst (pc := 393) (v := 2) C dL_law_393 (by decide) ?_
  refine v_iaddN (pc := 394) C (5 * k) 2 rfl rfl dL_law_394 ?_
  refine v_sld (pc := 395) C hX hbl hbA (by omega) (i := 5 * k + 2) (by omega) dL_law_395 ?_
  refine v_aload_n (pc := 396) C dL_law_396 rfl ?_
  refine v_iload_n (pc := 397) C dL_law_397 rfl ?_
  refine v_iconst (pc := 398) (v := 3) C dL_law_398 (by decide) ?_
  refine v_iaddN (pc := 399) C (5 * k) 3 rfl rfl dL_law_399 ?_
  refine v_sld (pc := 400) C hX hbl hbA (by omega) (i := 5 * k + 3) (by omega) dL_law_400 ?_
  refine v_aload_n (pc := 401) C dL_law_401 rfl ?_
  refine v_iload_n (pc := 402) C dL_law_402 rfl ?_
  refine v_iconst (pc := 403) (v := 4) C dL_law_403 (by decide) ?_
  refine v_iaddN (pc := 404) C (5 * k) 4 rfl rfl dL_law_404 ?_
  refine v_sld (pc := 405) C hX hbl hbA (by omega) (i := 5 * k + 4) (by omega) dL_law_405 ?_
  refine v_callV (cells := 73 + 7 * k + 2) (slots := 3555 + 129 * k + 70) (R := room_1) (pc := 406) (st := [.int ((s_question A (sc (5 * k + 1)) (sc (5 * k + 2)) (sc (5 * k + 3)) (sc (5 * k + 4))).1)]) (q0 := 0) (wr := DWd G o a f ua ub RU u1.1 u1.2) C (kX5_question G o5 a5 S5 A hI hM (sc (5 * k + 1)) (sc (5 * k + 2)) (sc (5 * k + 3)) (sc (5 * k + 4))) ykX5_question cvX5_question kw3_204 dL_law_406 rfl rfl rfl rfl rfl (by decide) (Nat.le_of_ble_eq_true rfl) ⟨show 73 + 7 * k + 2 + 0 ≤ 600000 by omega, show 3555 + 129 * k + 70 + 0 ≤ 7302250 by omega⟩ rfl (Ri_kk (fun r2 u2 h2 => ?_))
  obtain ⟨er2, hM2⟩ := h2
  subst er2
  refine V.perm (ws' := MW G o5 a5 u2 ++ DWd G o a f ua ub RU u1.1 u1.2) List.perm_append_comm ?_
  refine v_icmp_eq (pc := 409) (tgt := 859) C dL_law_409 (by decide) (fun _ => ?_) (fun q => absurd rfl q)
  refine V.wide (k := 73 + 7 * (k + 1)) (n := 3555 + 129 * (k + 1)) (by omega) (by omega) ?_
  exact back u1.1 u1.2 u2 (by rw [eA1]; exact inv_question hI) hC1 (by rw [eA1]; exact hM2)
set_option maxHeartbeats 4000000 in
set_option maxRecDepth 100000 in
theorem lw_c8 (C : OK G X cL_law R_law 4 (some .boolean)) (hL : L ≤ 2560) (hX : va_X b L sc (xs X) (xs X).heap) (hbl : b < (xs X).heap.size) (hbA : ¬ (xA X) b) (hk : 5 * k + 5 ≤ L) (A : AS) (D : DS) (S5 : MS) (hI : AInv A) (hC : CRel A RU ua D) (hM : MRel A S5) (back : ∀ (A : AS) (D : DS) (S5 : MS), AInv A → CRel A RU ua D → MRel A S5 → V G X cL_law 4 room_1 Q (73 + 7 * (k + 1)) (3555 + 129 * (k + 1)) 859 (lvo [(0, .ref b), (1, .ref o), (2, .ref o5), (3, .int (nI (5 * k)))]) [] (MW G o5 a5 S5 ++ DWd G o a f ua ub RU A D)) : V G X cL_law 4 room_1 Q (73 + 7 * k) (3555 + 129 * k) 414 (lvo [(0, .ref b), (1, .ref o), (2, .ref o5), (3, .int (nI (5 * k)))]) [] (MW G o5 a5 S5 ++ DWd G o a f ua ub RU A D) := by
  refine v_aload_n (pc := 414) C dL_law_414 rfl ?_
  refine v_aload_n (pc := 415) C dL_law_415 rfl ?_
  refine v_iload_n (pc := 416) C dL_law_416 rfl ?_
  refine v_iconst (pc := 417) (v := 1) C dL_law_417 (by decide) ?_
  refine v_iaddN (pc := 418) C (5 * k) 1 rfl rfl dL_law_418 ?_
  refine v_sld (pc := 419) C hX hbl hbA (by omega) (i := 5 * k + 1) (by omega) dL_law_419 ?_
  refine v_aload_n (pc := 420) C dL_law_420 rfl ?_
  refine v_iload_n (pc := 421) C dL_law_421 rfl ?_
  refine v_iconst (pc := 422) (v := 2) C dL_law_422 (by decide) ?_
  refine v_iaddN (pc := 423) C (5 * k) 2 rfl rfl dL_law_423 ?_
  refine v_sld (pc := 424) C hX hbl hbA (by omega) (i := 5 * k + 2) (by omega) dL_law_424 ?_
  refine v_callV (cells := 73 + 7 * k) (slots := 3555 + 129 * k) (R := room_1) (pc := 425) (st := []) (q0 := 0) (wr := MW G o5 a5 S5) C (kX4_answer G o a f ua ub D.2.2.2.2.2.2.2.1 D.2.2.2.2.2.2.2.2.1 RU D.1 D.2.1 D.2.2.1 D.2.2.2.1 D.2.2.2.2.1 D.2.2.2.2.2.1 D.2.2.2.2.2.2.1 D.2.2.2.2.2.2.2.2.2.1 D.2.2.2.2.2.2.2.2.2.2.2.1 D.2.2.2.2.2.2.2.2.2.2.1 D.2.2.2.2.2.2.2.2.2.2.2.2 A hI hC (sc (5 * k + 1)) (sc (5 * k + 2))) ykX4_answer cvX4_answer kw2_84 dL_law_425 rfl rfl rfl rfl rfl (by decide) (Nat.le_of_ble_eq_true rfl) ⟨show 73 + 7 * k + 0 ≤ 600000 by omega, show 3555 + 129 * k + 0 ≤ 7302250 by omega⟩ rfl (Ri_kk (fun r1 u1 h1 => ?_))
  obtain ⟨er1, eA1, hC1⟩ := h1
  subst er1
  refine V.perm (ws' := DWd G o a f ua ub RU u1.1 u1.2 ++ MW G o5 a5 S5) List.perm_append_comm ?_
  refine v_aload_n (pc := 428) C dL_law_428 rfl ?_
  refine v_aload_n (pc := 429) C dL_law_429 rfl ?_
  refine v_iload_n (pc := 430) C dL_law_430 rfl ?_
  refine v_iconst (pc := 431) (v := 1) C dL_law_431 (by decide) ?_
  refine v_iaddN (pc := 432) C (5 * k) 1 rfl rfl dL_law_432 ?_
  refine v_sld (pc := 433) C hX hbl hbA (by omega) (i := 5 * k + 1) (by omega) dL_law_433 ?_
  refine v_aload_n (pc := 434) C dL_law_434 rfl ?_
  refine v_iload_n (pc := 435) C dL_law_435 rfl ?_
  refine v_iconst (pc := 436) (v := 2) C dL_law_436 (by decide) ?_
  refine v_iaddN (pc := 437) C (5 * k) 2 rfl rfl dL_law_437 ?_
  refine v_sld (pc := 438) C hX hbl hbA (by omega) (i := 5 * k + 2) (by omega) dL_law_438 ?_
  refine v_callV (cells := 73 + 7 * k + 0) (slots := 3555 + 129 * k + 0) (R := room_1) (pc := 439) (st := [.int (s_answer A (sc (5 * k + 1)) (sc (5 * k + 2)))]) (q0 := 0) (wr := DWd G o a f ua ub RU u1.1 u1.2) C (kX5_answer G o5 a5 S5 A hI hM (sc (5 * k + 1)) (sc (5 * k + 2))) ykX5_answer cvX5_answer kw3_208 dL_law_439 rfl rfl rfl rfl rfl (by decide) (Nat.le_of_ble_eq_true rfl) ⟨show 73 + 7 * k + 0 + 0 ≤ 600000 by omega, show 3555 + 129 * k + 0 + 0 ≤ 7302250 by omega⟩ rfl (Ri_kk (fun r2 u2 h2 => ?_))
  obtain ⟨er2, hM2⟩ := h2
  subst er2
  refine V.perm (ws' := MW G o5 a5 u2 ++ DWd G o a f ua ub RU u1.1 u1.2) List.perm_append_comm ?_
  refine v_icmp_eq (pc := 442) (tgt := 859) C dL_law_442 (by decide) (fun _ => ?_) (fun q => absurd rfl q)
  refine V.wide (k := 73 + 7 * (k + 1)) (n := 3555 + 129 * (k + 1)) (by omega) (by omega) ?_
  exact back u1.1 u1.2 u2 (by rw [eA1]; exact hI) hC1 (by rw [eA1]; exact hM2)
set_option maxHeartbeats 4000000 in
set_option maxRecDepth 100000 in
theorem lw_c9 (C : OK G X cL_law R_law 4 (some .boolean)) (hL : L ≤ 2560) (hX : va_X b L sc (xs X) (xs X).heap) (hbl : b < (xs X).heap.size) (hbA : ¬ (xA X) b) (hk : 5 * k + 5 ≤ L) (A : AS) (D : DS) (S5 : MS) (hI : AInv A) (hC : CRel A RU ua D) (hM : MRel A S5) (back : ∀ (A : AS) (D : DS) (S5 : MS), AInv A → CRel A RU ua D → MRel A S5 → V G X cL_law 4 room_1 Q (73 + 7 * (k + 1)) (3555 + 129 * (k + 1)) 859 (lvo [(0, .ref b), (1, .ref o), (2, .ref o5), (3, .int (nI (5 * k)))]) [] (MW G o5 a5 S5 ++ DWd G o a f ua ub RU A D)) : V G X cL_law 4 room_1 Q (73 + 7 * k) (3555 + 129 * k) 447 (lvo [(0, .ref b), (1, .ref o), (2, .ref o5), (3, .int (nI (5 * k)))]) [] (MW G o5 a5 S5 ++ DWd G o a f ua ub RU A D) := by
  refine v_aload_n (pc := 447) C dL_law_447 rfl ?_
  refine v_aload_n (pc := 448) C dL_law_448 rfl ?_
  refine v_iload_n (pc := 449) C dL_law_449 rfl ?_
  refine v_iconst (pc := 450) (v := 1) C dL_law_450 (by decide) ?_
  refine v_iaddN (pc := 451) C (5 * k) 1 rfl rfl dL_law_451 ?_
  refine v_sld (pc := 452) C hX hbl hbA (by omega) (i := 5 * k + 1) (by omega) dL_law_452 ?_
  refine v_aload_n (pc := 453) C dL_law_453 rfl ?_
  refine v_iload_n (pc := 454) C dL_law_454 rfl ?_
  refine v_iconst (pc := 455) (v := 2) C dL_law_455 (by decide) ?_
  refine v_iaddN (pc := 456) C (5 * k) 2 rfl rfl dL_law_456 ?_
  refine v_sld (pc := 457) C hX hbl hbA (by omega) (i := 5 * k + 2) (by omega) dL_law_457 ?_
  refine v_callV (cells := 73 + 7 * k) (slots := 3555 + 129 * k) (R := room_1) (pc := 458) (st := []) (q0 := 0) (wr := MW G o5 a5 S5) C (kX4_choices G o a f ua ub D.2.2.2.2.2.2.2.1 D.2.2.2.2.2.2.2.2.1 RU D.1 D.2.1 D.2.2.1 D.2.2.2.1 D.2.2.2.2.1 D.2.2.2.2.2.1 D.2.2.2.2.2.2.1 D.2.2.2.2.2.2.2.2.2.1 D.2.2.2.2.2.2.2.2.2.2.2.1 D.2.2.2.2.2.2.2.2.2.2.1 D.2.2.2.2.2.2.2.2.2.2.2.2 A hI hC (sc (5 * k + 1)) (sc (5 * k + 2))) ykX4_choices cvX4_choices kw2_112 dL_law_458 rfl rfl rfl rfl rfl (by decide) (Nat.le_of_ble_eq_true rfl) ⟨show 73 + 7 * k + 0 ≤ 600000 by omega, show 3555 + 129 * k + 0 ≤ 7302250 by omega⟩ rfl (Ri_kk (fun r1 u1 h1 => ?_))
  obtain ⟨er1, eA1, hC1⟩ := h1
  subst er1
  refine V.perm (ws' := DWd G o a f ua ub RU u1.1 u1.2 ++ MW G o5 a5 S5) List.perm_append_comm ?_
  refine v_aload_n (pc := 461) C dL_law_461 rfl ?_
  refine v_aload_n (pc := 462) C dL_law_462 rfl ?_
  refine v_iload_n (pc := 463) C dL_law_463 rfl ?_
  refine v_iconst (pc := 464) (v := 1) C dL_law_464 (by decide) ?_
  refine v_iaddN (pc := 465) C (5 * k) 1 rfl rfl dL_law_465 ?_
  refine v_sld (pc := 466) C hX hbl hbA (by omega) (i := 5 * k + 1) (by omega) dL_law_466 ?_
  refine v_aload_n (pc := 467) C dL_law_467 rfl ?_
  refine v_iload_n (pc := 468) C dL_law_468 rfl ?_
  refine v_iconst (pc := 469) (v := 2) C dL_law_469 (by decide) ?_
  refine v_iaddN (pc := 470) C (5 * k) 2 rfl rfl dL_law_470 ?_
  refine v_sld (pc := 471) C hX hbl hbA (by omega) (i := 5 * k + 2) (by omega) dL_law_471 ?_
  refine v_callV (cells := 73 + 7 * k + 0) (slots := 3555 + 129 * k + 0) (R := room_1) (pc := 472) (st := [.int ((s_choices A (sc (5 * k + 1)) (sc (5 * k + 2))).1)]) (q0 := 0) (wr := DWd G o a f ua ub RU u1.1 u1.2) C (kX5_choices G o5 a5 S5 A hI hM (sc (5 * k + 1)) (sc (5 * k + 2))) ykX5_choices cvX5_choices kw3_220 dL_law_472 rfl rfl rfl rfl rfl (by decide) (Nat.le_of_ble_eq_true rfl) ⟨show 73 + 7 * k + 0 + 0 ≤ 600000 by omega, show 3555 + 129 * k + 0 + 0 ≤ 7302250 by omega⟩ rfl (Ri_kk (fun r2 u2 h2 => ?_))
  obtain ⟨er2, hM2⟩ := h2
  subst er2
  refine V.perm (ws' := MW G o5 a5 u2 ++ DWd G o a f ua ub RU u1.1 u1.2) List.perm_append_comm ?_
  refine v_icmp_eq (pc := 475) (tgt := 859) C dL_law_475 (by decide) (fun _ => ?_) (fun q => absurd rfl q)
  refine V.wide (k := 73 + 7 * (k + 1)) (n := 3555 + 129 * (k + 1)) (by omega) (by omega) ?_
  exact back u1.1 u1.2 u2 (by rw [eA1]; exact inv_choices hI) hC1 (by rw [eA1]; exact hM2)
set_option maxHeartbeats 4000000 in
set_option maxRecDepth 100000 in
theorem lw_c10 (C : OK G X cL_law R_law 4 (some .boolean)) (hL : L ≤ 2560) (hX : va_X b L sc (xs X) (xs X).heap) (hbl : b < (xs X).heap.size) (hbA : ¬ (xA X) b) (hk : 5 * k + 5 ≤ L) (A : AS) (D : DS) (S5 : MS) (hI : AInv A) (hC : CRel A RU ua D) (hM : MRel A S5) (back : ∀ (A : AS) (D : DS) (S5 : MS), AInv A → CRel A RU ua D → MRel A S5 → V G X cL_law 4 room_1 Q (73 + 7 * (k + 1)) (3555 + 129 * (k + 1)) 859 (lvo [(0, .ref b), (1, .ref o), (2, .ref o5), (3, .int (nI (5 * k)))]) [] (MW G o5 a5 S5 ++ DWd G o a f ua ub RU A D)) : V G X cL_law 4 room_1 Q (73 + 7 * k) (3555 + 129 * k) 480 (lvo [(0, .ref b), (1, .ref o), (2, .ref o5), (3, .int (nI (5 * k)))]) [] (MW G o5 a5 S5 ++ DWd G o a f ua ub RU A D) := by
  refine v_aload_n (pc := 480) C dL_law_480 rfl ?_
  refine v_aload_n (pc := 481) C dL_law_481 rfl ?_
  refine v_iload_n (pc := 482) C dL_law_482 rfl ?_
  refine v_iconst (pc := 483) (v := 1) C dL_law_483 (by decide) ?_
  refine v_iaddN (pc := 484) C (5 * k) 1 rfl rfl dL_law_484 ?_
  refine v_sld (pc := 485) C hX hbl hbA (by omega) (i := 5 * k + 1) (by omega) dL_law_485 ?_
  refine v_aload_n (pc := 486) C dL_law_486 rfl ?_
  refine v_iload_n (pc := 487) C dL_law_487 rfl ?_
  refine v_iconst (pc := 488) (v := 2) C dL_law_488 (by decide) ?_
  refine v_iaddN (pc := 489) C (5 * k) 2 rfl rfl dL_law_489 ?_
  refine v_sld (pc := 490) C hX hbl hbA (by omega) (i := 5 * k + 2) (by omega) dL_law_490 ?_
  refine v_callV (cells := 73 + 7 * k) (slots := 3555 + 129 * k) (R := room_1) (pc := 491) (st := []) (q0 := 0) (wr := MW G o5 a5 S5) C (kX4_choice G o a f ua ub D.2.2.2.2.2.2.2.1 D.2.2.2.2.2.2.2.2.1 RU D.1 D.2.1 D.2.2.1 D.2.2.2.1 D.2.2.2.2.1 D.2.2.2.2.2.1 D.2.2.2.2.2.2.1 D.2.2.2.2.2.2.2.2.2.1 D.2.2.2.2.2.2.2.2.2.2.2.1 D.2.2.2.2.2.2.2.2.2.2.1 D.2.2.2.2.2.2.2.2.2.2.2.2 A hI hC (sc (5 * k + 1)) (sc (5 * k + 2))) ykX4_choice cvX4_choice kw2_127 dL_law_491 rfl rfl rfl rfl rfl (by decide) (Nat.le_of_ble_eq_true rfl) ⟨show 73 + 7 * k + 0 ≤ 600000 by omega, show 3555 + 129 * k + 0 ≤ 7302250 by omega⟩ rfl (Ri_kk (fun r1 u1 h1 => ?_))
  obtain ⟨er1, eA1, hC1⟩ := h1
  subst er1
  refine V.perm (ws' := DWd G o a f ua ub RU u1.1 u1.2 ++ MW G o5 a5 S5) List.perm_append_comm ?_
  refine v_aload_n (pc := 494) C dL_law_494 rfl ?_
  refine v_aload_n (pc := 495) C dL_law_495 rfl ?_
  refine v_iload_n (pc := 496) C dL_law_496 rfl ?_
  refine v_iconst (pc := 497) (v := 1) C dL_law_497 (by decide) ?_
  refine v_iaddN (pc := 498) C (5 * k) 1 rfl rfl dL_law_498 ?_
  refine v_sld (pc := 499) C hX hbl hbA (by omega) (i := 5 * k + 1) (by omega) dL_law_499 ?_
  refine v_aload_n (pc := 500) C dL_law_500 rfl ?_
  refine v_iload_n (pc := 501) C dL_law_501 rfl ?_
  refine v_iconst (pc := 502) (v := 2) C dL_law_502 (by decide) ?_
  refine v_iaddN (pc := 503) C (5 * k) 2 rfl rfl dL_law_503 ?_
  refine v_sld (pc := 504) C hX hbl hbA (by omega) (i := 5 * k + 2) (by omega) dL_law_504 ?_
  refine v_callV (cells := 73 + 7 * k + 0) (slots := 3555 + 129 * k + 0) (R := room_1) (pc := 505) (st := [.int (s_choice A (sc (5 * k + 1)) (sc (5 * k + 2)))]) (q0 := 0) (wr := DWd G o a f ua ub RU u1.1 u1.2) C (kX5_choice G o5 a5 S5 A hI hM (sc (5 * k + 1)) (sc (5 * k + 2))) ykX5_choice cvX5_choice kw3_224 dL_law_505 rfl rfl rfl rfl rfl (by decide) (Nat.le_of_ble_eq_true rfl) ⟨show 73 + 7 * k + 0 + 0 ≤ 600000 by omega, show 3555 + 129 * k + 0 + 0 ≤ 7302250 by omega⟩ rfl (Ri_kk (fun r2 u2 h2 => ?_))
  obtain ⟨er2, hM2⟩ := h2
  subst er2
  refine V.perm (ws' := MW G o5 a5 u2 ++ DWd G o a f ua ub RU u1.1 u1.2) List.perm_append_comm ?_
  refine v_icmp_eq (pc := 508) (tgt := 859) C dL_law_508 (by decide) (fun _ => ?_) (fun q => absurd rfl q)
  refine V.wide (k := 73 + 7 * (k + 1)) (n := 3555 + 129 * (k + 1)) (by omega) (by omega) ?_
  exact back u1.1 u1.2 u2 (by rw [eA1]; exact hI) hC1 (by rw [eA1]; exact hM2)
set_option maxHeartbeats 4000000 in
set_option maxRecDepth 100000 in
theorem lw_c11 (C : OK G X cL_law R_law 4 (some .boolean)) (hL : L ≤ 2560) (hX : va_X b L sc (xs X) (xs X).heap) (hbl : b < (xs X).heap.size) (hbA : ¬ (xA X) b) (hk : 5 * k + 5 ≤ L) (A : AS) (D : DS) (S5 : MS) (hI : AInv A) (hC : CRel A RU ua D) (hM : MRel A S5) (back : ∀ (A : AS) (D : DS) (S5 : MS), AInv A → CRel A RU ua D → MRel A S5 → V G X cL_law 4 room_1 Q (73 + 7 * (k + 1)) (3555 + 129 * (k + 1)) 859 (lvo [(0, .ref b), (1, .ref o), (2, .ref o5), (3, .int (nI (5 * k)))]) [] (MW G o5 a5 S5 ++ DWd G o a f ua ub RU A D)) : V G X cL_law 4 room_1 Q (73 + 7 * k) (3555 + 129 * k) 513 (lvo [(0, .ref b), (1, .ref o), (2, .ref o5), (3, .int (nI (5 * k)))]) [] (MW G o5 a5 S5 ++ DWd G o a f ua ub RU A D) := by
  refine v_aload_n (pc := 513) C dL_law_513 rfl ?_
  refine v_aload_n (pc := 514) C dL_law_514 rfl ?_
  refine v_iload_n (pc := 515) C dL_law_515 rfl ?_
  refine v_iconst (pc := 516) (v := 1) C dL_law_516 (by decide) ?_
  refine v_iaddN (pc := 517) C (5 * k) 1 rfl rfl dL_law_517 ?_
  refine v_sld (pc := 518) C hX hbl hbA (by omega) (i := 5 * k + 1) (by omega) dL_law_518 ?_
  refine v_aload_n (pc := 519) C dL_law_519 rfl ?_
  refine v_iload_n (pc := 520) C dL_law_520 rfl ?_
  refine v_iconst (pc := 521) (v := 2) C dL_law_521 (by decide) ?_
  refine v_iaddN (pc := 522) C (5 * k) 2 rfl rfl dL_law_522 ?_
  refine v_sld (pc := 523) C hX hbl hbA (by omega) (i := 5 * k + 2) (by omega) dL_law_523 ?_
  refine v_callV (cells := 73 + 7 * k) (slots := 3555 + 129 * k) (R := room_1) (pc := 524) (st := []) (q0 := 0) (wr := MW G o5 a5 S5) C (kX4_gap G o a f ua ub D.2.2.2.2.2.2.2.1 D.2.2.2.2.2.2.2.2.1 RU D.1 D.2.1 D.2.2.1 D.2.2.2.1 D.2.2.2.2.1 D.2.2.2.2.2.1 D.2.2.2.2.2.2.1 D.2.2.2.2.2.2.2.2.2.1 D.2.2.2.2.2.2.2.2.2.2.2.1 D.2.2.2.2.2.2.2.2.2.2.1 D.2.2.2.2.2.2.2.2.2.2.2.2 A hI hC (sc (5 * k + 1)) (sc (5 * k + 2))) ykX4_gap cvX4_gap kw2_131 dL_law_524 rfl rfl rfl rfl rfl (by decide) (Nat.le_of_ble_eq_true rfl) ⟨show 73 + 7 * k + 0 ≤ 600000 by omega, show 3555 + 129 * k + 0 ≤ 7302250 by omega⟩ rfl (Ri_kk (fun r1 u1 h1 => ?_))
  obtain ⟨er1, eA1, hC1⟩ := h1
  subst er1
  refine V.perm (ws' := DWd G o a f ua ub RU u1.1 u1.2 ++ MW G o5 a5 S5) List.perm_append_comm ?_
  refine v_aload_n (pc := 527) C dL_law_527 rfl ?_
  refine v_aload_n (pc := 528) C dL_law_528 rfl ?_
  refine v_iload_n (pc := 529) C dL_law_529 rfl ?_
  refine v_iconst (pc := 530) (v := 1) C dL_law_530 (by decide) ?_
  refine v_iaddN (pc := 531) C (5 * k) 1 rfl rfl dL_law_531 ?_
  refine v_sld (pc := 532) C hX hbl hbA (by omega) (i := 5 * k + 1) (by omega) dL_law_532 ?_
  refine v_aload_n (pc := 533) C dL_law_533 rfl ?_
  refine v_iload_n (pc := 534) C dL_law_534 rfl ?_
  refine v_iconst (pc := 535) (v := 2) C dL_law_535 (by decide) ?_
  refine v_iaddN (pc := 536) C (5 * k) 2 rfl rfl dL_law_536 ?_
  refine v_sld (pc := 537) C hX hbl hbA (by omega) (i := 5 * k + 2) (by omega) dL_law_537 ?_
  refine v_callV (cells := 73 + 7 * k + 0) (slots := 3555 + 129 * k + 0) (R := room_1) (pc := 538) (st := [.int ((s_gap A (sc (5 * k + 1)) (sc (5 * k + 2))).1)]) (q0 := 0) (wr := DWd G o a f ua ub RU u1.1 u1.2) C (kX5_gap G o5 a5 S5 A hI hM (sc (5 * k + 1)) (sc (5 * k + 2))) ykX5_gap cvX5_gap kw3_228 dL_law_538 rfl rfl rfl rfl rfl (by decide) (Nat.le_of_ble_eq_true rfl) ⟨show 73 + 7 * k + 0 + 0 ≤ 600000 by omega, show 3555 + 129 * k + 0 + 0 ≤ 7302250 by omega⟩ rfl (Ri_kk (fun r2 u2 h2 => ?_))
  obtain ⟨er2, hM2⟩ := h2
  subst er2
  refine V.perm (ws' := MW G o5 a5 u2 ++ DWd G o a f ua ub RU u1.1 u1.2) List.perm_append_comm ?_
  refine v_icmp_eq (pc := 541) (tgt := 859) C dL_law_541 (by decide) (fun _ => ?_) (fun q => absurd rfl q)
  refine V.wide (k := 73 + 7 * (k + 1)) (n := 3555 + 129 * (k + 1)) (by omega) (by omega) ?_
  exact back u1.1 u1.2 u2 (by rw [eA1]; exact inv_gap hI) hC1 (by rw [eA1]; exact hM2)
set_option maxHeartbeats 4000000 in
set_option maxRecDepth 100000 in
theorem lw_c12 (C : OK G X cL_law R_law 4 (some .boolean)) (hL : L ≤ 2560) (hX : va_X b L sc (xs X) (xs X).heap) (hbl : b < (xs X).heap.size) (hbA : ¬ (xA X) b) (hk : 5 * k + 5 ≤ L) (A : AS) (D : DS) (S5 : MS) (hI : AInv A) (hC : CRel A RU ua D) (hM : MRel A S5) (back : ∀ (A : AS) (D : DS) (S5 : MS), AInv A → CRel A RU ua D → MRel A S5 → V G X cL_law 4 room_1 Q (73 + 7 * (k + 1)) (3555 + 129 * (k + 1)) 859 (lvo [(0, .ref b), (1, .ref o), (2, .ref o5), (3, .int (nI (5 * k)))]) [] (MW G o5 a5 S5 ++ DWd G o a f ua ub RU A D)) : V G X cL_law 4 room_1 Q (73 + 7 * k) (3555 + 129 * k) 546 (lvo [(0, .ref b), (1, .ref o), (2, .ref o5), (3, .int (nI (5 * k)))]) [] (MW G o5 a5 S5 ++ DWd G o a f ua ub RU A D) := by
  refine v_aload_n (pc := 546) C dL_law_546 rfl ?_
  refine v_aload_n (pc := 547) C dL_law_547 rfl ?_
  refine v_iload_n (pc := 548) C dL_law_548 rfl ?_
  refine v_iconst (pc := 549) (v := 1) C dL_law_549 (by decide) ?_
  refine v_iaddN (pc := 550) C (5 * k) 1 rfl rfl dL_law_550 ?_
  refine v_sld (pc := 551) C hX hbl hbA (by omega) (i := 5 * k + 1) (by omega) dL_law_551 ?_
  refine v_callV (cells := 73 + 7 * k) (slots := 3555 + 129 * k) (R := room_1) (pc := 552) (st := []) (q0 := 0) (wr := MW G o5 a5 S5) C (kX4_filling G o a f ua ub D.2.2.2.2.2.2.2.1 D.2.2.2.2.2.2.2.2.1 RU D.1 D.2.1 D.2.2.1 D.2.2.2.1 D.2.2.2.2.1 D.2.2.2.2.2.1 D.2.2.2.2.2.2.1 D.2.2.2.2.2.2.2.2.2.1 D.2.2.2.2.2.2.2.2.2.2.2.1 D.2.2.2.2.2.2.2.2.2.2.1 D.2.2.2.2.2.2.2.2.2.2.2.2 A hI hC (sc (5 * k + 1))) ykX4_filling cvX4_filling kw2_160 dL_law_552 rfl rfl rfl rfl rfl (by decide) (Nat.le_of_ble_eq_true rfl) ⟨show 73 + 7 * k + 0 ≤ 600000 by omega, show 3555 + 129 * k + 0 ≤ 7302250 by omega⟩ rfl (Ri_kk (fun r1 u1 h1 => ?_))
  obtain ⟨er1, eA1, hC1⟩ := h1
  subst er1
  refine V.perm (ws' := DWd G o a f ua ub RU u1.1 u1.2 ++ MW G o5 a5 S5) List.perm_append_comm ?_
  refine v_aload_n (pc := 555) C dL_law_555 rfl ?_
  refine v_aload_n (pc := 556) C dL_law_556 rfl ?_
  refine v_iload_n (pc := 557) C dL_law_557 rfl ?_
  refine v_iconst (pc := 558) (v := 1) C dL_law_558 (by decide) ?_
  refine v_iaddN (pc := 559) C (5 * k) 1 rfl rfl dL_law_559 ?_
  refine v_sld (pc := 560) C hX hbl hbA (by omega) (i := 5 * k + 1) (by omega) dL_law_560 ?_
  refine v_callV (cells := 73 + 7 * k + 0) (slots := 3555 + 129 * k + 0) (R := room_1) (pc := 561) (st := [.int (s_filling A (sc (5 * k + 1)))]) (q0 := 0) (wr := DWd G o a f ua ub RU u1.1 u1.2) C (kX5_filling G o5 a5 S5 A hI hM (sc (5 * k + 1))) ykX5_filling cvX5_filling kw3_232 dL_law_561 rfl rfl rfl rfl rfl (by decide) (Nat.le_of_ble_eq_true rfl) ⟨show 73 + 7 * k + 0 + 0 ≤ 600000 by omega, show 3555 + 129 * k + 0 + 0 ≤ 7302250 by omega⟩ rfl (Ri_kk (fun r2 u2 h2 => ?_))
  obtain ⟨er2, hM2⟩ := h2
  subst er2
  refine V.perm (ws' := MW G o5 a5 u2 ++ DWd G o a f ua ub RU u1.1 u1.2) List.perm_append_comm ?_
  refine v_icmp_eq (pc := 564) (tgt := 859) C dL_law_564 (by decide) (fun _ => ?_) (fun q => absurd rfl q)
  refine V.wide (k := 73 + 7 * (k + 1)) (n := 3555 + 129 * (k + 1)) (by omega) (by omega) ?_
  exact back u1.1 u1.2 u2 (by rw [eA1]; exact hI) hC1 (by rw [eA1]; exact hM2)
set_option maxHeartbeats 4000000 in
set_option maxRecDepth 100000 in
theorem lw_c13 (C : OK G X cL_law R_law 4 (some .boolean)) (hL : L ≤ 2560) (hX : va_X b L sc (xs X) (xs X).heap) (hbl : b < (xs X).heap.size) (hbA : ¬ (xA X) b) (hk : 5 * k + 5 ≤ L) (A : AS) (D : DS) (S5 : MS) (hI : AInv A) (hC : CRel A RU ua D) (hM : MRel A S5) (back : ∀ (A : AS) (D : DS) (S5 : MS), AInv A → CRel A RU ua D → MRel A S5 → V G X cL_law 4 room_1 Q (73 + 7 * (k + 1)) (3555 + 129 * (k + 1)) 859 (lvo [(0, .ref b), (1, .ref o), (2, .ref o5), (3, .int (nI (5 * k)))]) [] (MW G o5 a5 S5 ++ DWd G o a f ua ub RU A D)) : V G X cL_law 4 room_1 Q (73 + 7 * k) (3555 + 129 * k) 569 (lvo [(0, .ref b), (1, .ref o), (2, .ref o5), (3, .int (nI (5 * k)))]) [] (MW G o5 a5 S5 ++ DWd G o a f ua ub RU A D) := by
  refine v_aload_n (pc := 569) C dL_law_569 rfl ?_
  refine v_aload_n (pc := 570) C dL_law_570 rfl ?_
  refine v_iload_n (pc := 571) C dL_law_571 rfl ?_
  refine v_iconst (pc := 572) (v := 1) C dL_law_572 (by decide) ?_
  refine v_iaddN (pc := 573) C (5 * k) 1 rfl rfl dL_law_573 ?_
  refine v_sld (pc := 574) C hX hbl hbA (by omega) (i := 5 * k + 1) (by omega) dL_law_574 ?_
  refine v_aload_n (pc := 575) C dL_law_575 rfl ?_
  refine v_iload_n (pc := 576) C dL_law_576 rfl ?_
  refine v_iconst (pc := 577) (v := 2) C dL_law_577 (by decide) ?_
  refine v_iaddN (pc := 578) C (5 * k) 2 rfl rfl dL_law_578 ?_
  refine v_sld (pc := 579) C hX hbl hbA (by omega) (i := 5 * k + 2) (by omega) dL_law_579 ?_
  refine v_callV (cells := 73 + 7 * k) (slots := 3555 + 129 * k) (R := room_1) (pc := 580) (st := []) (q0 := 0) (wr := MW G o5 a5 S5) C (kX4_why G o a f ua ub D.2.2.2.2.2.2.2.1 D.2.2.2.2.2.2.2.2.1 RU D.1 D.2.1 D.2.2.1 D.2.2.2.1 D.2.2.2.2.1 D.2.2.2.2.2.1 D.2.2.2.2.2.2.1 D.2.2.2.2.2.2.2.2.2.1 D.2.2.2.2.2.2.2.2.2.2.2.1 D.2.2.2.2.2.2.2.2.2.2.1 D.2.2.2.2.2.2.2.2.2.2.2.2 A hI hC (sc (5 * k + 1)) (sc (5 * k + 2))) ykX4_why cvX4_why kw2_167 dL_law_580 rfl rfl rfl rfl rfl (by decide) (Nat.le_of_ble_eq_true rfl) ⟨show 73 + 7 * k + 0 ≤ 600000 by omega, show 3555 + 129 * k + 0 ≤ 7302250 by omega⟩ rfl (Ri_kk (fun r1 u1 h1 => ?_))
  obtain ⟨er1, eA1, hC1⟩ := h1
  subst er1
  refine V.perm (ws' := DWd G o a f ua ub RU u1.1 u1.2 ++ MW G o5 a5 S5) List.perm_append_comm ?_
  refine v_aload_n (pc := 583) C dL_law_583 rfl ?_
  refine v_aload_n (pc := 584) C dL_law_584 rfl ?_
  refine v_iload_n (pc := 585) C dL_law_585 rfl ?_
  refine v_iconst (pc := 586) (v := 1) C dL_law_586 (by decide) ?_
  refine v_iaddN (pc := 587) C (5 * k) 1 rfl rfl dL_law_587 ?_
  refine v_sld (pc := 588) C hX hbl hbA (by omega) (i := 5 * k + 1) (by omega) dL_law_588 ?_
  refine v_aload_n (pc := 589) C dL_law_589 rfl ?_
  refine v_iload_n (pc := 590) C dL_law_590 rfl ?_
  refine v_iconst (pc := 591) (v := 2) C dL_law_591 (by decide) ?_
  refine v_iaddN (pc := 592) C (5 * k) 2 rfl rfl dL_law_592 ?_
  refine v_sld (pc := 593) C hX hbl hbA (by omega) (i := 5 * k + 2) (by omega) dL_law_593 ?_
  refine v_callV (cells := 73 + 7 * k + 0) (slots := 3555 + 129 * k + 0) (R := room_1) (pc := 594) (st := [.int (s_why A (sc (5 * k + 1)) (sc (5 * k + 2)))]) (q0 := 0) (wr := DWd G o a f ua ub RU u1.1 u1.2) C (kX5_why G o5 a5 S5 A hI hM (sc (5 * k + 1)) (sc (5 * k + 2))) ykX5_why cvX5_why kw3_236 dL_law_594 rfl rfl rfl rfl rfl (by decide) (Nat.le_of_ble_eq_true rfl) ⟨show 73 + 7 * k + 0 + 0 ≤ 600000 by omega, show 3555 + 129 * k + 0 + 0 ≤ 7302250 by omega⟩ rfl (Ri_kk (fun r2 u2 h2 => ?_))
  obtain ⟨er2, hM2⟩ := h2
  subst er2
  refine V.perm (ws' := MW G o5 a5 u2 ++ DWd G o a f ua ub RU u1.1 u1.2) List.perm_append_comm ?_
  refine v_icmp_eq (pc := 597) (tgt := 859) C dL_law_597 (by decide) (fun _ => ?_) (fun q => absurd rfl q)
  refine V.wide (k := 73 + 7 * (k + 1)) (n := 3555 + 129 * (k + 1)) (by omega) (by omega) ?_
  exact back u1.1 u1.2 u2 (by rw [eA1]; exact hI) hC1 (by rw [eA1]; exact hM2)
set_option maxHeartbeats 4000000 in
set_option maxRecDepth 100000 in
theorem lw_c14 (C : OK G X cL_law R_law 4 (some .boolean)) (hL : L ≤ 2560) (hX : va_X b L sc (xs X) (xs X).heap) (hbl : b < (xs X).heap.size) (hbA : ¬ (xA X) b) (hk : 5 * k + 5 ≤ L) (A : AS) (D : DS) (S5 : MS) (hI : AInv A) (hC : CRel A RU ua D) (hM : MRel A S5) (back : ∀ (A : AS) (D : DS) (S5 : MS), AInv A → CRel A RU ua D → MRel A S5 → V G X cL_law 4 room_1 Q (73 + 7 * (k + 1)) (3555 + 129 * (k + 1)) 859 (lvo [(0, .ref b), (1, .ref o), (2, .ref o5), (3, .int (nI (5 * k)))]) [] (MW G o5 a5 S5 ++ DWd G o a f ua ub RU A D)) : V G X cL_law 4 room_1 Q (73 + 7 * k) (3555 + 129 * k) 602 (lvo [(0, .ref b), (1, .ref o), (2, .ref o5), (3, .int (nI (5 * k)))]) [] (MW G o5 a5 S5 ++ DWd G o a f ua ub RU A D) := by
  refine v_aload_n (pc := 602) C dL_law_602 rfl ?_
  refine v_aload_n (pc := 603) C dL_law_603 rfl ?_
  refine v_iload_n (pc := 604) C dL_law_604 rfl ?_
  refine v_iconst (pc := 605) (v := 1) C dL_law_605 (by decide) ?_
  refine v_iaddN (pc := 606) C (5 * k) 1 rfl rfl dL_law_606 ?_
  refine v_sld (pc := 607) C hX hbl hbA (by omega) (i := 5 * k + 1) (by omega) dL_law_607 ?_
  refine v_aload_n (pc := 608) C dL_law_608 rfl ?_
  refine v_iload_n (pc := 609) C dL_law_609 rfl ?_
  refine v_iconst (pc := 610) (v := 2) C dL_law_610 (by decide) ?_
  refine v_iaddN (pc := 611) C (5 * k) 2 rfl rfl dL_law_611 ?_
  refine v_sld (pc := 612) C hX hbl hbA (by omega) (i := 5 * k + 2) (by omega) dL_law_612 ?_
  refine v_callV (cells := 73 + 7 * k) (slots := 3555 + 129 * k) (R := room_1) (pc := 613) (st := []) (q0 := 0) (wr := MW G o5 a5 S5) C (kX4_same G o a f ua ub D.2.2.2.2.2.2.2.1 D.2.2.2.2.2.2.2.2.1 RU D.1 D.2.1 D.2.2.1 D.2.2.2.1 D.2.2.2.2.1 D.2.2.2.2.2.1 D.2.2.2.2.2.2.1 D.2.2.2.2.2.2.2.2.2.1 D.2.2.2.2.2.2.2.2.2.2.2.1 D.2.2.2.2.2.2.2.2.2.2.1 D.2.2.2.2.2.2.2.2.2.2.2.2 A hI hC (sc (5 * k + 1)) (sc (5 * k + 2))) ykX4_same cvX4_same kw2_171 dL_law_613 rfl rfl rfl rfl rfl (by decide) (Nat.le_of_ble_eq_true rfl) ⟨show 73 + 7 * k + 0 ≤ 600000 by omega, show 3555 + 129 * k + 0 ≤ 7302250 by omega⟩ rfl (Ri_kk (fun r1 u1 h1 => ?_))
  obtain ⟨er1, eA1, hC1⟩ := h1
  subst er1
  refine V.perm (ws' := DWd G o a f ua ub RU u1.1 u1.2 ++ MW G o5 a5 S5) List.perm_append_comm ?_
  refine v_aload_n (pc := 616) C dL_law_616 rfl ?_
  refine v_aload_n (pc := 617) C dL_law_617 rfl ?_
  refine v_iload_n (pc := 618) C dL_law_618 rfl ?_
  refine v_iconst (pc := 619) (v := 1) C dL_law_619 (by decide) ?_
  refine v_iaddN (pc := 620) C (5 * k) 1 rfl rfl dL_law_620 ?_
  refine v_sld (pc := 621) C hX hbl hbA (by omega) (i := 5 * k + 1) (by omega) dL_law_621 ?_
  refine v_aload_n (pc := 622) C dL_law_622 rfl ?_
  refine v_iload_n (pc := 623) C dL_law_623 rfl ?_
  refine v_iconst (pc := 624) (v := 2) C dL_law_624 (by decide) ?_
  refine v_iaddN (pc := 625) C (5 * k) 2 rfl rfl dL_law_625 ?_
  refine v_sld (pc := 626) C hX hbl hbA (by omega) (i := 5 * k + 2) (by omega) dL_law_626 ?_
  refine v_callV (cells := 73 + 7 * k + 0) (slots := 3555 + 129 * k + 0) (R := room_1) (pc := 627) (st := [.int (s_same A (sc (5 * k + 1)) (sc (5 * k + 2)))]) (q0 := 0) (wr := DWd G o a f ua ub RU u1.1 u1.2) C (kX5_same G o5 a5 S5 A hI hM (sc (5 * k + 1)) (sc (5 * k + 2))) ykX5_same cvX5_same kw4_0 dL_law_627 rfl rfl rfl rfl rfl (by decide) (Nat.le_of_ble_eq_true rfl) ⟨show 73 + 7 * k + 0 + 0 ≤ 600000 by omega, show 3555 + 129 * k + 0 + 0 ≤ 7302250 by omega⟩ rfl (Ri_kk (fun r2 u2 h2 => ?_))
  obtain ⟨er2, hM2⟩ := h2
  subst er2
  refine V.perm (ws' := MW G o5 a5 u2 ++ DWd G o a f ua ub RU u1.1 u1.2) List.perm_append_comm ?_
  refine v_icmp_eq (pc := 630) (tgt := 859) C dL_law_630 (by decide) (fun _ => ?_) (fun q => absurd rfl q)
  refine V.wide (k := 73 + 7 * (k + 1)) (n := 3555 + 129 * (k + 1)) (by omega) (by omega) ?_
  exact back u1.1 u1.2 u2 (by rw [eA1]; exact hI) hC1 (by rw [eA1]; exact hM2)
set_option maxHeartbeats 4000000 in
set_option maxRecDepth 100000 in
theorem lw_c15 (C : OK G X cL_law R_law 4 (some .boolean)) (hL : L ≤ 2560) (hX : va_X b L sc (xs X) (xs X).heap) (hbl : b < (xs X).heap.size) (hbA : ¬ (xA X) b) (hk : 5 * k + 5 ≤ L) (A : AS) (D : DS) (S5 : MS) (hI : AInv A) (hC : CRel A RU ua D) (hM : MRel A S5) (back : ∀ (A : AS) (D : DS) (S5 : MS), AInv A → CRel A RU ua D → MRel A S5 → V G X cL_law 4 room_1 Q (73 + 7 * (k + 1)) (3555 + 129 * (k + 1)) 859 (lvo [(0, .ref b), (1, .ref o), (2, .ref o5), (3, .int (nI (5 * k)))]) [] (MW G o5 a5 S5 ++ DWd G o a f ua ub RU A D)) : V G X cL_law 4 room_1 Q (73 + 7 * k) (3555 + 129 * k) 635 (lvo [(0, .ref b), (1, .ref o), (2, .ref o5), (3, .int (nI (5 * k)))]) [] (MW G o5 a5 S5 ++ DWd G o a f ua ub RU A D) := by
  refine v_aload_n (pc := 635) C dL_law_635 rfl ?_
  refine v_aload_n (pc := 636) C dL_law_636 rfl ?_
  refine v_iload_n (pc := 637) C dL_law_637 rfl ?_
  refine v_iconst (pc := 638) (v := 1) C dL_law_638 (by decide) ?_
  refine v_iaddN (pc := 639) C (5 * k) 1 rfl rfl dL_law_639 ?_
  refine v_sld (pc := 640) C hX hbl hbA (by omega) (i := 5 * k + 1) (by omega) dL_law_640 ?_
  refine v_aload_n (pc := 641) C dL_law_641 rfl ?_
  refine v_iload_n (pc := 642) C dL_law_642 rfl ?_
  refine v_iconst (pc := 643) (v := 2) C dL_law_643 (by decide) ?_
  refine v_iaddN (pc := 644) C (5 * k) 2 rfl rfl dL_law_644 ?_
  refine v_sld (pc := 645) C hX hbl hbA (by omega) (i := 5 * k + 2) (by omega) dL_law_645 ?_
  refine v_aload_n (pc := 646) C dL_law_646 rfl ?_
  refine v_iload_n (pc := 647) C dL_law_647 rfl ?_
  refine v_iconst (pc := 648) (v := 3) C dL_law_648 (by decide) ?_
  refine v_iaddN (pc := 649) C (5 * k) 3 rfl rfl dL_law_649 ?_
  refine v_sld (pc := 650) C hX hbl hbA (by omega) (i := 5 * k + 3) (by omega) dL_law_650 ?_
  refine v_callV (cells := 73 + 7 * k) (slots := 3555 + 129 * k) (R := room_1) (pc := 651) (st := []) (q0 := 0) (wr := MW G o5 a5 S5) C (kX4_give G o a f ua ub D.2.2.2.2.2.2.2.1 D.2.2.2.2.2.2.2.2.1 RU D.1 D.2.1 D.2.2.1 D.2.2.2.1 D.2.2.2.2.1 D.2.2.2.2.2.1 D.2.2.2.2.2.2.1 D.2.2.2.2.2.2.2.2.2.1 D.2.2.2.2.2.2.2.2.2.2.2.1 D.2.2.2.2.2.2.2.2.2.2.1 D.2.2.2.2.2.2.2.2.2.2.2.2 A hI hC (sc (5 * k + 1)) (sc (5 * k + 2)) (sc (5 * k + 3))) ykX4_give cvX4_give kw2_176 dL_law_651 rfl rfl rfl rfl rfl (by decide) (Nat.le_of_ble_eq_true rfl) ⟨show 73 + 7 * k + 0 ≤ 600000 by omega, show 3555 + 129 * k + 0 ≤ 7302250 by omega⟩ rfl (Ri_kk (fun r1 u1 h1 => ?_))
  obtain ⟨er1, eA1, hC1⟩ := h1
  subst er1
  refine V.perm (ws' := DWd G o a f ua ub RU u1.1 u1.2 ++ MW G o5 a5 S5) List.perm_append_comm ?_
  refine v_aload_n (pc := 654) C dL_law_654 rfl ?_
  refine v_aload_n (pc := 655) C dL_law_655 rfl ?_
  refine v_iload_n (pc := 656) C dL_law_656 rfl ?_
  refine v_iconst (pc := 657) (v := 1) C dL_law_657 (by decide) ?_
  refine v_iaddN (pc := 658) C (5 * k) 1 rfl rfl dL_law_658 ?_
  refine v_sld (pc := 659) C hX hbl hbA (by omega) (i := 5 * k + 1) (by omega) dL_law_659 ?_
  refine v_aload_n (pc := 660) C dL_law_660 rfl ?_
  refine v_iload_n (pc := 661) C dL_law_661 rfl ?_
  refine v_iconst (pc := 662) (v := 2) C dL_law_662 (by decide) ?_
  refine v_iaddN (pc := 663) C (5 * k) 2 rfl rfl dL_law_663 ?_
  refine v_sld (pc := 664) C hX hbl hbA (by omega) (i := 5 * k + 2) (by omega) dL_law_664 ?_
  refine v_aload_n (pc := 665) C dL_law_665 rfl ?_
  refine v_iload_n (pc := 666) C dL_law_666 rfl ?_
  refine v_iconst (pc := 667) (v := 3) C dL_law_667 (by decide) ?_
  refine v_iaddN (pc := 668) C (5 * k) 3 rfl rfl dL_law_668 ?_
  refine v_sld (pc := 669) C hX hbl hbA (by omega) (i := 5 * k + 3) (by omega) dL_law_669 ?_
  refine v_callV (cells := 73 + 7 * k + 0) (slots := 3555 + 129 * k + 0) (R := room_1) (pc := 670) (st := [.int ((s_give A (sc (5 * k + 1)) (sc (5 * k + 2)) (sc (5 * k + 3))).1)]) (q0 := 0) (wr := DWd G o a f ua ub RU u1.1 u1.2) C (kX5_give G o5 a5 S5 A hI hM (sc (5 * k + 1)) (sc (5 * k + 2)) (sc (5 * k + 3))) ykX5_give cvX5_give kw4_4 dL_law_670 rfl rfl rfl rfl rfl (by decide) (Nat.le_of_ble_eq_true rfl) ⟨show 73 + 7 * k + 0 + 0 ≤ 600000 by omega, show 3555 + 129 * k + 0 + 0 ≤ 7302250 by omega⟩ rfl (Ri_kk (fun r2 u2 h2 => ?_))
  obtain ⟨er2, hM2⟩ := h2
  subst er2
  refine V.perm (ws' := MW G o5 a5 u2 ++ DWd G o a f ua ub RU u1.1 u1.2) List.perm_append_comm ?_
  refine v_icmp_eq (pc := 673) (tgt := 859) C dL_law_673 (by decide) (fun _ => ?_) (fun q => absurd rfl q)
  refine V.wide (k := 73 + 7 * (k + 1)) (n := 3555 + 129 * (k + 1)) (by omega) (by omega) ?_
  exact back u1.1 u1.2 u2 (by rw [eA1]; exact inv_give hI) hC1 (by rw [eA1]; exact hM2)
set_option maxHeartbeats 4000000 in
set_option maxRecDepth 100000 in
theorem lw_c16 (C : OK G X cL_law R_law 4 (some .boolean)) (hL : L ≤ 2560) (hX : va_X b L sc (xs X) (xs X).heap) (hbl : b < (xs X).heap.size) (hbA : ¬ (xA X) b) (hk : 5 * k + 5 ≤ L) (A : AS) (D : DS) (S5 : MS) (hI : AInv A) (hC : CRel A RU ua D) (hM : MRel A S5) (back : ∀ (A : AS) (D : DS) (S5 : MS), AInv A → CRel A RU ua D → MRel A S5 → V G X cL_law 4 room_1 Q (73 + 7 * (k + 1)) (3555 + 129 * (k + 1)) 859 (lvo [(0, .ref b), (1, .ref o), (2, .ref o5), (3, .int (nI (5 * k)))]) [] (MW G o5 a5 S5 ++ DWd G o a f ua ub RU A D)) : V G X cL_law 4 room_1 Q (73 + 7 * k) (3555 + 129 * k) 678 (lvo [(0, .ref b), (1, .ref o), (2, .ref o5), (3, .int (nI (5 * k)))]) [] (MW G o5 a5 S5 ++ DWd G o a f ua ub RU A D) := by
  refine v_aload_n (pc := 678) C dL_law_678 rfl ?_
  refine v_aload_n (pc := 679) C dL_law_679 rfl ?_
  refine v_iload_n (pc := 680) C dL_law_680 rfl ?_
  refine v_iconst (pc := 681) (v := 1) C dL_law_681 (by decide) ?_
  refine v_iaddN (pc := 682) C (5 * k) 1 rfl rfl dL_law_682 ?_
  refine v_sld (pc := 683) C hX hbl hbA (by omega) (i := 5 * k + 1) (by omega) dL_law_683 ?_
  refine v_aload_n (pc := 684) C dL_law_684 rfl ?_
  refine v_iload_n (pc := 685) C dL_law_685 rfl ?_
  refine v_iconst (pc := 686) (v := 2) C dL_law_686 (by decide) ?_
  refine v_iaddN (pc := 687) C (5 * k) 2 rfl rfl dL_law_687 ?_
  refine v_sld (pc := 688) C hX hbl hbA (by omega) (i := 5 * k + 2) (by omega) dL_law_688 ?_
  refine v_callV (cells := 73 + 7 * k) (slots := 3555 + 129 * k) (R := room_1) (pc := 689) (st := []) (q0 := 0) (wr := MW G o5 a5 S5) C (kX4_price G o a f ua ub D.2.2.2.2.2.2.2.1 D.2.2.2.2.2.2.2.2.1 RU D.1 D.2.1 D.2.2.1 D.2.2.2.1 D.2.2.2.2.1 D.2.2.2.2.2.1 D.2.2.2.2.2.2.1 D.2.2.2.2.2.2.2.2.2.1 D.2.2.2.2.2.2.2.2.2.2.2.1 D.2.2.2.2.2.2.2.2.2.2.1 D.2.2.2.2.2.2.2.2.2.2.2.2 A hI hC (sc (5 * k + 1)) (sc (5 * k + 2))) ykX4_price cvX4_price kw2_188 dL_law_689 rfl rfl rfl rfl rfl (by decide) (Nat.le_of_ble_eq_true rfl) ⟨show 73 + 7 * k + 0 ≤ 600000 by omega, show 3555 + 129 * k + 0 ≤ 7302250 by omega⟩ rfl (Ri_kk (fun r1 u1 h1 => ?_))
  obtain ⟨er1, eA1, hC1⟩ := h1
  subst er1
  refine V.perm (ws' := DWd G o a f ua ub RU u1.1 u1.2 ++ MW G o5 a5 S5) List.perm_append_comm ?_
  refine v_aload_n (pc := 692) C dL_law_692 rfl ?_
  refine v_aload_n (pc := 693) C dL_law_693 rfl ?_
  refine v_iload_n (pc := 694) C dL_law_694 rfl ?_
  refine v_iconst (pc := 695) (v := 1) C dL_law_695 (by decide) ?_
  refine v_iaddN (pc := 696) C (5 * k) 1 rfl rfl dL_law_696 ?_
  refine v_sld (pc := 697) C hX hbl hbA (by omega) (i := 5 * k + 1) (by omega) dL_law_697 ?_
  refine v_aload_n (pc := 698) C dL_law_698 rfl ?_
  refine v_iload_n (pc := 699) C dL_law_699 rfl ?_
  refine v_iconst (pc := 700) (v := 2) C dL_law_700 (by decide) ?_
  refine v_iaddN (pc := 701) C (5 * k) 2 rfl rfl dL_law_701 ?_
  refine v_sld (pc := 702) C hX hbl hbA (by omega) (i := 5 * k + 2) (by omega) dL_law_702 ?_
  refine v_callV (cells := 73 + 7 * k + 0) (slots := 3555 + 129 * k + 0) (R := room_1) (pc := 703) (st := [.int ((s_price A (sc (5 * k + 1)) (sc (5 * k + 2))).1)]) (q0 := 0) (wr := DWd G o a f ua ub RU u1.1 u1.2) C (kX5_price G o5 a5 S5 A hI hM (sc (5 * k + 1)) (sc (5 * k + 2))) ykX5_price cvX5_price kw4_11 dL_law_703 rfl rfl rfl rfl rfl (by decide) (Nat.le_of_ble_eq_true rfl) ⟨show 73 + 7 * k + 0 + 0 ≤ 600000 by omega, show 3555 + 129 * k + 0 + 0 ≤ 7302250 by omega⟩ rfl (Ri_kk (fun r2 u2 h2 => ?_))
  obtain ⟨er2, hM2⟩ := h2
  subst er2
  refine V.perm (ws' := MW G o5 a5 u2 ++ DWd G o a f ua ub RU u1.1 u1.2) List.perm_append_comm ?_
  refine v_icmp_eq (pc := 706) (tgt := 859) C dL_law_706 (by decide) (fun _ => ?_) (fun q => absurd rfl q)
  refine V.wide (k := 73 + 7 * (k + 1)) (n := 3555 + 129 * (k + 1)) (by omega) (by omega) ?_
  exact back u1.1 u1.2 u2 (by rw [eA1]; exact inv_price hI) hC1 (by rw [eA1]; exact hM2)
set_option maxHeartbeats 4000000 in
set_option maxRecDepth 100000 in
theorem lw_c17 (C : OK G X cL_law R_law 4 (some .boolean)) (hL : L ≤ 2560) (hX : va_X b L sc (xs X) (xs X).heap) (hbl : b < (xs X).heap.size) (hbA : ¬ (xA X) b) (hk : 5 * k + 5 ≤ L) (A : AS) (D : DS) (S5 : MS) (hI : AInv A) (hC : CRel A RU ua D) (hM : MRel A S5) (back : ∀ (A : AS) (D : DS) (S5 : MS), AInv A → CRel A RU ua D → MRel A S5 → V G X cL_law 4 room_1 Q (73 + 7 * (k + 1)) (3555 + 129 * (k + 1)) 859 (lvo [(0, .ref b), (1, .ref o), (2, .ref o5), (3, .int (nI (5 * k)))]) [] (MW G o5 a5 S5 ++ DWd G o a f ua ub RU A D)) : V G X cL_law 4 room_1 Q (73 + 7 * k) (3555 + 129 * k) 711 (lvo [(0, .ref b), (1, .ref o), (2, .ref o5), (3, .int (nI (5 * k)))]) [] (MW G o5 a5 S5 ++ DWd G o a f ua ub RU A D) := by
  refine v_aload_n (pc := 711) C dL_law_711 rfl ?_
  refine v_aload_n (pc := 712) C dL_law_712 rfl ?_
  refine v_iload_n (pc := 713) C dL_law_713 rfl ?_
  refine v_iconst (pc := 714) (v := 1) C dL_law_714 (by decide) ?_
  refine v_iaddN (pc := 715) C (5 * k) 1 rfl rfl dL_law_715 ?_
  refine v_sld (pc := 716) C hX hbl hbA (by omega) (i := 5 * k + 1) (by omega) dL_law_716 ?_
  refine v_aload_n (pc := 717) C dL_law_717 rfl ?_
  refine v_iload_n (pc := 718) C dL_law_718 rfl ?_
  refine v_iconst (pc := 719) (v := 2) C dL_law_719 (by decide) ?_
  refine v_iaddN (pc := 720) C (5 * k) 2 rfl rfl dL_law_720 ?_
  refine v_sld (pc := 721) C hX hbl hbA (by omega) (i := 5 * k + 2) (by omega) dL_law_721 ?_
  refine v_callV (cells := 73 + 7 * k) (slots := 3555 + 129 * k) (R := room_1) (pc := 722) (st := []) (q0 := 0) (wr := MW G o5 a5 S5) C (kX4_cost G o a f ua ub D.2.2.2.2.2.2.2.1 D.2.2.2.2.2.2.2.2.1 RU D.1 D.2.1 D.2.2.1 D.2.2.2.1 D.2.2.2.2.1 D.2.2.2.2.2.1 D.2.2.2.2.2.2.1 D.2.2.2.2.2.2.2.2.2.1 D.2.2.2.2.2.2.2.2.2.2.2.1 D.2.2.2.2.2.2.2.2.2.2.1 D.2.2.2.2.2.2.2.2.2.2.2.2 A hI hC (sc (5 * k + 1)) (sc (5 * k + 2))) ykX4_cost cvX4_cost kw2_192 dL_law_722 rfl rfl rfl rfl rfl (by decide) (Nat.le_of_ble_eq_true rfl) ⟨show 73 + 7 * k + 0 ≤ 600000 by omega, show 3555 + 129 * k + 0 ≤ 7302250 by omega⟩ rfl (Ri_kk (fun r1 u1 h1 => ?_))
  obtain ⟨er1, eA1, hC1⟩ := h1
  subst er1
  refine V.perm (ws' := DWd G o a f ua ub RU u1.1 u1.2 ++ MW G o5 a5 S5) List.perm_append_comm ?_
  refine v_aload_n (pc := 725) C dL_law_725 rfl ?_
  refine v_aload_n (pc := 726) C dL_law_726 rfl ?_
  refine v_iload_n (pc := 727) C dL_law_727 rfl ?_
  refine v_iconst (pc := 728) (v := 1) C dL_law_728 (by decide) ?_
  refine v_iaddN (pc := 729) C (5 * k) 1 rfl rfl dL_law_729 ?_
  refine v_sld (pc := 730) C hX hbl hbA (by omega) (i := 5 * k + 1) (by omega) dL_law_730 ?_
  refine v_aload_n (pc := 731) C dL_law_731 rfl ?_
  refine v_iload_n (pc := 732) C dL_law_732 rfl ?_
  refine v_iconst (pc := 733) (v := 2) C dL_law_733 (by decide) ?_
  refine v_iaddN (pc := 734) C (5 * k) 2 rfl rfl dL_law_734 ?_
  refine v_sld (pc := 735) C hX hbl hbA (by omega) (i := 5 * k + 2) (by omega) dL_law_735 ?_
  refine v_callV (cells := 73 + 7 * k + 0) (slots := 3555 + 129 * k + 0) (R := room_1) (pc := 736) (st := [.int (s_cost A (sc (5 * k + 1)) (sc (5 * k + 2)))]) (q0 := 0) (wr := DWd G o a f ua ub RU u1.1 u1.2) C (kX5_cost G o5 a5 S5 A hI hM (sc (5 * k + 1)) (sc (5 * k + 2))) ykX5_cost cvX5_cost kw4_15 dL_law_736 rfl rfl rfl rfl rfl (by decide) (Nat.le_of_ble_eq_true rfl) ⟨show 73 + 7 * k + 0 + 0 ≤ 600000 by omega, show 3555 + 129 * k + 0 + 0 ≤ 7302250 by omega⟩ rfl (Ri_kk (fun r2 u2 h2 => ?_))
  obtain ⟨er2, hM2⟩ := h2
  subst er2
  refine V.perm (ws' := MW G o5 a5 u2 ++ DWd G o a f ua ub RU u1.1 u1.2) List.perm_append_comm ?_
  refine v_icmp_eq (pc := 739) (tgt := 859) C dL_law_739 (by decide) (fun _ => ?_) (fun q => absurd rfl q)
  refine V.wide (k := 73 + 7 * (k + 1)) (n := 3555 + 129 * (k + 1)) (by omega) (by omega) ?_
  exact back u1.1 u1.2 u2 (by rw [eA1]; exact hI) hC1 (by rw [eA1]; exact hM2)
set_option maxHeartbeats 4000000 in
set_option maxRecDepth 100000 in
theorem lw_c18 (C : OK G X cL_law R_law 4 (some .boolean)) (hL : L ≤ 2560) (hX : va_X b L sc (xs X) (xs X).heap) (hbl : b < (xs X).heap.size) (hbA : ¬ (xA X) b) (hk : 5 * k + 5 ≤ L) (A : AS) (D : DS) (S5 : MS) (hI : AInv A) (hC : CRel A RU ua D) (hM : MRel A S5) (back : ∀ (A : AS) (D : DS) (S5 : MS), AInv A → CRel A RU ua D → MRel A S5 → V G X cL_law 4 room_1 Q (73 + 7 * (k + 1)) (3555 + 129 * (k + 1)) 859 (lvo [(0, .ref b), (1, .ref o), (2, .ref o5), (3, .int (nI (5 * k)))]) [] (MW G o5 a5 S5 ++ DWd G o a f ua ub RU A D)) : V G X cL_law 4 room_1 Q (73 + 7 * k) (3555 + 129 * k) 744 (lvo [(0, .ref b), (1, .ref o), (2, .ref o5), (3, .int (nI (5 * k)))]) [] (MW G o5 a5 S5 ++ DWd G o a f ua ub RU A D) := by
  refine v_aload_n (pc := 744) C dL_law_744 rfl ?_
  refine v_aload_n (pc := 745) C dL_law_745 rfl ?_
  refine v_iload_n (pc := 746) C dL_law_746 rfl ?_
  refine v_iconst (pc := 747) (v := 1) C dL_law_747 (by decide) ?_
  refine v_iaddN (pc := 748) C (5 * k) 1 rfl rfl dL_law_748 ?_
  refine v_sld (pc := 749) C hX hbl hbA (by omega) (i := 5 * k + 1) (by omega) dL_law_749 ?_
  refine v_callV (cells := 73 + 7 * k) (slots := 3555 + 129 * k) (R := room_1) (pc := 750) (st := []) (q0 := 0) (wr := MW G o5 a5 S5) C (kX4_sets G o a f ua ub D.2.2.2.2.2.2.2.1 D.2.2.2.2.2.2.2.2.1 RU D.1 D.2.1 D.2.2.1 D.2.2.2.1 D.2.2.2.2.1 D.2.2.2.2.2.1 D.2.2.2.2.2.2.1 D.2.2.2.2.2.2.2.2.2.1 D.2.2.2.2.2.2.2.2.2.2.2.1 D.2.2.2.2.2.2.2.2.2.2.1 D.2.2.2.2.2.2.2.2.2.2.2.2 A hI hC (sc (5 * k + 1))) ykX4_sets cvX4_sets kw2_211 dL_law_750 rfl rfl rfl rfl rfl (by decide) (Nat.le_of_ble_eq_true rfl) ⟨show 73 + 7 * k + 0 ≤ 600000 by omega, show 3555 + 129 * k + 0 ≤ 7302250 by omega⟩ rfl (Ri_kk (fun r1 u1 h1 => ?_))
  obtain ⟨er1, eA1, hC1⟩ := h1
  subst er1
  refine V.perm (ws' := DWd G o a f ua ub RU u1.1 u1.2 ++ MW G o5 a5 S5) List.perm_append_comm ?_
  refine v_aload_n (pc := 753) C dL_law_753 rfl ?_
  refine v_aload_n (pc := 754) C dL_law_754 rfl ?_
  refine v_iload_n (pc := 755) C dL_law_755 rfl ?_
  refine v_iconst (pc := 756) (v := 1) C dL_law_756 (by decide) ?_
  refine v_iaddN (pc := 757) C (5 * k) 1 rfl rfl dL_law_757 ?_
  refine v_sld (pc := 758) C hX hbl hbA (by omega) (i := 5 * k + 1) (by omega) dL_law_758 ?_
  refine v_callV (cells := 73 + 7 * k + 0) (slots := 3555 + 129 * k + 0) (R := room_1) (pc := 759) (st := [.int (s_sets A (sc (5 * k + 1)))]) (q0 := 0) (wr := DWd G o a f ua ub RU u1.1 u1.2) C (kX5_sets G o5 a5 S5 A hI hM (sc (5 * k + 1))) ykX5_sets cvX5_sets kw4_26 dL_law_759 rfl rfl rfl rfl rfl (by decide) (Nat.le_of_ble_eq_true rfl) ⟨show 73 + 7 * k + 0 + 0 ≤ 600000 by omega, show 3555 + 129 * k + 0 + 0 ≤ 7302250 by omega⟩ rfl (Ri_kk (fun r2 u2 h2 => ?_))
  obtain ⟨er2, hM2⟩ := h2
  subst er2
  refine V.perm (ws' := MW G o5 a5 u2 ++ DWd G o a f ua ub RU u1.1 u1.2) List.perm_append_comm ?_
  refine v_icmp_eq (pc := 762) (tgt := 859) C dL_law_762 (by decide) (fun _ => ?_) (fun q => absurd rfl q)
  refine V.wide (k := 73 + 7 * (k + 1)) (n := 3555 + 129 * (k + 1)) (by omega) (by omega) ?_
  exact back u1.1 u1.2 u2 (by rw [eA1]; exact hI) hC1 (by rw [eA1]; exact hM2)
set_option maxHeartbeats 4000000 in
set_option maxRecDepth 100000 in
theorem lw_c19 (C : OK G X cL_law R_law 4 (some .boolean)) (hL : L ≤ 2560) (hX : va_X b L sc (xs X) (xs X).heap) (hbl : b < (xs X).heap.size) (hbA : ¬ (xA X) b) (hk : 5 * k + 5 ≤ L) (A : AS) (D : DS) (S5 : MS) (hI : AInv A) (hC : CRel A RU ua D) (hM : MRel A S5) (back : ∀ (A : AS) (D : DS) (S5 : MS), AInv A → CRel A RU ua D → MRel A S5 → V G X cL_law 4 room_1 Q (73 + 7 * (k + 1)) (3555 + 129 * (k + 1)) 859 (lvo [(0, .ref b), (1, .ref o), (2, .ref o5), (3, .int (nI (5 * k)))]) [] (MW G o5 a5 S5 ++ DWd G o a f ua ub RU A D)) : V G X cL_law 4 room_1 Q (73 + 7 * k) (3555 + 129 * k) 767 (lvo [(0, .ref b), (1, .ref o), (2, .ref o5), (3, .int (nI (5 * k)))]) [] (MW G o5 a5 S5 ++ DWd G o a f ua ub RU A D) := by
  refine v_aload_n (pc := 767) C dL_law_767 rfl ?_
  refine v_aload_n (pc := 768) C dL_law_768 rfl ?_
  refine v_iload_n (pc := 769) C dL_law_769 rfl ?_
  refine v_iconst (pc := 770) (v := 1) C dL_law_770 (by decide) ?_
  refine v_iaddN (pc := 771) C (5 * k) 1 rfl rfl dL_law_771 ?_
  refine v_sld (pc := 772) C hX hbl hbA (by omega) (i := 5 * k + 1) (by omega) dL_law_772 ?_
  refine v_aload_n (pc := 773) C dL_law_773 rfl ?_
  refine v_iload_n (pc := 774) C dL_law_774 rfl ?_
  refine v_iconst (pc := 775) (v := 2) C dL_law_775 (by decide) ?_
  refine v_iaddN (pc := 776) C (5 * k) 2 rfl rfl dL_law_776 ?_
  refine v_sld (pc := 777) C hX hbl hbA (by omega) (i := 5 * k + 2) (by omega) dL_law_777 ?_
  refine v_callV (cells := 73 + 7 * k) (slots := 3555 + 129 * k) (R := room_1) (pc := 778) (st := []) (q0 := 0) (wr := MW G o5 a5 S5) C (kX4_set G o a f ua ub D.2.2.2.2.2.2.2.1 D.2.2.2.2.2.2.2.2.1 RU D.1 D.2.1 D.2.2.1 D.2.2.2.1 D.2.2.2.2.1 D.2.2.2.2.2.1 D.2.2.2.2.2.2.1 D.2.2.2.2.2.2.2.2.2.1 D.2.2.2.2.2.2.2.2.2.2.2.1 D.2.2.2.2.2.2.2.2.2.2.1 D.2.2.2.2.2.2.2.2.2.2.2.2 A hI hC (sc (5 * k + 1)) (sc (5 * k + 2))) ykX4_set cvX4_set kw2_220 dL_law_778 rfl rfl rfl rfl rfl (by decide) (Nat.le_of_ble_eq_true rfl) ⟨show 73 + 7 * k + 0 ≤ 600000 by omega, show 3555 + 129 * k + 0 ≤ 7302250 by omega⟩ rfl (Ri_kk (fun r1 u1 h1 => ?_))
  obtain ⟨er1, eA1, hC1⟩ := h1
  subst er1
  refine V.perm (ws' := DWd G o a f ua ub RU u1.1 u1.2 ++ MW G o5 a5 S5) List.perm_append_comm ?_
  refine v_aload_n (pc := 781) C dL_law_781 rfl ?_
  refine v_aload_n (pc := 782) C dL_law_782 rfl ?_
  refine v_iload_n (pc := 783) C dL_law_783 rfl ?_
  refine v_iconst (pc := 784) (v := 1) C dL_law_784 (by decide) ?_
  refine v_iaddN (pc := 785) C (5 * k) 1 rfl rfl dL_law_785 ?_
  refine v_sld (pc := 786) C hX hbl hbA (by omega) (i := 5 * k + 1) (by omega) dL_law_786 ?_
  refine v_aload_n (pc := 787) C dL_law_787 rfl ?_
  refine v_iload_n (pc := 788) C dL_law_788 rfl ?_
  refine v_iconst (pc := 789) (v := 2) C dL_law_789 (by decide) ?_
  refine v_iaddN (pc := 790) C (5 * k) 2 rfl rfl dL_law_790 ?_
  refine v_sld (pc := 791) C hX hbl hbA (by omega) (i := 5 * k + 2) (by omega) dL_law_791 ?_
  refine v_callV (cells := 73 + 7 * k + 0) (slots := 3555 + 129 * k + 0) (R := room_1) (pc := 792) (st := [.int (s_set A (sc (5 * k + 1)) (sc (5 * k + 2)))]) (q0 := 0) (wr := DWd G o a f ua ub RU u1.1 u1.2) C (kX5_set G o5 a5 S5 A hI hM (sc (5 * k + 1)) (sc (5 * k + 2))) ykX5_set cvX5_set kw4_34 dL_law_792 rfl rfl rfl rfl rfl (by decide) (Nat.le_of_ble_eq_true rfl) ⟨show 73 + 7 * k + 0 + 0 ≤ 600000 by omega, show 3555 + 129 * k + 0 + 0 ≤ 7302250 by omega⟩ rfl (Ri_kk (fun r2 u2 h2 => ?_))
  obtain ⟨er2, hM2⟩ := h2
  subst er2
  refine V.perm (ws' := MW G o5 a5 u2 ++ DWd G o a f ua ub RU u1.1 u1.2) List.perm_append_comm ?_
  refine v_icmp_eq (pc := 795) (tgt := 859) C dL_law_795 (by decide) (fun _ => ?_) (fun q => absurd rfl q)
  refine V.wide (k := 73 + 7 * (k + 1)) (n := 3555 + 129 * (k + 1)) (by omega) (by omega) ?_
  exact back u1.1 u1.2 u2 (by rw [eA1]; exact hI) hC1 (by rw [eA1]; exact hM2)
set_option maxHeartbeats 4000000 in
set_option maxRecDepth 100000 in
theorem lw_c20 (C : OK G X cL_law R_law 4 (some .boolean)) (hL : L ≤ 2560) (hX : va_X b L sc (xs X) (xs X).heap) (hbl : b < (xs X).heap.size) (hbA : ¬ (xA X) b) (hk : 5 * k + 5 ≤ L) (A : AS) (D : DS) (S5 : MS) (hI : AInv A) (hC : CRel A RU ua D) (hM : MRel A S5) (back : ∀ (A : AS) (D : DS) (S5 : MS), AInv A → CRel A RU ua D → MRel A S5 → V G X cL_law 4 room_1 Q (73 + 7 * (k + 1)) (3555 + 129 * (k + 1)) 859 (lvo [(0, .ref b), (1, .ref o), (2, .ref o5), (3, .int (nI (5 * k)))]) [] (MW G o5 a5 S5 ++ DWd G o a f ua ub RU A D)) : V G X cL_law 4 room_1 Q (73 + 7 * k) (3555 + 129 * k) 800 (lvo [(0, .ref b), (1, .ref o), (2, .ref o5), (3, .int (nI (5 * k)))]) [] (MW G o5 a5 S5 ++ DWd G o a f ua ub RU A D) := by
  refine v_aload_n (pc := 800) C dL_law_800 rfl ?_
  refine v_aload_n (pc := 801) C dL_law_801 rfl ?_
  refine v_iload_n (pc := 802) C dL_law_802 rfl ?_
  refine v_iconst (pc := 803) (v := 1) C dL_law_803 (by decide) ?_
  refine v_iaddN (pc := 804) C (5 * k) 1 rfl rfl dL_law_804 ?_
  refine v_sld (pc := 805) C hX hbl hbA (by omega) (i := 5 * k + 1) (by omega) dL_law_805 ?_
  refine v_callV (cells := 73 + 7 * k) (slots := 3555 + 129 * k) (R := room_1) (pc := 806) (st := []) (q0 := 0) (wr := MW G o5 a5 S5) C (kX4_next G o a f ua ub D.2.2.2.2.2.2.2.1 D.2.2.2.2.2.2.2.2.1 RU D.1 D.2.1 D.2.2.1 D.2.2.2.1 D.2.2.2.2.1 D.2.2.2.2.2.1 D.2.2.2.2.2.2.1 D.2.2.2.2.2.2.2.2.2.1 D.2.2.2.2.2.2.2.2.2.2.2.1 D.2.2.2.2.2.2.2.2.2.2.1 D.2.2.2.2.2.2.2.2.2.2.2.2 A hI hC (sc (5 * k + 1))) ykX4_next cvX4_next kw2_224 dL_law_806 rfl rfl rfl rfl rfl (by decide) (Nat.le_of_ble_eq_true rfl) ⟨show 73 + 7 * k + 0 ≤ 600000 by omega, show 3555 + 129 * k + 0 ≤ 7302250 by omega⟩ rfl (Ri_kk (fun r1 u1 h1 => ?_))
  obtain ⟨er1, eA1, hC1⟩ := h1
  subst er1
  refine V.perm (ws' := DWd G o a f ua ub RU u1.1 u1.2 ++ MW G o5 a5 S5) List.perm_append_comm ?_
  refine v_aload_n (pc := 809) C dL_law_809 rfl ?_
  refine v_aload_n (pc := 810) C dL_law_810 rfl ?_
  refine v_iload_n (pc := 811) C dL_law_811 rfl ?_
  refine v_iconst (pc := 812) (v := 1) C dL_law_812 (by decide) ?_
  refine v_iaddN (pc := 813) C (5 * k) 1 rfl rfl dL_law_813 ?_
  refine v_sld (pc := 814) C hX hbl hbA (by omega) (i := 5 * k + 1) (by omega) dL_law_814 ?_
  refine v_callV (cells := 73 + 7 * k + 0) (slots := 3555 + 129 * k + 0) (R := room_1) (pc := 815) (st := [.int (s_next A (sc (5 * k + 1)))]) (q0 := 0) (wr := DWd G o a f ua ub RU u1.1 u1.2) C (kX5_next G o5 a5 S5 A hI hM (sc (5 * k + 1))) ykX5_next cvX5_next kw4_38 dL_law_815 rfl rfl rfl rfl rfl (by decide) (Nat.le_of_ble_eq_true rfl) ⟨show 73 + 7 * k + 0 + 0 ≤ 600000 by omega, show 3555 + 129 * k + 0 + 0 ≤ 7302250 by omega⟩ rfl (Ri_kk (fun r2 u2 h2 => ?_))
  obtain ⟨er2, hM2⟩ := h2
  subst er2
  refine V.perm (ws' := MW G o5 a5 u2 ++ DWd G o a f ua ub RU u1.1 u1.2) List.perm_append_comm ?_
  refine v_icmp_eq (pc := 818) (tgt := 859) C dL_law_818 (by decide) (fun _ => ?_) (fun q => absurd rfl q)
  refine V.wide (k := 73 + 7 * (k + 1)) (n := 3555 + 129 * (k + 1)) (by omega) (by omega) ?_
  exact back u1.1 u1.2 u2 (by rw [eA1]; exact hI) hC1 (by rw [eA1]; exact hM2)
set_option maxHeartbeats 4000000 in
set_option maxRecDepth 100000 in
theorem lw_c21 (C : OK G X cL_law R_law 4 (some .boolean)) (hL : L ≤ 2560) (hX : va_X b L sc (xs X) (xs X).heap) (hbl : b < (xs X).heap.size) (hbA : ¬ (xA X) b) (hk : 5 * k + 5 ≤ L) (A : AS) (D : DS) (S5 : MS) (hI : AInv A) (hC : CRel A RU ua D) (hM : MRel A S5) (back : ∀ (A : AS) (D : DS) (S5 : MS), AInv A → CRel A RU ua D → MRel A S5 → V G X cL_law 4 room_1 Q (73 + 7 * (k + 1)) (3555 + 129 * (k + 1)) 859 (lvo [(0, .ref b), (1, .ref o), (2, .ref o5), (3, .int (nI (5 * k)))]) [] (MW G o5 a5 S5 ++ DWd G o a f ua ub RU A D)) : V G X cL_law 4 room_1 Q (73 + 7 * k) (3555 + 129 * k) 823 (lvo [(0, .ref b), (1, .ref o), (2, .ref o5), (3, .int (nI (5 * k)))]) [] (MW G o5 a5 S5 ++ DWd G o a f ua ub RU A D) := by
  refine v_aload_n (pc := 823) C dL_law_823 rfl ?_
  refine v_callV (cells := 73 + 7 * k) (slots := 3555 + 129 * k) (R := room_1) (pc := 824) (st := []) (q0 := 0) (wr := MW G o5 a5 S5) C (kX4_parting G o a f ua ub D.2.2.2.2.2.2.2.1 D.2.2.2.2.2.2.2.2.1 RU D.1 D.2.1 D.2.2.1 D.2.2.2.1 D.2.2.2.2.1 D.2.2.2.2.2.1 D.2.2.2.2.2.2.1 D.2.2.2.2.2.2.2.2.2.1 D.2.2.2.2.2.2.2.2.2.2.2.1 D.2.2.2.2.2.2.2.2.2.2.1 D.2.2.2.2.2.2.2.2.2.2.2.2 A hI hC) ykX4_parting cvX4_parting kw2_239 dL_law_824 rfl rfl rfl rfl rfl (by decide) (Nat.le_of_ble_eq_true rfl) ⟨show 73 + 7 * k + 0 ≤ 600000 by omega, show 3555 + 129 * k + 0 ≤ 7302250 by omega⟩ rfl (Ri_kk (fun r1 u1 h1 => ?_))
  obtain ⟨er1, eA1, hC1⟩ := h1
  subst er1
  refine V.perm (ws' := DWd G o a f ua ub RU u1.1 u1.2 ++ MW G o5 a5 S5) List.perm_append_comm ?_
  refine v_aload_n (pc := 827) C dL_law_827 rfl ?_
  refine v_callV (cells := 73 + 7 * k + 0) (slots := 3555 + 129 * k + 0) (R := room_1) (pc := 828) (st := [.int (s_parting A)]) (q0 := 0) (wr := DWd G o a f ua ub RU u1.1 u1.2) C (kX5_parting G o5 a5 S5 A hI hM) ykX5_parting cvX5_parting kw4_46 dL_law_828 rfl rfl rfl rfl rfl (by decide) (Nat.le_of_ble_eq_true rfl) ⟨show 73 + 7 * k + 0 + 0 ≤ 600000 by omega, show 3555 + 129 * k + 0 + 0 ≤ 7302250 by omega⟩ rfl (Ri_kk (fun r2 u2 h2 => ?_))
  obtain ⟨er2, hM2⟩ := h2
  subst er2
  refine V.perm (ws' := MW G o5 a5 u2 ++ DWd G o a f ua ub RU u1.1 u1.2) List.perm_append_comm ?_
  refine v_icmp_eq (pc := 831) (tgt := 859) C dL_law_831 (by decide) (fun _ => ?_) (fun q => absurd rfl q)
  refine V.wide (k := 73 + 7 * (k + 1)) (n := 3555 + 129 * (k + 1)) (by omega) (by omega) ?_
  exact back u1.1 u1.2 u2 (by rw [eA1]; exact hI) hC1 (by rw [eA1]; exact hM2)
set_option maxHeartbeats 4000000 in
set_option maxRecDepth 100000 in
theorem lw_c22 (C : OK G X cL_law R_law 4 (some .boolean)) (hL : L ≤ 2560) (hX : va_X b L sc (xs X) (xs X).heap) (hbl : b < (xs X).heap.size) (hbA : ¬ (xA X) b) (hk : 5 * k + 5 ≤ L) (A : AS) (D : DS) (S5 : MS) (hI : AInv A) (hC : CRel A RU ua D) (hM : MRel A S5) (back : ∀ (A : AS) (D : DS) (S5 : MS), AInv A → CRel A RU ua D → MRel A S5 → V G X cL_law 4 room_1 Q (73 + 7 * (k + 1)) (3555 + 129 * (k + 1)) 859 (lvo [(0, .ref b), (1, .ref o), (2, .ref o5), (3, .int (nI (5 * k)))]) [] (MW G o5 a5 S5 ++ DWd G o a f ua ub RU A D)) : V G X cL_law 4 room_1 Q (73 + 7 * k) (3555 + 129 * k) 836 (lvo [(0, .ref b), (1, .ref o), (2, .ref o5), (3, .int (nI (5 * k)))]) [] (MW G o5 a5 S5 ++ DWd G o a f ua ub RU A D) := by
  refine v_aload_n (pc := 836) C dL_law_836 rfl ?_
  refine v_aload_n (pc := 837) C dL_law_837 rfl ?_
  refine v_iload_n (pc := 838) C dL_law_838 rfl ?_
  refine v_iconst (pc := 839) (v := 1) C dL_law_839 (by decide) ?_
  refine v_iaddN (pc := 840) C (5 * k) 1 rfl rfl dL_law_840 ?_
  refine v_sld (pc := 841) C hX hbl hbA (by omega) (i := 5 * k + 1) (by omega) dL_law_841 ?_
  refine v_callV (cells := 73 + 7 * k) (slots := 3555 + 129 * k) (R := room_1) (pc := 842) (st := []) (q0 := 0) (wr := MW G o5 a5 S5) C (kX4_count G o a f ua ub D.2.2.2.2.2.2.2.1 D.2.2.2.2.2.2.2.2.1 RU D.1 D.2.1 D.2.2.1 D.2.2.2.1 D.2.2.2.2.1 D.2.2.2.2.2.1 D.2.2.2.2.2.2.1 D.2.2.2.2.2.2.2.2.2.1 D.2.2.2.2.2.2.2.2.2.2.2.1 D.2.2.2.2.2.2.2.2.2.2.1 D.2.2.2.2.2.2.2.2.2.2.2.2 A hI hC (sc (5 * k + 1))) ykX4_count cvX4_count kw3_15 dL_law_842 rfl rfl rfl rfl rfl (by decide) (Nat.le_of_ble_eq_true rfl) ⟨show 73 + 7 * k + 0 ≤ 600000 by omega, show 3555 + 129 * k + 0 ≤ 7302250 by omega⟩ rfl (Ri_kk (fun r1 u1 h1 => ?_))
  obtain ⟨er1, eA1, hC1⟩ := h1
  subst er1
  refine V.perm (ws' := DWd G o a f ua ub RU u1.1 u1.2 ++ MW G o5 a5 S5) List.perm_append_comm ?_
  refine v_aload_n (pc := 845) C dL_law_845 rfl ?_
  refine v_aload_n (pc := 846) C dL_law_846 rfl ?_
  refine v_iload_n (pc := 847) C dL_law_847 rfl ?_
  refine v_iconst (pc := 848) (v := 1) C dL_law_848 (by decide) ?_
  refine v_iaddN (pc := 849) C (5 * k) 1 rfl rfl dL_law_849 ?_
  refine v_sld (pc := 850) C hX hbl hbA (by omega) (i := 5 * k + 1) (by omega) dL_law_850 ?_
  refine v_callV (cells := 73 + 7 * k + 0) (slots := 3555 + 129 * k + 0) (R := room_1) (pc := 851) (st := [.int (s_count A (sc (5 * k + 1)))]) (q0 := 0) (wr := DWd G o a f ua ub RU u1.1 u1.2) C (kX5_count G o5 a5 S5 A hI hM (sc (5 * k + 1))) ykX5_count cvX5_count kw4_54 dL_law_851 rfl rfl rfl rfl rfl (by decide) (Nat.le_of_ble_eq_true rfl) ⟨show 73 + 7 * k + 0 + 0 ≤ 600000 by omega, show 3555 + 129 * k + 0 + 0 ≤ 7302250 by omega⟩ rfl (Ri_kk (fun r2 u2 h2 => ?_))
  obtain ⟨er2, hM2⟩ := h2
  subst er2
  refine V.perm (ws' := MW G o5 a5 u2 ++ DWd G o a f ua ub RU u1.1 u1.2) List.perm_append_comm ?_
  refine v_icmp_eq (pc := 854) (tgt := 859) C dL_law_854 (by decide) (fun _ => ?_) (fun q => absurd rfl q)
  refine V.wide (k := 73 + 7 * (k + 1)) (n := 3555 + 129 * (k + 1)) (by omega) (by omega) ?_
  exact back u1.1 u1.2 u2 (by rw [eA1]; exact hI) hC1 (by rw [eA1]; exact hM2)
end LC
