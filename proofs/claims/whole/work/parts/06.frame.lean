/-! FRAME: V, a method's walk as one judgement over locals, stack and world; CT, the form of every contract; a row an instruction -/
abbrev TG : Type := Launch × va_G × (Nat → ClassId)
abbrev gl (G : TG) : Launch := G.1
abbrev gD (G : TG) : va_G := G.2.1
abbrev gy (G : TG) : Nat → ClassId := G.2.2
abbrev TX : Type := Program × Env × State × MethodId × Array Value × List Frame × Method × Code × (Nat → Prop)
abbrev xp (X : TX) : Program := X.1
abbrev xe (X : TX) : Env := X.2.1
abbrev xs (X : TX) : State := X.2.2.1
abbrev xm (X : TX) : MethodId := X.2.2.2.1
abbrev xa (X : TX) : Array Value := X.2.2.2.2.1
abbrev xb (X : TX) : List Frame := X.2.2.2.2.2.1
abbrev xt (X : TX) : Method := X.2.2.2.2.2.2.1
abbrev xc (X : TX) : Code := X.2.2.2.2.2.2.2.1
abbrev xA (X : TX) : Nat → Prop := X.2.2.2.2.2.2.2.2
/-- the array classes: int, long, boolean, Program, Question, Pupil -/
def tysOf (cy : Nat → ClassId) : List (ClassId × FieldType) := [(cy 0, .int), (cy 1, .long), (cy 2, .boolean), (cy 3, .object "CodeQuiz$Program"), (cy 4, .object "CodeQuiz$Question"), (cy 5, .object "CodeQuiz$Pupil")]
def isNest : Cond → Bool
  | .fieldLinkNest .. => true
  | .methodLinkNest .. => true
  | _ => false
theorem nestL_is : ∀ w ∈ nestL, isNest w = true := List.all_eq_true.mp (by decide +kernel)
theorem nest_warm {w : Cond} (hn : isNest w = true) {s U : State} (hW : s.WarmedH U.vm) (h : va_Nw w s) : va_Nw w U := by
  cases w <;> first | exact va_Nw.warmF hW h | exact va_Nw.warmM hW h | (simp [isNest] at hn)
theorem nest_on {w : Cond} (hn : isNest w = true) : w.onTables = true := by
  cases w <;> first | rfl | (simp [isNest] at hn)
/-- what the tables say at every method's start -/
def KK (G : TG) (U : State) : Prop := va_K (gD G) vwCl (tysOf (gy G)) U ∧ (∀ w ∈ nestL, va_Nw w U) ∧ va_AO "CodeQuiz$Program" U ∧ va_AO "CodeQuiz$Question" U ∧ va_AO "CodeQuiz$Pupil" U
theorem KK.warm {G : TG} {s U : State} (hW : s.WarmedH U.vm) (h : KK G s) : KK G U :=
  ⟨va_K.moved hW.alike h.1, fun w hw => nest_warm (nestL_is w hw) hW (h.2.1 w hw), h.2.2.1.moved hW.alike, h.2.2.2.1.moved hW.alike, h.2.2.2.2.moved hW.alike⟩
theorem KK.calling {G : TG} {U : State} {g : JFrame} {mk : MethodId} {a : Array Value} (h : KK G U) : KK G (U.calling g mk a) :=
  ⟨va_K.moved (u := U) (U := U.calling g mk a) (Vm.Alike.refl U.vm) h.1, fun w hw => va_Nw.same (u := U) (U := U.calling g mk a) (nest_on (nestL_is w hw)) rfl (h.2.1 w hw), va_AO.moved (u := U) (U := U.calling g mk a) (Vm.Alike.refl U.vm) h.2.2.1, va_AO.moved (u := U) (U := U.calling g mk a) (Vm.Alike.refl U.vm) h.2.2.2.1, va_AO.moved (u := U) (U := U.calling g mk a) (Vm.Alike.refl U.vm) h.2.2.2.2⟩
/-- locals as a function -/
def lvf (ls : Array Slot) (nL : Nat) (lv : Nat → Option Value) : Prop := ls.size = nL ∧ lv_wf ls ∧ ∀ (i : Nat) (v : Value), lv i = some v → ls[i]? = some (.val v)
def lvo : List (Nat × Value) → Nat → Option Value
  | [], _ => none
  | q :: t, i => if i = q.1 then some q.2 else lvo t i
theorem lvo_mem {l : List (Nat × Value)} {i : Nat} {v : Value} (h : lvo l i = some v) : (i, v) ∈ l := by
  induction l with
  | nil => simp [lvo] at h
  | cons q t ih =>
    unfold lvo at h
    by_cases hi : i = q.1
    · rw [if_pos hi] at h
      cases h
      subst hi
      exact List.mem_cons_self
    · rw [if_neg hi] at h
      exact List.mem_cons_of_mem _ (ih h)
theorem lvf_of {ls : Array Slot} {nL : Nat} {l : List (Nat × Value)} (h : lv_has ls nL l) : lvf ls nL (lvo l) := ⟨h.1, h.2.1, fun _ _ hv => h.2.2 _ (lvo_mem hv)⟩
/-- storing one slot, two slots -/
def s1 (lv : Nat → Option Value) (i : Nat) (v : Value) : Nat → Option Value := fun j => if j = i then some v else if j + 1 = i then (match lv j with | some u => if u.category = 2 then none else some u | none => none) else lv j
def s2 (lv : Nat → Option Value) (i : Nat) (v : Value) : Nat → Option Value := fun j => if j = i then some v else if j = i + 1 then none else if j + 1 = i then (match lv j with | some u => if u.category = 2 then none else some u | none => none) else lv j
def lvl (lv : Nat → Option Value) (nL : Nat) : List (Nat × Value) := (List.range nL).filterMap (fun i => (lv i).map (fun v => (i, v)))
theorem lvl_mem {lv : Nat → Option Value} {nL i : Nat} {v : Value} (h : i < nL) (hv : lv i = some v) : (i, v) ∈ lvl lv nL := List.mem_filterMap.mpr ⟨i, List.mem_range.mpr h, by rw [hv]; rfl⟩
theorem lvl_has {ls : Array Slot} {nL : Nat} {lv : Nat → Option Value} (h : lvf ls nL lv) : lv_has ls nL (lvl lv nL) := by
  refine ⟨h.1, h.2.1, fun q hq => ?_⟩
  obtain ⟨i, -, hi⟩ := List.mem_filterMap.mp hq
  cases hl : lv i with
  | none => rw [hl] at hi; cases hi
  | some v => rw [hl] at hi; cases hi; exact h.2.2 i v hl
theorem lvf.lt {ls : Array Slot} {nL i : Nat} {lv : Nat → Option Value} {v : Value} (h : lvf ls nL lv) (hv : lv i = some v) : i < nL := by
  rw [← h.1]; exact lv_lt (h.2.2 i v hv)
theorem lvf.s1 {ls ls' : Array Slot} {nL i : Nat} {lv : Nat → Option Value} {v : Value} (h : lvf ls nL lv) (h' : lv_has ls' nL ((i, v) :: (lvl lv nL).filter (fun q => !(q.1 == i) && !(q.1 + 1 == i && q.2.category == 2)))) : lvf ls' nL (s1 lv i v) := by
  refine ⟨h'.1, h'.2.1, fun j u hu => ?_⟩
  unfold Jvm.Pilot.CCodeQuizLaw_law_r6943_62e6b7.s1 at hu
  by_cases h1 : j = i
  · rw [if_pos h1] at hu
    cases hu
    subst h1
    exact h'.2.2 (j, v) List.mem_cons_self
  · rw [if_neg h1] at hu
    by_cases h2 : j + 1 = i
    · rw [if_pos h2] at hu
      cases hl : lv j with
      | none => rw [hl] at hu; cases hu
      | some u' =>
        rw [hl] at hu
        by_cases h3 : u'.category = 2
        · simp [h3] at hu
        · simp [h3] at hu
          subst hu
          refine h'.2.2 (j, u') (List.mem_cons_of_mem _ (List.mem_filter.mpr ⟨lvl_mem (h.lt hl) hl, ?_⟩))
          simp [h1, h3]
    · rw [if_neg h2] at hu
      refine h'.2.2 (j, u) (List.mem_cons_of_mem _ (List.mem_filter.mpr ⟨lvl_mem (h.lt hu) hu, ?_⟩))
      simp [h1, h2]
theorem lvf.s2 {ls ls' : Array Slot} {nL i : Nat} {lv : Nat → Option Value} {v : Value} (h : lvf ls nL lv) (h' : lv_has ls' nL ((i, v) :: (lvl lv nL).filter (fun q => !(q.1 == i) && (!(q.1 == i + 1) && !(q.1 + 1 == i && q.2.category == 2))))) : lvf ls' nL (s2 lv i v) := by
  refine ⟨h'.1, h'.2.1, fun j u hu => ?_⟩
  unfold Jvm.Pilot.CCodeQuizLaw_law_r6943_62e6b7.s2 at hu
  by_cases h1 : j = i
  · rw [if_pos h1] at hu
    cases hu
    subst h1
    exact h'.2.2 (j, v) List.mem_cons_self
  · rw [if_neg h1] at hu
    by_cases h4 : j = i + 1
    · rw [if_pos h4] at hu
      cases hu
    · rw [if_neg h4] at hu
      by_cases h2 : j + 1 = i
      · rw [if_pos h2] at hu
        cases hl : lv j with
        | none => rw [hl] at hu; cases hu
        | some u' =>
          rw [hl] at hu
          by_cases h3 : u'.category = 2
          · simp [h3] at hu
          · simp [h3] at hu
            subst hu
            refine h'.2.2 (j, u') (List.mem_cons_of_mem _ (List.mem_filter.mpr ⟨lvl_mem (h.lt hl) hl, ?_⟩))
            simp [h1, h3, h4]
      · rw [if_neg h2] at hu
        refine h'.2.2 (j, u) (List.mem_cons_of_mem _ (List.mem_filter.mpr ⟨lvl_mem (h.lt hu) hu, ?_⟩))
        simp [h1, h2, h4]
/-- fewer locals: each listed one is held -/
def lvsub (lv : Nat → Option Value) : List (Nat × Value) → Prop
  | [] => True
  | q :: t => lv q.1 = some q.2 ∧ lvsub lv t
theorem lvsub_mem {lv : Nat → Option Value} {l : List (Nat × Value)} (h : lvsub lv l) : ∀ q ∈ l, lv q.1 = some q.2 := by
  induction l with
  | nil => intro q hq; cases hq
  | cons a t ih =>
    intro q hq
    rcases List.mem_cons.mp hq with rfl | hq
    · exact h.1
    · exact ih h.2 q hq
/-- the walk -/
def V (G : TG) (X : TX) (cc : ByteArray) (nL : Nat) (R : Room) (Q : State → Prop) (cells slots pc : Nat) (lv : Nat → Option Value) (st : List Value) (ws : va_W) : Prop :=
  ∀ (H : Heap) (locs : List Loc) (ls : Array Slot), lvf ls nL lv → va_P (gD G) vwCl ws H → va_D (xA X) ws → va_S (xA X) (xs X).heap H locs → W (xp X) (gl G) (xe X) R (xs X) (xm X) (xa X) (xb X) (xt X) (xc X) H locs cells slots Q (F0 (xm X) pc ls st)
def OK (G : TG) (X : TX) (cc : ByteArray) (own : String) (nL : Nat) (ret : Option FieldType) : Prop :=
  (xp X).tables.exec = Jvm.exec ∧ (xc X).code = cc ∧ (∀ w ∈ W0, w.before (xa X) (xs X) = true) ∧ KK G (xs X) ∧ (xs X).vm.findClass own = some (xm X).cls ∧ (xc X).maxLocals = nL ∧ (xt X).locks = false ∧ (∀ q : Nat, (xs X).heap.size ≤ q → (xA X) q) ∧ (xt X).sig.returnType = ret
/-- a contract's end, its form -/
def QC {S : Type} (D : va_G) (A : Nat → Prop) (w : S → va_W) (post : Option Value → S → Prop) : Array Value → State → Outcome → State → Prop := fun _ st oc t => (∃ (v : Option Value) (u : S), oc = .returned v ∧ post v u ∧ va_P D vwCl (w u) t.heap ∧ va_D A (w u)) ∧ va_F A st t
def CT (G : TG) (y : MethodName) (cc : ByteArray) (nL : Nat) (ret : Option FieldType) (rm : Room) (mc ms : Nat) (av : List Value) (ws : va_W) {S : Type} (w : S → va_W) (post : Option Value → S → Prop) : Prop :=
  ∀ sz : Nat, Met (gl G) y (.code y cc nL ret :: W0) rm (va_Pc av (fun U => U.heap.size = sz ∧ va_P (gD G) vwCl ws U.heap ∧ KK G U ∧ va_D (fun _ => True) ws)) (QC (gD G) (va_A ws sz) w post) mc ms (va_A ws sz)
def QX (G : TG) (X : TX) {S : Type} (w : S → va_W) (post : Option Value → S → Prop) (mc ms : Nat) : State → Prop := MQ (xb X) (QC (gD G) (xA X) w post) (xa X) (xs X) mc ms (xA X)
def Ri {S : Type} (f : Int32 → S → Prop) : Option Value → S → Prop := fun v u => ∃ r : Int32, v = some (.int r) ∧ f r u
def Rl {S : Type} (f : Int64 → S → Prop) : Option Value → S → Prop := fun v u => ∃ r : Int64, v = some (.long r) ∧ f r u
def Rv {S : Type} (f : S → Prop) : Option Value → S → Prop := fun v u => v = none ∧ f u
def Rq {S : Type} (f : Option Nat → S → Prop) : Option Value → S → Prop := fun v u => ∃ r : Option Nat, v = some (va_rf r) ∧ f r u
theorem CT.enter {G : TG} {y : MethodName} {cc : ByteArray} {nL : Nat} {ret : Option FieldType} {rm : Room} {mc ms : Nat} {av : List Value} {ws : va_W} {S : Type} {w : S → va_W} {post : Option Value → S → Prop} (hy : plainName y.cls = true) (ha : (lg_sl av).length ≤ nL)
    (body : ∀ X : TX, OK G X cc y.cls nL ret → (xt X).name = y.name → V G X cc nL rm (QX G X w post mc ms) 0 0 0 (lvo (lv_args 0 av)) [] ws) : CT G y cc nL ret rm mc ms av ws w post := by
  intro sz
  refine Met.ofW (cc := cc) (maxL := nL) (ret := ret) hy rfl ?_
  intro p e s m args below meth c s₁ B hml hv
  obtain ⟨rfl, hsz, hP, hK, hD0⟩ := hv
  subst hsz
  have hD := hD0.self (sz := s.heap.size)
  have hts := atoms_spec (ws := .code y cc nL ret :: W0) B.pre
  have hl := lv_entry av (n := nL) ha
  rw [lg_entry_eq]
  exact body (p, e, s, m, av.toArray, below, meth, c, va_A ws s.heap.size) ⟨B.exec, B.bytes, fun w hw => hts w (List.mem_cons_of_mem _ hw), hK, findClass_of_methodNamed B.named, hml, B.notSynchronized, fun q h => Or.inr h, B.returns⟩ (name_of_methodNamed B.named B.method).1 s.heap [] _ (lvf_of hl) hP hD va_S.rf
section VR
variable {G : TG} {X : TX} {cc : ByteArray} {own : String} {nL : Nat} {ret : Option FieldType} {R : Room} {Q : State → Prop} {cells slots pc : Nat} {lv : Nat → Option Value} {st : List Value} {ws : va_W}
theorem V.same {ws' : va_W} (h : ws = ws') (kk : V G X cc nL R Q cells slots pc lv st ws') : V G X cc nL R Q cells slots pc lv st ws := h ▸ kk
theorem V.perm {ws' : va_W} (h : ws.Perm ws') (kk : V G X cc nL R Q cells slots pc lv st ws') : V G X cc nL R Q cells slots pc lv st ws := by
  intro H locs ls hl hP hD hS
  refine kk H locs ls hl (fun k q hk => ?_) ⟨?_, fun k q hk => ?_⟩ hS
  · obtain ⟨i, hi⟩ := List.getElem?_of_mem (h.mem_iff.mpr (List.mem_of_getElem? hk))
    exact hP i q hi
  · have hn : (ws.map (fun q => q.1)).Nodup := by
      refine List.pairwise_iff_getElem.mpr (fun i j hi hj hij he => ?_)
      rw [List.length_map] at hi hj
      rw [List.getElem_map, List.getElem_map] at he
      have := hD.1 i j _ _ (List.getElem?_eq_getElem hi) (List.getElem?_eq_getElem hj) he
      omega
    have hn' : (ws'.map (fun q => q.1)).Nodup := ((h.map (fun q => q.1)).nodup_iff).mp hn
    have hn2 := List.pairwise_iff_getElem.mp hn'
    intro i j a b ha hb hab
    obtain ⟨hi, ha⟩ := List.getElem?_eq_some_iff.mp ha
    obtain ⟨hj, hb⟩ := List.getElem?_eq_some_iff.mp hb
    rcases Nat.lt_trichotomy i j with h1 | h1 | h1
    · exact absurd (by rw [List.getElem_map, List.getElem_map, ha, hb]; exact hab) (hn2 i j (by rw [List.length_map]; exact hi) (by rw [List.length_map]; exact hj) h1)
    · exact h1
    · exact absurd (by rw [List.getElem_map, List.getElem_map, ha, hb]; exact hab.symm) (hn2 j i (by rw [List.length_map]; exact hj) (by rw [List.length_map]; exact hi) h1)
  · obtain ⟨i, hi⟩ := List.getElem?_of_mem (h.mem_iff.mpr (List.mem_of_getElem? hk))
    exact hD.2 i q hi
theorem V.less (l : List (Nat × Value)) (h : lvsub lv l) (kk : V G X cc nL R Q cells slots pc (lvo l) st ws) : V G X cc nL R Q cells slots pc lv st ws :=
  fun H locs ls hl hP hD hS => kk H locs ls ⟨hl.1, hl.2.1, fun _ _ hv => hl.2.2 _ _ (lvsub_mem h _ (lvo_mem hv))⟩ hP hD hS
theorem V.wide {k n : Nat} (h1 : cells ≤ k) (h2 : slots ≤ n) (kk : V G X cc nL R Q k n pc lv st ws) : V G X cc nL R Q cells slots pc lv st ws :=
  fun H locs ls hl hP hD hS => W.widen h1 h2 (kk H locs ls hl hP hD hS)
theorem v_cv {x y : Int32} (h : x = y) (kk : V G X cc nL R Q cells slots pc lv (.int y :: st) ws) : V G X cc nL R Q cells slots pc lv (.int x :: st) ws := h ▸ kk
theorem v_cv2 {x y : Int32} {z : Value} (h : x = y) (kk : V G X cc nL R Q cells slots pc lv (z :: .int y :: st) ws) : V G X cc nL R Q cells slots pc lv (z :: .int x :: st) ws := h ▸ kk
theorem v_cvl {x y : Int64} (h : x = y) (kk : V G X cc nL R Q cells slots pc lv (.long y :: st) ws) : V G X cc nL R Q cells slots pc lv (.long x :: st) ws := h ▸ kk
theorem v_st {st' : List Value} (h : st = st') (kk : V G X cc nL R Q cells slots pc lv st' ws) : V G X cc nL R Q cells slots pc lv st ws := h ▸ kk
theorem v_iconst (C : OK G X cc own nL ret) {n : Int} {v : Int32} (hd : decode cc pc = .ok (.iconst n, 1)) (hv : Int32.ofInt n = v) (kk : V G X cc nL R Q cells slots (pc + 1) lv (.int v :: st) ws) : V G X cc nL R Q cells slots pc lv (st) ws := fun H locs ls hl hP hD hS => lv_iconst C.1 C.2.1 hd hv (kk H locs ls hl hP hD hS)
theorem v_bipush (C : OK G X cc own nL ret) {n : Int} {v : Int32} (hd : decode cc pc = .ok (.bipush n, 2)) (hv : (Int8.ofInt n).toInt32 = v) (kk : V G X cc nL R Q cells slots (pc + 2) lv (.int v :: st) ws) : V G X cc nL R Q cells slots pc lv (st) ws := fun H locs ls hl hP hD hS => lv_bipush C.1 C.2.1 hd hv (kk H locs ls hl hP hD hS)
theorem v_sipush (C : OK G X cc own nL ret) {n : Int} {v : Int32} (hd : decode cc pc = .ok (.sipush n, 3)) (hv : (Int16.ofInt n).toInt32 = v) (kk : V G X cc nL R Q cells slots (pc + 3) lv (.int v :: st) ws) : V G X cc nL R Q cells slots pc lv (st) ws := fun H locs ls hl hP hD hS => lv_sipush C.1 C.2.1 hd hv (kk H locs ls hl hP hD hS)
theorem v_lconst (C : OK G X cc own nL ret) {n : Fin 2} {v : Int64} (hd : decode cc pc = .ok (.lconst n, 1)) (hv : Int64.ofNat (n : Nat) = v) (kk : V G X cc nL R Q cells slots (pc + 1) lv (.long v :: st) ws) : V G X cc nL R Q cells slots pc lv (st) ws := fun H locs ls hl hP hD hS => lv_lconst C.1 C.2.1 hd hv (kk H locs ls hl hP hD hS)
theorem v_null (C : OK G X cc own nL ret) (hd : decode cc pc = .ok (.aconst_null, 1)) (kk : V G X cc nL R Q cells slots (pc + 1) lv (.null :: st) ws) : V G X cc nL R Q cells slots pc lv (st) ws := fun H locs ls hl hP hD hS => lv_null C.1 C.2.1 hd (kk H locs ls hl hP hD hS)
theorem v_ldc (C : OK G X cc own nL ret) {i : Nat} {v : Int32} (hd : decode cc pc = .ok (.ldc i, 2)) (k : Cond.constant own i v ∈ W0) (kk : V G X cc nL R Q cells slots (pc + 2) lv (.int v :: st) ws) : V G X cc nL R Q cells slots pc lv (st) ws := fun H locs ls hl hP hD hS => lv_ldc C.1 C.2.1 C.2.2.2.2.1 (C.2.2.1 _ k) hd (kk H locs ls hl hP hD hS)
theorem v_ldc2 (C : OK G X cc own nL ret) {i : Nat} {v : Int64} (hd : decode cc pc = .ok (.ldc2_w i, 3)) (k : Cond.constantLong own i v ∈ W0) (kk : V G X cc nL R Q cells slots (pc + 3) lv (.long v :: st) ws) : V G X cc nL R Q cells slots pc lv (st) ws := fun H locs ls hl hP hD hS => lv_ldc2 C.1 C.2.1 C.2.2.2.2.1 (C.2.2.1 _ k) hd (kk H locs ls hl hP hD hS)
theorem v_ldcw (C : OK G X cc own nL ret) {i : Nat} {v : Int32} (hd : decode cc pc = .ok (.ldc_w i, 3)) (k : Cond.constant own i v ∈ W0) (kk : V G X cc nL R Q cells slots (pc + 3) lv (.int v :: st) ws) : V G X cc nL R Q cells slots pc lv (st) ws := fun H locs ls hl hP hD hS => lv_ldcw C.1 C.2.1 C.2.2.2.2.1 (C.2.2.1 _ k) hd (kk H locs ls hl hP hD hS)
theorem v_iload_n (C : OK G X cc own nL ret) {k : Fin 4} {x : Int32} (hd : decode cc pc = .ok (.iload_n k, 1)) (h : lv (k : Nat) = some (.int x)) (kk : V G X cc nL R Q cells slots (pc + 1) lv (.int x :: st) ws) : V G X cc nL R Q cells slots pc lv (st) ws := fun H locs ls hl hP hD hS => lv_iload_n C.1 C.2.1 hd rfl (hl.2.2 _ _ h) (kk H locs ls hl hP hD hS)
theorem v_iload (C : OK G X cc own nL ret) {i : Nat} {x : Int32} (hd : decode cc pc = .ok (.iload i, 2)) (h : lv i = some (.int x)) (kk : V G X cc nL R Q cells slots (pc + 2) lv (.int x :: st) ws) : V G X cc nL R Q cells slots pc lv (st) ws := fun H locs ls hl hP hD hS => lv_iload C.1 C.2.1 hd (hl.2.2 _ _ h) (kk H locs ls hl hP hD hS)
theorem v_istore_n (C : OK G X cc own nL ret) {k : Fin 4} {x : Int32} (hd : decode cc pc = .ok (.istore_n k, 1)) (h : (k : Nat) < nL) (kk : V G X cc nL R Q cells slots (pc + 1) (s1 lv (k : Nat) (.int x)) (st) ws) : V G X cc nL R Q cells slots pc lv (.int x :: st) ws := fun H locs ls hl hP hD hS => lv_istore_n (lv := lvl lv nL) C.1 C.2.1 hd rfl (lvl_has hl) h rfl (fun ls' hl' => kk H locs ls' (hl.s1 hl') hP hD hS)
theorem v_istore (C : OK G X cc own nL ret) {i : Nat} {x : Int32} (hd : decode cc pc = .ok (.istore i, 2)) (h : i < nL) (kk : V G X cc nL R Q cells slots (pc + 2) (s1 lv i (.int x)) (st) ws) : V G X cc nL R Q cells slots pc lv (.int x :: st) ws := fun H locs ls hl hP hD hS => lv_istore (lv := lvl lv nL) C.1 C.2.1 hd (lvl_has hl) h rfl (fun ls' hl' => kk H locs ls' (hl.s1 hl') hP hD hS)
theorem v_lload_n (C : OK G X cc own nL ret) {k : Fin 4} {x : Int64} (hd : decode cc pc = .ok (.lload_n k, 1)) (h : lv (k : Nat) = some (.long x)) (kk : V G X cc nL R Q cells slots (pc + 1) lv (.long x :: st) ws) : V G X cc nL R Q cells slots pc lv (st) ws := fun H locs ls hl hP hD hS => lv_lload_n C.1 C.2.1 hd rfl (hl.2.2 _ _ h) (kk H locs ls hl hP hD hS)
theorem v_lload (C : OK G X cc own nL ret) {i : Nat} {x : Int64} (hd : decode cc pc = .ok (.lload i, 2)) (h : lv i = some (.long x)) (kk : V G X cc nL R Q cells slots (pc + 2) lv (.long x :: st) ws) : V G X cc nL R Q cells slots pc lv (st) ws := fun H locs ls hl hP hD hS => lv_lload C.1 C.2.1 hd (hl.2.2 _ _ h) (kk H locs ls hl hP hD hS)
theorem v_lstore_n (C : OK G X cc own nL ret) {k : Fin 4} {x : Int64} (hd : decode cc pc = .ok (.lstore_n k, 1)) (h : (k : Nat) + 1 < nL) (kk : V G X cc nL R Q cells slots (pc + 1) (s2 lv (k : Nat) (.long x)) (st) ws) : V G X cc nL R Q cells slots pc lv (.long x :: st) ws := fun H locs ls hl hP hD hS => lv_lstore_n (lv := lvl lv nL) C.1 C.2.1 hd rfl (lvl_has hl) h rfl (fun ls' hl' => kk H locs ls' (hl.s2 hl') hP hD hS)
theorem v_lstore (C : OK G X cc own nL ret) {i : Nat} {x : Int64} (hd : decode cc pc = .ok (.lstore i, 2)) (h : i + 1 < nL) (kk : V G X cc nL R Q cells slots (pc + 2) (s2 lv i (.long x)) (st) ws) : V G X cc nL R Q cells slots pc lv (.long x :: st) ws := fun H locs ls hl hP hD hS => lv_lstore (lv := lvl lv nL) C.1 C.2.1 hd (lvl_has hl) h rfl (fun ls' hl' => kk H locs ls' (hl.s2 hl') hP hD hS)
theorem v_aload_n (C : OK G X cc own nL ret) {k : Fin 4} {x : Nat} (hd : decode cc pc = .ok (.aload_n k, 1)) (h : lv (k : Nat) = some (.ref x)) (kk : V G X cc nL R Q cells slots (pc + 1) lv (.ref x :: st) ws) : V G X cc nL R Q cells slots pc lv (st) ws := fun H locs ls hl hP hD hS => lv_aload_n C.1 C.2.1 hd rfl (hl.2.2 _ _ h) (kk H locs ls hl hP hD hS)
theorem v_aload (C : OK G X cc own nL ret) {i : Nat} {x : Nat} (hd : decode cc pc = .ok (.aload i, 2)) (h : lv i = some (.ref x)) (kk : V G X cc nL R Q cells slots (pc + 2) lv (.ref x :: st) ws) : V G X cc nL R Q cells slots pc lv (st) ws := fun H locs ls hl hP hD hS => lv_aload C.1 C.2.1 hd (hl.2.2 _ _ h) (kk H locs ls hl hP hD hS)
theorem v_astore_n (C : OK G X cc own nL ret) {k : Fin 4} {x : Nat} (hd : decode cc pc = .ok (.astore_n k, 1)) (h : (k : Nat) < nL) (kk : V G X cc nL R Q cells slots (pc + 1) (s1 lv (k : Nat) (.ref x)) (st) ws) : V G X cc nL R Q cells slots pc lv (.ref x :: st) ws := fun H locs ls hl hP hD hS => lv_astore_n (lv := lvl lv nL) C.1 C.2.1 hd rfl (lvl_has hl) h rfl (fun ls' hl' => kk H locs ls' (hl.s1 hl') hP hD hS)
theorem v_astore (C : OK G X cc own nL ret) {i : Nat} {x : Nat} (hd : decode cc pc = .ok (.astore i, 2)) (h : i < nL) (kk : V G X cc nL R Q cells slots (pc + 2) (s1 lv i (.ref x)) (st) ws) : V G X cc nL R Q cells slots pc lv (.ref x :: st) ws := fun H locs ls hl hP hD hS => lv_astore (lv := lvl lv nL) C.1 C.2.1 hd (lvl_has hl) h rfl (fun ls' hl' => kk H locs ls' (hl.s1 hl') hP hD hS)
theorem v_aload_nN (C : OK G X cc own nL ret) {k : Fin 4} (hd : decode cc pc = .ok (.aload_n k, 1)) (h : lv (k : Nat) = some .null) (kk : V G X cc nL R Q cells slots (pc + 1) lv (.null :: st) ws) : V G X cc nL R Q cells slots pc lv (st) ws := fun H locs ls hl hP hD hS => lv_aload_nN C.1 C.2.1 hd rfl (hl.2.2 _ _ h) (kk H locs ls hl hP hD hS)
theorem v_aloadN (C : OK G X cc own nL ret) {i : Nat} (hd : decode cc pc = .ok (.aload i, 2)) (h : lv i = some .null) (kk : V G X cc nL R Q cells slots (pc + 2) lv (.null :: st) ws) : V G X cc nL R Q cells slots pc lv (st) ws := fun H locs ls hl hP hD hS => lv_aloadN C.1 C.2.1 hd (hl.2.2 _ _ h) (kk H locs ls hl hP hD hS)
theorem v_astore_nN (C : OK G X cc own nL ret) {k : Fin 4} (hd : decode cc pc = .ok (.astore_n k, 1)) (h : (k : Nat) < nL) (kk : V G X cc nL R Q cells slots (pc + 1) (s1 lv (k : Nat) .null) (st) ws) : V G X cc nL R Q cells slots pc lv (.null :: st) ws := fun H locs ls hl hP hD hS => lv_astore_nN (lv := lvl lv nL) C.1 C.2.1 hd rfl (lvl_has hl) h rfl (fun ls' hl' => kk H locs ls' (hl.s1 hl') hP hD hS)
theorem v_astoreN (C : OK G X cc own nL ret) {i : Nat} (hd : decode cc pc = .ok (.astore i, 2)) (h : i < nL) (kk : V G X cc nL R Q cells slots (pc + 2) (s1 lv i .null) (st) ws) : V G X cc nL R Q cells slots pc lv (.null :: st) ws := fun H locs ls hl hP hD hS => lv_astoreN (lv := lvl lv nL) C.1 C.2.1 hd (lvl_has hl) h rfl (fun ls' hl' => kk H locs ls' (hl.s1 hl') hP hD hS)
theorem v_iinc (C : OK G X cc own nL ret) {i : Nat} {n : Int} {x v : Int32} (hd : decode cc pc = .ok (.iinc i n, 3)) (h : lv i = some (.int x)) (hv : x + Int32.ofInt n = v) (kk : V G X cc nL R Q cells slots (pc + 3) (s1 lv i (.int v)) st ws) : V G X cc nL R Q cells slots pc lv st ws := by
  intro H locs ls hl hP hD hS
  obtain ⟨k, hk⟩ := List.getElem?_of_mem (lvl_mem (hl.lt h) h)
  exact lv_iinc (lv := lvl lv nL) C.1 C.2.1 hd (lvl_has hl) hk hv (hl.lt h) rfl (fun ls' hl' => kk H locs ls' (hl.s1 hl') hP hD hS)
theorem v_iadd (C : OK G X cc own nL ret) {x y : Int32} (hd : decode cc pc = .ok (.iadd, 1)) (kk : V G X cc nL R Q cells slots (pc + 1) lv (.int (x + y) :: st) ws) : V G X cc nL R Q cells slots pc lv (.int y :: .int x :: st) ws := fun H locs ls hl hP hD hS => lv_iadd C.1 C.2.1 hd (kk H locs ls hl hP hD hS)
theorem v_isub (C : OK G X cc own nL ret) {x y : Int32} (hd : decode cc pc = .ok (.isub, 1)) (kk : V G X cc nL R Q cells slots (pc + 1) lv (.int (x - y) :: st) ws) : V G X cc nL R Q cells slots pc lv (.int y :: .int x :: st) ws := fun H locs ls hl hP hD hS => lv_isub C.1 C.2.1 hd (kk H locs ls hl hP hD hS)
theorem v_imul (C : OK G X cc own nL ret) {x y : Int32} (hd : decode cc pc = .ok (.imul, 1)) (kk : V G X cc nL R Q cells slots (pc + 1) lv (.int (x * y) :: st) ws) : V G X cc nL R Q cells slots pc lv (.int y :: .int x :: st) ws := fun H locs ls hl hP hD hS => lv_imul C.1 C.2.1 hd (kk H locs ls hl hP hD hS)
theorem v_iand (C : OK G X cc own nL ret) {x y : Int32} (hd : decode cc pc = .ok (.iand, 1)) (kk : V G X cc nL R Q cells slots (pc + 1) lv (.int (x &&& y) :: st) ws) : V G X cc nL R Q cells slots pc lv (.int y :: .int x :: st) ws := fun H locs ls hl hP hD hS => lv_iand C.1 C.2.1 hd (kk H locs ls hl hP hD hS)
theorem v_ior (C : OK G X cc own nL ret) {x y : Int32} (hd : decode cc pc = .ok (.ior, 1)) (kk : V G X cc nL R Q cells slots (pc + 1) lv (.int (x ||| y) :: st) ws) : V G X cc nL R Q cells slots pc lv (.int y :: .int x :: st) ws := fun H locs ls hl hP hD hS => lv_ior C.1 C.2.1 hd (kk H locs ls hl hP hD hS)
theorem v_ishl (C : OK G X cc own nL ret) {x y : Int32} (hd : decode cc pc = .ok (.ishl, 1)) (kk : V G X cc nL R Q cells slots (pc + 1) lv (.int (x <<< (y &&& 31)) :: st) ws) : V G X cc nL R Q cells slots pc lv (.int y :: .int x :: st) ws := fun H locs ls hl hP hD hS => lv_ishl C.1 C.2.1 hd (kk H locs ls hl hP hD hS)
theorem v_ishr (C : OK G X cc own nL ret) {x y : Int32} (hd : decode cc pc = .ok (.ishr, 1)) (kk : V G X cc nL R Q cells slots (pc + 1) lv (.int (x >>> (y &&& 31)) :: st) ws) : V G X cc nL R Q cells slots pc lv (.int y :: .int x :: st) ws := fun H locs ls hl hP hD hS => lv_ishr C.1 C.2.1 hd (kk H locs ls hl hP hD hS)
theorem v_idiv (C : OK G X cc own nL ret) {x y : Int32} (hd : decode cc pc = .ok (.idiv, 1)) (h0 : ¬ y = 0) (kk : V G X cc nL R Q cells slots (pc + 1) lv (.int (x / y) :: st) ws) : V G X cc nL R Q cells slots pc lv (.int y :: .int x :: st) ws := fun H locs ls hl hP hD hS => lv_idiv C.1 C.2.1 hd h0 (kk H locs ls hl hP hD hS)
theorem v_irem (C : OK G X cc own nL ret) {x y : Int32} (hd : decode cc pc = .ok (.irem, 1)) (h0 : ¬ y = 0) (kk : V G X cc nL R Q cells slots (pc + 1) lv (.int (x - x / y * y) :: st) ws) : V G X cc nL R Q cells slots pc lv (.int y :: .int x :: st) ws := fun H locs ls hl hP hD hS => lv_irem C.1 C.2.1 hd h0 (kk H locs ls hl hP hD hS)
theorem v_ladd (C : OK G X cc own nL ret) {x y : Int64} (hd : decode cc pc = .ok (.ladd, 1)) (kk : V G X cc nL R Q cells slots (pc + 1) lv (.long (x + y) :: st) ws) : V G X cc nL R Q cells slots pc lv (.long y :: .long x :: st) ws := fun H locs ls hl hP hD hS => lv_ladd C.1 C.2.1 hd (kk H locs ls hl hP hD hS)
theorem v_lsub (C : OK G X cc own nL ret) {x y : Int64} (hd : decode cc pc = .ok (.lsub, 1)) (kk : V G X cc nL R Q cells slots (pc + 1) lv (.long (x - y) :: st) ws) : V G X cc nL R Q cells slots pc lv (.long y :: .long x :: st) ws := fun H locs ls hl hP hD hS => lv_lsub C.1 C.2.1 hd (kk H locs ls hl hP hD hS)
theorem v_land (C : OK G X cc own nL ret) {x y : Int64} (hd : decode cc pc = .ok (.land, 1)) (kk : V G X cc nL R Q cells slots (pc + 1) lv (.long (x &&& y) :: st) ws) : V G X cc nL R Q cells slots pc lv (.long y :: .long x :: st) ws := fun H locs ls hl hP hD hS => lv_land C.1 C.2.1 hd (kk H locs ls hl hP hD hS)
theorem v_lor (C : OK G X cc own nL ret) {x y : Int64} (hd : decode cc pc = .ok (.lor, 1)) (kk : V G X cc nL R Q cells slots (pc + 1) lv (.long (x ||| y) :: st) ws) : V G X cc nL R Q cells slots pc lv (.long y :: .long x :: st) ws := fun H locs ls hl hP hD hS => lv_lor C.1 C.2.1 hd (kk H locs ls hl hP hD hS)
theorem v_lxor (C : OK G X cc own nL ret) {x y : Int64} (hd : decode cc pc = .ok (.lxor, 1)) (kk : V G X cc nL R Q cells slots (pc + 1) lv (.long (x ^^^ y) :: st) ws) : V G X cc nL R Q cells slots pc lv (.long y :: .long x :: st) ws := fun H locs ls hl hP hD hS => lv_lxor C.1 C.2.1 hd (kk H locs ls hl hP hD hS)
theorem v_lshl (C : OK G X cc own nL ret) {x : Int64} {y : Int32} (hd : decode cc pc = .ok (.lshl, 1)) (kk : V G X cc nL R Q cells slots (pc + 1) lv (.long (x <<< (y.toInt64 &&& 63)) :: st) ws) : V G X cc nL R Q cells slots pc lv (.int y :: .long x :: st) ws := fun H locs ls hl hP hD hS => lv_lshl C.1 C.2.1 hd rfl (kk H locs ls hl hP hD hS)
theorem v_lshr (C : OK G X cc own nL ret) {x : Int64} {y : Int32} (hd : decode cc pc = .ok (.lshr, 1)) (kk : V G X cc nL R Q cells slots (pc + 1) lv (.long (x >>> (y.toInt64 &&& 63)) :: st) ws) : V G X cc nL R Q cells slots pc lv (.int y :: .long x :: st) ws := fun H locs ls hl hP hD hS => lv_lshr C.1 C.2.1 hd rfl (kk H locs ls hl hP hD hS)
theorem v_lushr (C : OK G X cc own nL ret) {x : Int64} {y : Int32} (hd : decode cc pc = .ok (.lushr, 1)) (kk : V G X cc nL R Q cells slots (pc + 1) lv (.long ((x.toUInt64 >>> (y.toInt64.toUInt64 &&& Int64.toUInt64 63)).toInt64) :: st) ws) : V G X cc nL R Q cells slots pc lv (.int y :: .long x :: st) ws := fun H locs ls hl hP hD hS => lv_lushr C.1 C.2.1 hd rfl (kk H locs ls hl hP hD hS)
theorem v_iushr (C : OK G X cc own nL ret) {x y : Int32} (hd : decode cc pc = .ok (.iushr, 1)) (kk : V G X cc nL R Q cells slots (pc + 1) lv (.int ((x.toUInt32 >>> (y.toUInt32 &&& Int32.toUInt32 31)).toInt32) :: st) ws) : V G X cc nL R Q cells slots pc lv (.int y :: .int x :: st) ws := fun H locs ls hl hP hD hS => lv_iushr C.1 C.2.1 hd rfl (kk H locs ls hl hP hD hS)
theorem v_i2l (C : OK G X cc own nL ret) {x : Int32} (hd : decode cc pc = .ok (.i2l, 1)) (kk : V G X cc nL R Q cells slots (pc + 1) lv (.long x.toInt64 :: st) ws) : V G X cc nL R Q cells slots pc lv (.int x :: st) ws := fun H locs ls hl hP hD hS => lv_i2l C.1 C.2.1 hd rfl (kk H locs ls hl hP hD hS)
theorem v_l2i (C : OK G X cc own nL ret) {x : Int64} (hd : decode cc pc = .ok (.l2i, 1)) (kk : V G X cc nL R Q cells slots (pc + 1) lv (.int x.toInt32 :: st) ws) : V G X cc nL R Q cells slots pc lv (.long x :: st) ws := fun H locs ls hl hP hD hS => lv_l2i C.1 C.2.1 hd rfl (kk H locs ls hl hP hD hS)
theorem v_lcmp (C : OK G X cc own nL ret) {x y : Int64} (hd : decode cc pc = .ok (.lcmp, 1)) (kk : V G X cc nL R Q cells slots (pc + 1) lv (.int (lg_cmp x y) :: st) ws) : V G X cc nL R Q cells slots pc lv (.long y :: .long x :: st) ws := fun H locs ls hl hP hD hS => W.lcmp C.1 C.2.1 hd (kk H locs ls hl hP hD hS)
theorem v_dup (C : OK G X cc own nL ret) {a : Value} (hd : decode cc pc = .ok (.dup, 1)) (h : a.category = 1) (kk : V G X cc nL R Q cells slots (pc + 1) lv (a :: a :: st) ws) : V G X cc nL R Q cells slots pc lv (a :: st) ws := fun H locs ls hl hP hD hS => lv_dup C.1 C.2.1 hd h (kk H locs ls hl hP hD hS)
theorem v_pop (C : OK G X cc own nL ret) {a : Value} (hd : decode cc pc = .ok (.pop, 1)) (h : a.category = 1) (kk : V G X cc nL R Q cells slots (pc + 1) lv (st) ws) : V G X cc nL R Q cells slots pc lv (a :: st) ws := fun H locs ls hl hP hD hS => lv_pop C.1 C.2.1 hd h (kk H locs ls hl hP hD hS)
theorem v_dup_x1 (C : OK G X cc own nL ret) {a b : Value} (hd : decode cc pc = .ok (.dup_x1, 1)) (h : a.category = 1) (h2 : b.category = 1) (kk : V G X cc nL R Q cells slots (pc + 1) lv (a :: b :: a :: st) ws) : V G X cc nL R Q cells slots pc lv (a :: b :: st) ws := fun H locs ls hl hP hD hS => lv_dup_x1 C.1 C.2.1 hd h h2 (kk H locs ls hl hP hD hS)
theorem v_dup2_11 (C : OK G X cc own nL ret) {a b : Value} (hd : decode cc pc = .ok (.dup2, 1)) (h : a.category = 1) (h2 : b.category = 1) (kk : V G X cc nL R Q cells slots (pc + 1) lv (a :: b :: a :: b :: st) ws) : V G X cc nL R Q cells slots pc lv (a :: b :: st) ws := fun H locs ls hl hP hD hS => lv_dup2_11 C.1 C.2.1 hd h h2 (kk H locs ls hl hP hD hS)
theorem v_dup2_2 (C : OK G X cc own nL ret) {a : Value} (hd : decode cc pc = .ok (.dup2, 1)) (h : a.category = 2) (kk : V G X cc nL R Q cells slots (pc + 1) lv (a :: a :: st) ws) : V G X cc nL R Q cells slots pc lv (a :: st) ws := fun H locs ls hl hP hD hS => lv_dup2_2 C.1 C.2.1 hd h (kk H locs ls hl hP hD hS)
theorem v_if_eq (C : OK G X cc own nL ret) {x : Int32} {off : Int} {tgt : Nat} (hd : decode cc pc = .ok (.ifCond .eq off, 3)) (ht : (pc : Int) + off = (tgt : Int)) (kt : x = 0 → V G X cc nL R Q cells slots tgt lv st ws) (kf : ¬ (x = 0) → V G X cc nL R Q cells slots (pc + 3) lv st ws) : V G X cc nL R Q cells slots pc lv (.int x :: st) ws := fun H locs ls hl hP hD hS => lv_if_eq C.1 C.2.1 hd ht (fun q => kt q H locs ls hl hP hD hS) (fun q => kf q H locs ls hl hP hD hS)
theorem v_icmp_eq (C : OK G X cc own nL ret) {x y : Int32} {off : Int} {tgt : Nat} (hd : decode cc pc = .ok (.if_icmp .eq off, 3)) (ht : (pc : Int) + off = (tgt : Int)) (kt : x = y → V G X cc nL R Q cells slots tgt lv st ws) (kf : ¬ (x = y) → V G X cc nL R Q cells slots (pc + 3) lv st ws) : V G X cc nL R Q cells slots pc lv (.int y :: .int x :: st) ws := fun H locs ls hl hP hD hS => lv_icmp_eq C.1 C.2.1 hd ht (fun q => kt q H locs ls hl hP hD hS) (fun q => kf q H locs ls hl hP hD hS)
theorem v_if_ne (C : OK G X cc own nL ret) {x : Int32} {off : Int} {tgt : Nat} (hd : decode cc pc = .ok (.ifCond .ne off, 3)) (ht : (pc : Int) + off = (tgt : Int)) (kt : ¬ x = 0 → V G X cc nL R Q cells slots tgt lv st ws) (kf : x = 0 → V G X cc nL R Q cells slots (pc + 3) lv st ws) : V G X cc nL R Q cells slots pc lv (.int x :: st) ws := fun H locs ls hl hP hD hS => lv_if_ne C.1 C.2.1 hd ht (fun q => kt q H locs ls hl hP hD hS) (fun q => kf q H locs ls hl hP hD hS)
theorem v_icmp_ne (C : OK G X cc own nL ret) {x y : Int32} {off : Int} {tgt : Nat} (hd : decode cc pc = .ok (.if_icmp .ne off, 3)) (ht : (pc : Int) + off = (tgt : Int)) (kt : ¬ x = y → V G X cc nL R Q cells slots tgt lv st ws) (kf : x = y → V G X cc nL R Q cells slots (pc + 3) lv st ws) : V G X cc nL R Q cells slots pc lv (.int y :: .int x :: st) ws := fun H locs ls hl hP hD hS => lv_icmp_ne C.1 C.2.1 hd ht (fun q => kt q H locs ls hl hP hD hS) (fun q => kf q H locs ls hl hP hD hS)
theorem v_if_lt (C : OK G X cc own nL ret) {x : Int32} {off : Int} {tgt : Nat} (hd : decode cc pc = .ok (.ifCond .lt off, 3)) (ht : (pc : Int) + off = (tgt : Int)) (kt : x < 0 → V G X cc nL R Q cells slots tgt lv st ws) (kf : ¬ (x < 0) → V G X cc nL R Q cells slots (pc + 3) lv st ws) : V G X cc nL R Q cells slots pc lv (.int x :: st) ws := fun H locs ls hl hP hD hS => lv_if_lt C.1 C.2.1 hd ht (fun q => kt q H locs ls hl hP hD hS) (fun q => kf q H locs ls hl hP hD hS)
theorem v_icmp_lt (C : OK G X cc own nL ret) {x y : Int32} {off : Int} {tgt : Nat} (hd : decode cc pc = .ok (.if_icmp .lt off, 3)) (ht : (pc : Int) + off = (tgt : Int)) (kt : x < y → V G X cc nL R Q cells slots tgt lv st ws) (kf : ¬ (x < y) → V G X cc nL R Q cells slots (pc + 3) lv st ws) : V G X cc nL R Q cells slots pc lv (.int y :: .int x :: st) ws := fun H locs ls hl hP hD hS => lv_icmp_lt C.1 C.2.1 hd ht (fun q => kt q H locs ls hl hP hD hS) (fun q => kf q H locs ls hl hP hD hS)
theorem v_if_ge (C : OK G X cc own nL ret) {x : Int32} {off : Int} {tgt : Nat} (hd : decode cc pc = .ok (.ifCond .ge off, 3)) (ht : (pc : Int) + off = (tgt : Int)) (kt : 0 ≤ x → V G X cc nL R Q cells slots tgt lv st ws) (kf : ¬ (0 ≤ x) → V G X cc nL R Q cells slots (pc + 3) lv st ws) : V G X cc nL R Q cells slots pc lv (.int x :: st) ws := fun H locs ls hl hP hD hS => lv_if_ge C.1 C.2.1 hd ht (fun q => kt q H locs ls hl hP hD hS) (fun q => kf q H locs ls hl hP hD hS)
theorem v_icmp_ge (C : OK G X cc own nL ret) {x y : Int32} {off : Int} {tgt : Nat} (hd : decode cc pc = .ok (.if_icmp .ge off, 3)) (ht : (pc : Int) + off = (tgt : Int)) (kt : y ≤ x → V G X cc nL R Q cells slots tgt lv st ws) (kf : ¬ (y ≤ x) → V G X cc nL R Q cells slots (pc + 3) lv st ws) : V G X cc nL R Q cells slots pc lv (.int y :: .int x :: st) ws := fun H locs ls hl hP hD hS => lv_icmp_ge C.1 C.2.1 hd ht (fun q => kt q H locs ls hl hP hD hS) (fun q => kf q H locs ls hl hP hD hS)
theorem v_if_gt (C : OK G X cc own nL ret) {x : Int32} {off : Int} {tgt : Nat} (hd : decode cc pc = .ok (.ifCond .gt off, 3)) (ht : (pc : Int) + off = (tgt : Int)) (kt : 0 < x → V G X cc nL R Q cells slots tgt lv st ws) (kf : ¬ (0 < x) → V G X cc nL R Q cells slots (pc + 3) lv st ws) : V G X cc nL R Q cells slots pc lv (.int x :: st) ws := fun H locs ls hl hP hD hS => lv_if_gt C.1 C.2.1 hd ht (fun q => kt q H locs ls hl hP hD hS) (fun q => kf q H locs ls hl hP hD hS)
theorem v_icmp_gt (C : OK G X cc own nL ret) {x y : Int32} {off : Int} {tgt : Nat} (hd : decode cc pc = .ok (.if_icmp .gt off, 3)) (ht : (pc : Int) + off = (tgt : Int)) (kt : y < x → V G X cc nL R Q cells slots tgt lv st ws) (kf : ¬ (y < x) → V G X cc nL R Q cells slots (pc + 3) lv st ws) : V G X cc nL R Q cells slots pc lv (.int y :: .int x :: st) ws := fun H locs ls hl hP hD hS => lv_icmp_gt C.1 C.2.1 hd ht (fun q => kt q H locs ls hl hP hD hS) (fun q => kf q H locs ls hl hP hD hS)
theorem v_if_le (C : OK G X cc own nL ret) {x : Int32} {off : Int} {tgt : Nat} (hd : decode cc pc = .ok (.ifCond .le off, 3)) (ht : (pc : Int) + off = (tgt : Int)) (kt : x ≤ 0 → V G X cc nL R Q cells slots tgt lv st ws) (kf : ¬ (x ≤ 0) → V G X cc nL R Q cells slots (pc + 3) lv st ws) : V G X cc nL R Q cells slots pc lv (.int x :: st) ws := fun H locs ls hl hP hD hS => lv_if_le C.1 C.2.1 hd ht (fun q => kt q H locs ls hl hP hD hS) (fun q => kf q H locs ls hl hP hD hS)
theorem v_icmp_le (C : OK G X cc own nL ret) {x y : Int32} {off : Int} {tgt : Nat} (hd : decode cc pc = .ok (.if_icmp .le off, 3)) (ht : (pc : Int) + off = (tgt : Int)) (kt : x ≤ y → V G X cc nL R Q cells slots tgt lv st ws) (kf : ¬ (x ≤ y) → V G X cc nL R Q cells slots (pc + 3) lv st ws) : V G X cc nL R Q cells slots pc lv (.int y :: .int x :: st) ws := fun H locs ls hl hP hD hS => lv_icmp_le C.1 C.2.1 hd ht (fun q => kt q H locs ls hl hP hD hS) (fun q => kf q H locs ls hl hP hD hS)
theorem v_goto (C : OK G X cc own nL ret) {off : Int} {tgt : Nat} (hd : decode cc pc = .ok (.goto off, 3)) (ht : (pc : Int) + off = (tgt : Int)) (kk : V G X cc nL R Q cells slots tgt lv st ws) : V G X cc nL R Q cells slots pc lv st ws := fun H locs ls hl hP hD hS => lv_goto C.1 C.2.1 hd ht (kk H locs ls hl hP hD hS)
theorem v_ifnull (C : OK G X cc own nL ret) {x : Nat} {off : Int} (hd : decode cc pc = .ok (.ifnull off, 3)) (kk : V G X cc nL R Q cells slots (pc + 3) lv st ws) : V G X cc nL R Q cells slots pc lv (.ref x :: st) ws := fun H locs ls hl hP hD hS => lv_ifnull C.1 C.2.1 hd (kk H locs ls hl hP hD hS)
theorem v_ifnullN (C : OK G X cc own nL ret) {off : Int} {tgt : Nat} (hd : decode cc pc = .ok (.ifnull off, 3)) (ht : (pc : Int) + off = (tgt : Int)) (kk : V G X cc nL R Q cells slots tgt lv st ws) : V G X cc nL R Q cells slots pc lv (.null :: st) ws := fun H locs ls hl hP hD hS => lv_ifnullN C.1 C.2.1 hd ht (kk H locs ls hl hP hD hS)
theorem v_ifnonnull (C : OK G X cc own nL ret) {x : Nat} {off : Int} {tgt : Nat} (hd : decode cc pc = .ok (.ifnonnull off, 3)) (ht : (pc : Int) + off = (tgt : Int)) (kk : V G X cc nL R Q cells slots tgt lv st ws) : V G X cc nL R Q cells slots pc lv (.ref x :: st) ws := fun H locs ls hl hP hD hS => lv_ifnonnull C.1 C.2.1 hd ht (kk H locs ls hl hP hD hS)
theorem v_ifnonnullN (C : OK G X cc own nL ret) {off : Int} (hd : decode cc pc = .ok (.ifnonnull off, 3)) (kk : V G X cc nL R Q cells slots (pc + 3) lv st ws) : V G X cc nL R Q cells slots pc lv (.null :: st) ws := fun H locs ls hl hP hD hS => lv_ifnonnullN C.1 C.2.1 hd (kk H locs ls hl hP hD hS)
theorem v_tableIn (C : OK G X cc own nL ret) {dflt lo hi : Int} {offs : Array Int} {len : Nat} {x : Int32} {off : Int} {tgt : Nat} (hd : decode cc pc = .ok (.tableswitch dflt lo hi offs, len)) (h1 : ¬ x.toInt < lo) (h2 : ¬ hi < x.toInt) (ho : offs[(x.toInt - lo).toNat]? = some off) (ht : (pc : Int) + off = (tgt : Int)) (kk : V G X cc nL R Q cells slots tgt lv st ws) : V G X cc nL R Q cells slots pc lv (.int x :: st) ws := fun H locs ls hl hP hD hS => lv_tableIn C.1 C.2.1 hd h1 h2 ho ht (kk H locs ls hl hP hD hS)
theorem v_tableOut (C : OK G X cc own nL ret) {dflt lo hi : Int} {offs : Array Int} {len : Nat} {x : Int32} {tgt : Nat} (hd : decode cc pc = .ok (.tableswitch dflt lo hi offs, len)) (h : x.toInt < lo ∨ hi < x.toInt) (ht : (pc : Int) + dflt = (tgt : Int)) (kk : V G X cc nL R Q cells slots tgt lv st ws) : V G X cc nL R Q cells slots pc lv (.int x :: st) ws := fun H locs ls hl hP hD hS => lv_tableOut C.1 C.2.1 hd h ht (kk H locs ls hl hP hD hS)
theorem v_lookup (C : OK G X cc own nL ret) {dflt : Int} {ps : Array (Int × Int)} {len : Nat} {x : Int32} {off : Int} {tgt : Nat} (hd : decode cc pc = .ok (.lookupswitch dflt ps, len)) (hp : (ps.toList.zip (ps.toList.drop 1)).all (fun (a, next) => a.1 < next.1) = true) (ho : Op.lookupswitch.offset ps.toList dflt x.toInt = off) (ht : (pc : Int) + off = (tgt : Int)) (kk : V G X cc nL R Q cells slots tgt lv st ws) : V G X cc nL R Q cells slots pc lv (.int x :: st) ws := fun H locs ls hl hP hD hS => lv_lookup C.1 C.2.1 hd hp ho ht (kk H locs ls hl hP hD hS)
theorem v_get (C : OK G X cc own nL ret) {a : Nat} {Cn : String} {T : u_T} {N ci index : Nat} (hin : ∀ w ∈ u_ws Cn T N, w ∈ W0) (q0 : Nat) {fs : List Value} {v : Value} (he : ws[q0]? = some (a, .inr (ci, fs))) (hc : vwCl[ci]? = some (Cn, T, N)) (k : Nat) (hk : k < N) (hl : Cond.fieldLink own index (T k).1 (T k).2.1 (T k).2.2.1 ∈ W0) (hv : fs[k]? = some v) (hd : decode cc pc = .ok (.getfield index, 3)) (kk : V G X cc nL R Q cells slots (pc + 3) lv (v :: st) ws) : V G X cc nL R Q cells slots pc lv (.ref a :: st) ws := fun H locs ls hl2 hP hD hS => va_get C.1 C.2.1 C.2.2.1 hin C.2.2.2.2.1 C.2.2.2.1.1 hP q0 he hc k hk (C.2.2.1 _ hl) (fun _ h9 => h9) hv hd (kk H locs ls hl2 hP hD hS)
theorem v_getN (C : OK G X cc own nL ret) {a : Nat} {Cn host : String} {T : u_T} {N ci index : Nat} (hin : ∀ w ∈ u_ws Cn T N, w ∈ W0) (q0 : Nat) {fs : List Value} {v : Value} (he : ws[q0]? = some (a, .inr (ci, fs))) (hc : vwCl[ci]? = some (Cn, T, N)) (k : Nat) (hk : k < N) (hl : Cond.fieldLinkNest own index (T k).1 (T k).2.1 (T k).2.2.1 host ∈ nestL) (hv : fs[k]? = some v) (hd : decode cc pc = .ok (.getfield index, 3)) (kk : V G X cc nL R Q cells slots (pc + 3) lv (v :: st) ws) : V G X cc nL R Q cells slots pc lv (.ref a :: st) ws := fun H locs ls hl2 hP hD hS => va_getN C.1 C.2.1 C.2.2.1 hin C.2.2.2.2.1 C.2.2.2.1.1 hP q0 he hc k hk (va_Nw.use rfl (C.2.2.2.1.2.1 _ hl)) (fun _ h9 => h9) hv hd (kk H locs ls hl2 hP hD hS)
theorem v_put (C : OK G X cc own nL ret) {a : Nat} {Cn : String} {T : u_T} {N ci index : Nat} (hin : ∀ w ∈ u_ws Cn T N, w ∈ W0) (ty0 : Nat → FieldType) (hty : ∀ k, k < N → parseFieldDescriptor (T k).2.2.1 = some (ty0 k)) (hnm : ∀ a, a < N → ∀ b, b < N → a ≠ b → (T a).2.1 ≠ (T b).2.1) (q0 : Nat) {fs : List Value} {v : Value} (he : ws[q0]? = some (a, .inr (ci, fs))) (hc : vwCl[ci]? = some (Cn, T, N)) (k : Nat) (hk : k < N) (hl : Cond.fieldLink own index (T k).1 (T k).2.1 (T k).2.2.1 ∈ W0) (hfin : (T k).2.2.2 = false) (hn : narrow (ty0 k) v = v) (hfit : fits (ty0 k) v = true) (hlen : k < fs.length) (hd : decode cc pc = .ok (.putfield index, 3)) {ws' : va_W} (hws : ws.set q0 (a, .inr (ci, fs.set k v)) = ws') (kk : V G X cc nL R Q cells slots (pc + 3) lv st ws') : V G X cc nL R Q cells slots pc lv (v :: .ref a :: st) ws := by
  subst hws
  exact fun H locs ls hl2 hP hD hS => va_put C.1 C.2.1 C.2.2.1 hin ty0 hty hnm C.2.2.2.2.1 C.2.2.2.1.1 hP hD hS q0 he hc k hk (C.2.2.1 _ hl) (fun _ h9 => h9) hfin (hty k hk) hn hfit hlen hd (fun H1 locs1 hP1 hD1 hS1 => kk H1 locs1 ls hl2 hP1 hD1 hS1)
theorem v_putN (C : OK G X cc own nL ret) {a : Nat} {Cn host : String} {T : u_T} {N ci index : Nat} (hin : ∀ w ∈ u_ws Cn T N, w ∈ W0) (ty0 : Nat → FieldType) (hty : ∀ k, k < N → parseFieldDescriptor (T k).2.2.1 = some (ty0 k)) (hnm : ∀ a, a < N → ∀ b, b < N → a ≠ b → (T a).2.1 ≠ (T b).2.1) (q0 : Nat) {fs : List Value} {v : Value} (he : ws[q0]? = some (a, .inr (ci, fs))) (hc : vwCl[ci]? = some (Cn, T, N)) (k : Nat) (hk : k < N) (hl : Cond.fieldLinkNest own index (T k).1 (T k).2.1 (T k).2.2.1 host ∈ nestL) (hfin : (T k).2.2.2 = false) (hn : narrow (ty0 k) v = v) (hfit : fits (ty0 k) v = true) (hlen : k < fs.length) (hd : decode cc pc = .ok (.putfield index, 3)) {ws' : va_W} (hws : ws.set q0 (a, .inr (ci, fs.set k v)) = ws') (kk : V G X cc nL R Q cells slots (pc + 3) lv st ws') : V G X cc nL R Q cells slots pc lv (v :: .ref a :: st) ws := by
  subst hws
  exact fun H locs ls hl2 hP hD hS => va_putN C.1 C.2.1 C.2.2.1 hin ty0 hty hnm C.2.2.2.2.1 C.2.2.2.1.1 hP hD hS q0 he hc k hk (va_Nw.use rfl (C.2.2.2.1.2.1 _ hl)) (fun _ h9 => h9) hfin (hty k hk) hn hfit hlen hd (fun H1 locs1 hP1 hD1 hS1 => kk H1 locs1 ls hl2 hP1 hD1 hS1)
theorem v_putF (C : OK G X cc own nL ret) {a : Nat} {Cn : String} {T : u_T} {N ci index : Nat} (hin : ∀ w ∈ u_ws Cn T N, w ∈ W0) (ty0 : Nat → FieldType) (hty : ∀ k, k < N → parseFieldDescriptor (T k).2.2.1 = some (ty0 k)) (hnm : ∀ a, a < N → ∀ b, b < N → a ≠ b → (T a).2.1 ≠ (T b).2.1) (q0 : Nat) {fs : List Value} {v : Value} (he : ws[q0]? = some (a, .inr (ci, fs))) (hc : vwCl[ci]? = some (Cn, T, N)) (k : Nat) (hk : k < N) (hl : Cond.fieldLink own index (T k).1 (T k).2.1 (T k).2.2.1 ∈ W0) (hfin : (T k).2.2.2 = true) (hin2 : (xt X).name = "<init>") (hdecl : (T k).1 = own) (hn : narrow (ty0 k) v = v) (hfit : fits (ty0 k) v = true) (hlen : k < fs.length) (hd : decode cc pc = .ok (.putfield index, 3)) {ws' : va_W} (hws : ws.set q0 (a, .inr (ci, fs.set k v)) = ws') (kk : V G X cc nL R Q cells slots (pc + 3) lv st ws') : V G X cc nL R Q cells slots pc lv (v :: .ref a :: st) ws := by
  subst hws
  exact fun H locs ls hl2 hP hD hS => va_putF C.1 C.2.1 C.2.2.1 hin ty0 hty hnm C.2.2.2.2.1 C.2.2.2.1.1 hP hD hS q0 he hc k hk (C.2.2.1 _ hl) (fun _ h9 => h9) hfin hin2 hdecl (hty k hk) hn hfit hlen hd (fun H1 locs1 hP1 hD1 hS1 => kk H1 locs1 ls hl2 hP1 hD1 hS1)
theorem v_iald (C : OK G X cc own nL ret) {a : Nat} (q0 : Nat) {n : Nat} {f : Nat → Int32} (ha : ws[q0]? = some (a, .inl (gy G 0, n, .inl f))) {i : Int32} (hin : vp_in i n) (hd : decode cc pc = .ok (.iaload, 1)) (kk : V G X cc nL R Q cells slots (pc + 1) lv (.int (f i.toNatClampNeg) :: st) ws) : V G X cc nL R Q cells slots pc lv (.int i :: .ref a :: st) ws := fun H locs ls hl hP hD hS => va_iald C.1 C.2.1 C.2.2.2.1.1 hP q0 0 ha rfl hin hd (kk H locs ls hl hP hD hS)
theorem v_ialdN (C : OK G X cc own nL ret) {a : Nat} (q0 : Nat) {n : Nat} {f : Nat → Int32} (ha : ws[q0]? = some (a, .inl (gy G 0, n, .inl f))) {i : Nat} (hin : i < n) (hn : n < 2 ^ 31) (hd : decode cc pc = .ok (.iaload, 1)) (kk : V G X cc nL R Q cells slots (pc + 1) lv (.int (f i) :: st) ws) : V G X cc nL R Q cells slots pc lv (.int (nI i) :: .ref a :: st) ws := v_iald C q0 ha (vp_in_nI hin hn) hd (by rw [nI_clamp (Nat.lt_trans hin hn)]; exact kk)
theorem v_zald (C : OK G X cc own nL ret) {a : Nat} (q0 : Nat) {n : Nat} {f : Nat → Int32} (ha : ws[q0]? = some (a, .inl (gy G 2, n, .inl f))) {i : Int32} (hin : vp_in i n) (hd : decode cc pc = .ok (.baload, 1)) (kk : V G X cc nL R Q cells slots (pc + 1) lv (.int (f i.toNatClampNeg) :: st) ws) : V G X cc nL R Q cells slots pc lv (.int i :: .ref a :: st) ws := fun H locs ls hl hP hD hS => va_zald C.1 C.2.1 C.2.2.2.1.1 hP q0 2 ha rfl hin hd (kk H locs ls hl hP hD hS)
theorem v_zaldN (C : OK G X cc own nL ret) {a : Nat} (q0 : Nat) {n : Nat} {f : Nat → Int32} (ha : ws[q0]? = some (a, .inl (gy G 2, n, .inl f))) {i : Nat} (hin : i < n) (hn : n < 2 ^ 31) (hd : decode cc pc = .ok (.baload, 1)) (kk : V G X cc nL R Q cells slots (pc + 1) lv (.int (f i) :: st) ws) : V G X cc nL R Q cells slots pc lv (.int (nI i) :: .ref a :: st) ws := v_zald C q0 ha (vp_in_nI hin hn) hd (by rw [nI_clamp (Nat.lt_trans hin hn)]; exact kk)
theorem v_lald (C : OK G X cc own nL ret) {a : Nat} (q0 : Nat) {n : Nat} {f : Nat → Int64} (ha : ws[q0]? = some (a, .inl (gy G 1, n, .inr (.inl f)))) {i : Int32} (hin : vp_in i n) (hd : decode cc pc = .ok (.laload, 1)) (kk : V G X cc nL R Q cells slots (pc + 1) lv (.long (f i.toNatClampNeg) :: st) ws) : V G X cc nL R Q cells slots pc lv (.int i :: .ref a :: st) ws := fun H locs ls hl hP hD hS => va_lald C.1 C.2.1 C.2.2.2.1.1 hP q0 1 ha rfl hin hd (kk H locs ls hl hP hD hS)
theorem v_laldN (C : OK G X cc own nL ret) {a : Nat} (q0 : Nat) {n : Nat} {f : Nat → Int64} (ha : ws[q0]? = some (a, .inl (gy G 1, n, .inr (.inl f)))) {i : Nat} (hin : i < n) (hn : n < 2 ^ 31) (hd : decode cc pc = .ok (.laload, 1)) (kk : V G X cc nL R Q cells slots (pc + 1) lv (.long (f i) :: st) ws) : V G X cc nL R Q cells slots pc lv (.int (nI i) :: .ref a :: st) ws := v_lald C q0 ha (vp_in_nI hin hn) hd (by rw [nI_clamp (Nat.lt_trans hin hn)]; exact kk)
theorem v_iast (C : OK G X cc own nL ret) {a : Nat} (q0 : Nat) {n : Nat} {f : Nat → Int32} (ha : ws[q0]? = some (a, .inl (gy G 0, n, .inl f))) {i : Int32} {x : Int32} (hin : vp_in i n) (hd : decode cc pc = .ok (.iastore, 1)) {ws' : va_W} (hws : ws.set q0 (a, .inl (gy G 0, n, .inl (upd f i.toNatClampNeg x))) = ws') (kk : V G X cc nL R Q cells slots (pc + 1) lv st ws') : V G X cc nL R Q cells slots pc lv (.int x :: .int i :: .ref a :: st) ws := by
  subst hws
  exact fun H locs ls hl hP hD hS => va_iast C.1 C.2.1 C.2.2.2.1.1 hP hD hS q0 0 ha rfl hin hd (fun H1 locs1 hP1 hD1 hS1 => kk H1 locs1 ls hl hP1 hD1 hS1)
theorem v_iastN (C : OK G X cc own nL ret) {a : Nat} (q0 : Nat) {n : Nat} {f : Nat → Int32} (ha : ws[q0]? = some (a, .inl (gy G 0, n, .inl f))) {i : Nat} {x : Int32} (hin : i < n) (hn : n < 2 ^ 31) (hd : decode cc pc = .ok (.iastore, 1)) {ws' : va_W} (hws : ws.set q0 (a, .inl (gy G 0, n, .inl (upd f i x))) = ws') (kk : V G X cc nL R Q cells slots (pc + 1) lv st ws') : V G X cc nL R Q cells slots pc lv (.int x :: .int (nI i) :: .ref a :: st) ws := v_iast C q0 ha (vp_in_nI hin hn) hd (by rw [nI_clamp (Nat.lt_trans hin hn)]; exact hws) kk
theorem v_zast (C : OK G X cc own nL ret) {a : Nat} (q0 : Nat) {n : Nat} {f : Nat → Int32} (ha : ws[q0]? = some (a, .inl (gy G 2, n, .inl f))) {i : Int32} {x : Int32} (hin : vp_in i n) (hd : decode cc pc = .ok (.bastore, 1)) {ws' : va_W} (hws : ws.set q0 (a, .inl (gy G 2, n, .inl (upd f i.toNatClampNeg (vp_nar .boolean x)))) = ws') (kk : V G X cc nL R Q cells slots (pc + 1) lv st ws') : V G X cc nL R Q cells slots pc lv (.int x :: .int i :: .ref a :: st) ws := by
  subst hws
  exact fun H locs ls hl hP hD hS => va_zast C.1 C.2.1 C.2.2.2.1.1 hP hD hS q0 2 ha rfl hin hd (fun H1 locs1 hP1 hD1 hS1 => kk H1 locs1 ls hl hP1 hD1 hS1)
theorem v_zastN (C : OK G X cc own nL ret) {a : Nat} (q0 : Nat) {n : Nat} {f : Nat → Int32} (ha : ws[q0]? = some (a, .inl (gy G 2, n, .inl f))) {i : Nat} {x : Int32} (hin : i < n) (hn : n < 2 ^ 31) (hd : decode cc pc = .ok (.bastore, 1)) {ws' : va_W} (hws : ws.set q0 (a, .inl (gy G 2, n, .inl (upd f i (vp_nar .boolean x)))) = ws') (kk : V G X cc nL R Q cells slots (pc + 1) lv st ws') : V G X cc nL R Q cells slots pc lv (.int x :: .int (nI i) :: .ref a :: st) ws := v_zast C q0 ha (vp_in_nI hin hn) hd (by rw [nI_clamp (Nat.lt_trans hin hn)]; exact hws) kk
theorem v_last (C : OK G X cc own nL ret) {a : Nat} (q0 : Nat) {n : Nat} {f : Nat → Int64} (ha : ws[q0]? = some (a, .inl (gy G 1, n, .inr (.inl f)))) {i : Int32} {x : Int64} (hin : vp_in i n) (hd : decode cc pc = .ok (.lastore, 1)) {ws' : va_W} (hws : ws.set q0 (a, .inl (gy G 1, n, .inr (.inl (vp_updL f i.toNatClampNeg x)))) = ws') (kk : V G X cc nL R Q cells slots (pc + 1) lv st ws') : V G X cc nL R Q cells slots pc lv (.long x :: .int i :: .ref a :: st) ws := by
  subst hws
  exact fun H locs ls hl hP hD hS => va_last C.1 C.2.1 C.2.2.2.1.1 hP hD hS q0 1 ha rfl hin hd (fun H1 locs1 hP1 hD1 hS1 => kk H1 locs1 ls hl hP1 hD1 hS1)
theorem v_lastN (C : OK G X cc own nL ret) {a : Nat} (q0 : Nat) {n : Nat} {f : Nat → Int64} (ha : ws[q0]? = some (a, .inl (gy G 1, n, .inr (.inl f)))) {i : Nat} {x : Int64} (hin : i < n) (hn : n < 2 ^ 31) (hd : decode cc pc = .ok (.lastore, 1)) {ws' : va_W} (hws : ws.set q0 (a, .inl (gy G 1, n, .inr (.inl (vp_updL f i x)))) = ws') (kk : V G X cc nL R Q cells slots (pc + 1) lv st ws') : V G X cc nL R Q cells slots pc lv (.long x :: .int (nI i) :: .ref a :: st) ws := v_last C q0 ha (vp_in_nI hin hn) hd (by rw [nI_clamp (Nat.lt_trans hin hn)]; exact hws) kk
theorem v_aald (C : OK G X cc own nL ret) {a : Nat} (q0 t0 : Nat) {cA : ClassId} {Cn : String} {n : Nat} {f : Nat → Option Nat} (ha : ws[q0]? = some (a, .inl (cA, n, .inr (.inr (.inr (.inr f)))))) (ht : (tysOf (gy G))[t0]? = some (cA, .object Cn)) {i : Nat} (hin : i < n) (hn : n < 2 ^ 31) (hd : decode cc pc = .ok (.aaload, 1)) (kk : V G X cc nL R Q cells slots (pc + 1) lv (va_rf (f i) :: st) ws) : V G X cc nL R Q cells slots pc lv (.int (nI i) :: .ref a :: st) ws := fun H locs ls hl hP hD hS => va_aldq C.1 C.2.1 C.2.2.2.1.1 hP q0 t0 ha ht (vp_in_nI hin hn) hd (by rw [nI_clamp (Nat.lt_trans hin hn)]; exact (kk H locs ls hl hP hD hS))
theorem v_aast (C : OK G X cc own nL ret) {a : Nat} (q0 t0 qk ci : Nat) {cA : ClassId} {r : vw_C} {n v : Nat} {vs : List Value} {f : Nat → Option Nat} (ha : ws[q0]? = some (a, .inl (cA, n, .inr (.inr (.inr (.inr f)))))) (ht : (tysOf (gy G))[t0]? = some (cA, .object r.1)) (hv : ws[qk]? = some (v, .inr (ci, vs))) (hc : vwCl[ci]? = some r) {i : Nat} (hin : i < n) (hn : n < 2 ^ 31) (hd : decode cc pc = .ok (.aastore, 1)) {ws' : va_W} (hws : ws.set q0 (a, .inl (cA, n, .inr (.inr (.inr (.inr (va_up f i (some v))))))) = ws') (kk : V G X cc nL R Q cells slots (pc + 1) lv st ws') : V G X cc nL R Q cells slots pc lv (.ref v :: .int (nI i) :: .ref a :: st) ws := by
  subst hws
  have e : (nI i).toNatClampNeg = i := nI_clamp (Nat.lt_trans hin hn)
  intro H locs ls hl hP hD hS
  refine va_astq C.1 C.2.1 C.2.2.2.1.1 hP hD hS q0 t0 qk ci ha ht hv hc (vp_in_nI hin hn) hd (fun H1 locs1 hP1 hD1 hS1 => ?_)
  rw [e] at hP1 hD1
  exact kk H1 locs1 ls hl hP1 hD1 hS1
theorem v_alen (C : OK G X cc own nL ret) {a : Nat} (q0 t0 : Nat) {cA : ClassId} {x : vp_A} (ha : ws[q0]? = some (a, .inl (cA, x))) {ty : FieldType} (ht : (tysOf (gy G))[t0]? = some (cA, ty)) (hd : decode cc pc = .ok (.arraylength, 1)) (kk : V G X cc nL R Q cells slots (pc + 1) lv (.int (nI x.1) :: st) ws) : V G X cc nL R Q cells slots pc lv (.ref a :: st) ws := fun H locs ls hl hP hD hS => va_alen C.1 C.2.1 C.2.2.2.1.1 hP q0 t0 ha ht rfl hd (kk H locs ls hl hP hD hS)
theorem v_newa (C : OK G X cc own nL ret) {atype : ArrayType} {ty : FieldType} {t0 : Nat} (hty : newarray.typeOf atype = ty) (k : Cond.arrayClass ty ∈ W0) (ht : (tysOf (gy G))[t0]? = some (gy G t0, ty)) (hpr : ∀ C, ty ≠ .object C) {n : Int32} {N' : Nat} {a0 : vp_A} (ha : ∀ cA : ClassId, vp_cell cA a0 = arrV cA N' (fun _ => defaultValue ty)) (hn : ¬ n < 0) (hN : n.toNatClampNeg = N') (hby : N' * componentBytes ty ≤ 536870912) (hcs : cells + 1 ≤ R.cells) (hss : slots + N' ≤ R.slots) (hd : decode cc pc = .ok (.newarray atype, 2))
    (kk : ∀ q : Nat, V G X cc nL R Q (cells + 1) (slots + N') (pc + 2) lv (.ref q :: st) (ws ++ [(q, .inl (gy G t0, a0))])) : V G X cc nL R Q cells slots pc lv (.int n :: st) ws := by
  intro H locs ls hl hP hD hS
  refine va_newa C.1 C.2.1 (by rw [hty]; exact C.2.2.1 _ k) hty C.2.2.2.1.1 hP hD hS C.2.2.2.2.2.2.2.1 ha hn hN hby hcs hss hd (fun q cA H1 hK1 hP1 hD1 hS1 => ?_)
  have e1 := (C.2.2.2.1.1.2 t0 _ ht).2
  have e2 := (hK1.2 (tysOf (gy G)).length (cA, ty) (by rw [List.getElem?_append_right (Nat.le_refl _), Nat.sub_self]; rfl)).2
  have e3 : cA = gy G t0 := by
    cases ty with
    | object Cn => exact absurd rfl (hpr Cn)
    | _ => exact Option.some.inj (e2.symm.trans e1)
  subst e3
  exact kk q H1 locs ls hl hP1 hD1 hS1
theorem v_newq (C : OK G X cc own nL ret) {Cn : String} {index t0 : Nat} (k : Cond.classLink own index Cn ∈ W0) (hao : va_AO Cn (xs X)) (ht : (tysOf (gy G))[t0]? = some (gy G t0, .object Cn)) {n : Int32} {N' : Nat} (hn : ¬ n < 0) (hN : n.toNatClampNeg = N') (hby : N' * 4 ≤ 536870912) (hcs : cells + 1 ≤ R.cells) (hss : slots + N' ≤ R.slots) (hd : decode cc pc = .ok (.anewarray index, 3))
    (kk : ∀ q : Nat, V G X cc nL R Q (cells + 1) (slots + N') (pc + 3) lv (.ref q :: st) (ws ++ [(q, .inl (gy G t0, N', .inr (.inr (.inr (.inr (fun _ => none))))))])) : V G X cc nL R Q cells slots pc lv (.int n :: st) ws := by
  intro H locs ls hl hP hD hS
  refine va_newq C.1 C.2.1 C.2.2.2.2.1 (C.2.2.1 _ k) hao C.2.2.2.1.1 hP hD hS C.2.2.2.2.2.2.2.1 hn hN hby hcs hss hd (fun q cA H1 hK1 hP1 hD1 hS1 => ?_)
  obtain ⟨kA, comp, -, -, -, e1⟩ := (C.2.2.2.1.1.2 t0 _ ht).2
  obtain ⟨kA2, comp2, -, -, -, e2⟩ := (hK1.2 (tysOf (gy G)).length (cA, .object Cn) (by rw [List.getElem?_append_right (Nat.le_refl _), Nat.sub_self]; rfl)).2
  have e3 : cA = gy G t0 := Option.some.inj (e2.symm.trans e1)
  subst e3
  exact kk q H1 locs ls hl hP1 hD1 hS1
theorem v_new (C : OK G X cc own nL ret) {Cn : String} {T : u_T} {N ci index : Nat} (hin : ∀ w ∈ u_ws Cn T N, w ∈ W0) (ty : Nat → FieldType) (hty : ∀ k, k < N → parseFieldDescriptor (T k).2.2.1 = some (ty k)) (k1 : Cond.classLink own index Cn ∈ W0) (k2 : Cond.instantiable Cn N ∈ W0) (k3 : Cond.initialized Cn ∈ W0) (hc : vwCl[ci]? = some (Cn, T, N)) {fs : List Value} (hfs : ∀ j, j < N → defaultValue (ty j) = vp_V fs j) (hcs : cells + 1 ≤ R.cells) (hss : slots + N ≤ R.slots) (hd : decode cc pc = .ok (.new index, 3))
    (kk : ∀ q : Nat, V G X cc nL R Q (cells + 1) (slots + N) (pc + 3) lv (.ref q :: st) (ws ++ [(q, .inr (ci, fs))])) : V G X cc nL R Q cells slots pc lv st ws :=
  fun H locs ls hl hP hD hS => va_new C.1 C.2.1 C.2.2.1 hin ty hty C.2.2.2.2.1 (C.2.2.1 _ k1) (C.2.2.1 _ k2) (C.2.2.1 _ k3) C.2.2.2.1.1 hP hD hS C.2.2.2.2.2.2.2.1 hc hfs hcs hss hd (fun q H1 hP1 hD1 hS1 => kk q H1 locs ls hl hP1 hD1 hS1)
theorem v_objInit (C : OK G X cc own nL ret) {a idx : Nat} (k1 : Cond.methodLink own idx objectInit ∈ W0) (k2 : Cond.instanceMethod objectInit ∈ W0) (k3 : Cond.code objectInit ⟨#[0xb1]⟩ 1 none ∈ W0) (hd : decode cc pc = .ok (.invokespecial idx, 3)) (hf : 1 ≤ R.frames) (hlo : (st.map fun v => v.category).sum + 12 ≤ R.locals) (kk : V G X cc nL R Q cells slots (pc + 3) lv st ws) : V G X cc nL R Q cells slots pc lv (.ref a :: st) ws :=
  fun H locs ls hl hP hD hS => W.objInit C.1 C.2.1 C.2.2.2.2.1 (C.2.2.1 _ k1) (C.2.2.1 _ k2) (C.2.2.1 _ k3) rfl (by rw [C.2.2.2.2.2.1]; exact hl.1) rfl hd hf (by show 2 * 0 + _ + 12 ≤ _; omega) (kk H locs ls hl hP hD hS)
theorem v_mmax (C : OK G X cc own nL ret) {idx : Nat} (k1 : Cond.methodLink own idx Lib.Math.max.name ∈ W0) (k2 : Cond.static Lib.Math.max.name ∈ W0) (k3 : Cond.initialized "java/lang/Math" ∈ W0) (k4 : Cond.code Lib.Math.max.name Lib.Math.max.code 2 (some .int) ∈ W0) (hf : 1 ≤ R.frames) (hlo : (st.map fun v => v.category).sum + 13 ≤ R.locals) (hcs : cells ≤ R.cells) (hss : slots ≤ R.slots) {x y : Int32} (hd : decode cc pc = .ok (.invokestatic idx, 3)) (kk : V G X cc nL R Q cells slots (pc + 3) lv (.int (if x < y then y else x) :: st) ws) : V G X cc nL R Q cells slots pc lv (.int y :: .int x :: st) ws :=
  fun H locs ls hl hP hD hS => va_mmax C.1 C.2.1 (by rw [C.2.2.2.2.2.1]; exact hl.1.symm) C.2.2.2.2.1 (C.2.2.1 _ k1) (C.2.2.1 _ k2) (C.2.2.1 _ k3) (C.2.2.1 _ k4) hf hlo hcs hss hd (kk H locs ls hl hP hD hS)
theorem v_mmin (C : OK G X cc own nL ret) {idx : Nat} (k1 : Cond.methodLink own idx Lib.Math.min.name ∈ W0) (k2 : Cond.static Lib.Math.min.name ∈ W0) (k3 : Cond.initialized "java/lang/Math" ∈ W0) (k4 : Cond.code Lib.Math.min.name Lib.Math.min.code 2 (some .int) ∈ W0) (hf : 1 ≤ R.frames) (hlo : (st.map fun v => v.category).sum + 13 ≤ R.locals) (hcs : cells ≤ R.cells) (hss : slots ≤ R.slots) {x y : Int32} (hd : decode cc pc = .ok (.invokestatic idx, 3)) (kk : V G X cc nL R Q cells slots (pc + 3) lv (.int (if y < x then y else x) :: st) ws) : V G X cc nL R Q cells slots pc lv (.int y :: .int x :: st) ws :=
  fun H locs ls hl hP hD hS => va_mmin C.1 C.2.1 (by rw [C.2.2.2.2.2.1]; exact hl.1.symm) C.2.2.2.2.1 (C.2.2.1 _ k1) (C.2.2.1 _ k2) (C.2.2.1 _ k3) (C.2.2.1 _ k4) hf hlo hcs hss hd (kk H locs ls hl hP hD hS)
theorem v_iret {ty : FieldType} (C : OK G X cc own nL (some ty)) {S : Type} {w : S → va_W} {f : Int32 → S → Prop} {mc ms : Nat} {v : Int32} (hd : decode cc pc = .ok (.ireturn, 1)) (hn : narrow ty (.int v) = .int v) (u : S) (hw : ws = w u) (hq : f v u) : V G X cc nL R (QX G X w (Ri f) mc ms) mc ms pc lv [.int v] ws := by
  subst hw
  exact fun H locs ls hl hP hD hS => W.zret C.1 C.2.1 C.2.2.2.2.2.2.2.2 hn (fun t ht hW => ⟨⟨_, u, rfl, ⟨v, rfl, hq⟩, by rw [ht]; exact hP, hD⟩, hS.F ht⟩) hS.2.2 hd C.2.2.2.2.2.2.1
theorem v_lret (C : OK G X cc own nL (some .long)) {S : Type} {w : S → va_W} {f : Int64 → S → Prop} {mc ms : Nat} {v : Int64} (hd : decode cc pc = .ok (.lreturn, 1)) (u : S) (hw : ws = w u) (hq : f v u) : V G X cc nL R (QX G X w (Rl f) mc ms) mc ms pc lv [.long v] ws := by
  subst hw
  exact fun H locs ls hl hP hD hS => W.lret C.1 C.2.1 C.2.2.2.2.2.2.2.2 (fun t ht hW => ⟨⟨_, u, rfl, ⟨v, rfl, hq⟩, by rw [ht]; exact hP, hD⟩, hS.F ht⟩) hS.2.2 hd C.2.2.2.2.2.2.1
theorem v_vret (C : OK G X cc own nL none) {S : Type} {w : S → va_W} {f : S → Prop} {mc ms : Nat} (hd : decode cc pc = .ok (.return_, 1)) (u : S) (hw : ws = w u) (hq : f u) : V G X cc nL R (QX G X w (Rv f) mc ms) mc ms pc lv [] ws := by
  subst hw
  exact fun H locs ls hl hP hD hS => W.vret C.1 C.2.1 C.2.2.2.2.2.2.2.2 (fun t ht hW => ⟨⟨_, u, rfl, ⟨rfl, hq⟩, by rw [ht]; exact hP, hD⟩, hS.F ht⟩) hS.2.2 hd C.2.2.2.2.2.2.1
theorem v_aret {n : String} (C : OK G X cc own nL (some (.object n))) {S : Type} {w : S → va_W} {f : Option Nat → S → Prop} {mc ms : Nat} {r : Option Nat} (hd : decode cc pc = .ok (.areturn, 1)) (u : S) (hw : ws = w u) (hq : f r u) : V G X cc nL R (QX G X w (Rq f) mc ms) mc ms pc lv [va_rf r] ws := by
  subst hw
  exact fun H locs ls hl hP hD hS => W.aret C.1 C.2.1 C.2.2.2.2.2.2.2.2 (Or.inl ⟨n, rfl⟩) (va_rf_or r) (fun t ht hW => ⟨⟨_, u, rfl, ⟨r, rfl, hq⟩, by rw [ht]; exact hP, hD⟩, hS.F ht⟩) hS.2.2 hd C.2.2.2.2.2.2.1
/-- a callee: its words, and how many arguments -/
def CY (y : MethodName) (ccy : ByteArray) (nLy : Nat) (rety : Option FieldType) (n : Nat) : Prop := Cond.initialized y.cls ∈ W0 ∧ Cond.code y ccy nLy rety ∈ W0 ∧ y.cls ≠ "java/lang/invoke/MethodHandle" ∧ y.cls ≠ "java/lang/invoke/VarHandle" ∧ (parseMethodDescriptor y.desc).map (fun d => d.parameters.length) = some n
def CV (y : MethodName) : Prop := Cond.instanceMethod y ∈ W0 ∧ Cond.selects y.cls y y ∈ W0
theorem CT.blind {av : List Value} {sz : Nat} {ws : va_W} : FrameBlind (va_Pc av (fun U => U.heap.size = sz ∧ va_P (gD G) vwCl ws U.heap ∧ KK G U ∧ va_D (fun _ => True) ws)) :=
  fun a U g mk q => by obtain ⟨q0, q1, qP, qK, qD⟩ := q; exact ⟨q0, q1, qP, qK.calling, qD⟩
theorem W0_callee {y : MethodName} {ccy : ByteArray} {nLy : Nat} {rety : Option FieldType} (h : Cond.code y ccy nLy rety ∈ W0) : GoodIn W0 (.code y ccy nLy rety :: W0) := by
  intro w hw
  have hm : w ∈ W0 := (List.mem_cons.mp hw).elim (fun e => e ▸ h) id
  exact ⟨hm, good_of_word (W0_gd hm)⟩
/-- behind a call: the callee's world wc at the end of the caller's -/
theorem joinE {A0 : Nat → Prop} {D : va_G} {cl : List vw_C} {wr wc w1 : va_W} {H H1 : Heap} (hP : va_P D cl (wr ++ wc) H) (hD : va_D A0 (wr ++ wc)) (hk : ∀ q : Nat, q < H.size → ¬ va_A wc H.size q → H1[q]? = H[q]?) (hF : ∀ q, va_A wc H.size q → A0 q) (hP1 : va_P D cl w1 H1) (hD1 : va_D (va_A wc H.size) w1) : va_P D cl (wr ++ w1) H1 ∧ va_D A0 (wr ++ w1) := by
  have hR : ∀ (k : Nat) (q : Nat × va_E), wr[k]? = some q → (wr ++ wc)[k]? = some q := fun k q h => by rw [List.getElem?_append_left (List.getElem?_eq_some_iff.mp h).1]; exact h
  have hC : ∀ (k : Nat) (q : Nat × va_E), wc[k]? = some q → (wr ++ wc)[wr.length + k]? = some q := fun k q h => by rw [List.getElem?_append_right (by omega), Nat.add_sub_cancel_left]; exact h
  have apart : ∀ (k : Nat) (q : Nat × va_E), wr[k]? = some q → q.1 < H.size ∧ ¬ va_A wc H.size q.1 := by
    intro k q hq
    refine ⟨(hP k q (hR k q hq)).lt, fun h => ?_⟩
    rcases h with ⟨k2, e, h⟩ | h
    · have := hD.1 _ _ q (q.1, e) (hR k q hq) (hC k2 _ h) rfl
      have := (List.getElem?_eq_some_iff.mp hq).1
      omega
    · have := (hP k q (hR k q hq)).lt
      omega
  have hDr : va_D A0 wr := ⟨fun i j x y hi hj hxy => hD.1 i j x y (hR i x hi) (hR j y hj) hxy, fun k q hk => hD.2 k q (hR k q hk)⟩
  refine ⟨va_P.app (fun k q hq => ?_) hP1, va_D.app hDr (hD1.weaken (fun k q _ h => hF q.1 h)) (fun i j x y hx hy hxy => ?_)⟩
  · obtain ⟨g1, g2⟩ := apart k q hq
    exact (hP k q (hR k q hq)).kept (hk q.1 g1 g2)
  · exact (apart i x hx).2 (by rw [hxy]; exact hD1.2 j y hy)
theorem freeE {A0 : Nat → Prop} {wr wc : va_W} {H0 H : Heap} {locs : List Loc} (hD : va_D A0 (wr ++ wc)) (hS : va_S A0 H0 H locs) (hA : ∀ q, H0.size ≤ q → A0 q) : ∀ q, va_A wc H.size q → A0 q := by
  intro q h
  rcases h with ⟨k, e, h⟩ | h
  · exact hD.2 (wr.length + k) (q, e) (by rw [List.getElem?_append_right (by omega), Nat.add_sub_cancel_left]; exact h)
  · exact hA q (Nat.le_trans hS.1 h)
theorem subE_P {D : va_G} {cl : List vw_C} {wr wc : va_W} {H : Heap} (hP : va_P D cl (wr ++ wc) H) : va_P D cl wc H := fun k q h => hP (wr.length + k) q (by rw [List.getElem?_append_right (by omega), Nat.add_sub_cancel_left]; exact h)
theorem subE_D {A0 : Nat → Prop} {wr wc : va_W} (hD : va_D A0 (wr ++ wc)) : va_D (fun _ => True) wc := by
  have hC : ∀ (k : Nat) (q : Nat × va_E), wc[k]? = some q → (wr ++ wc)[wr.length + k]? = some q := fun k q h => by rw [List.getElem?_append_right (by omega), Nat.add_sub_cancel_left]; exact h
  exact ⟨fun i j x y hi hj hxy => by have := hD.1 _ _ x y (hC i x hi) (hC j y hj) hxy; omega, fun _ _ _ => trivial⟩
/-- the heart of every call -/
theorem v_run (C : OK G X cc own nL ret) {S : Type} {w : S → va_W} {post : Option Value → S → Prop} {wr wc : va_W} {mc ms : Nat} {stk : List Value} {a : Array Value}
    (hr : ∀ (H : Heap) (locs : List Loc) (ls : Array Slot), ls.size = nL → va_P (gD G) vwCl wc H → va_D (fun _ => True) wc → va_Run (xp X) (gl G) (xe X) R (xs X) (xm X) (xa X) (xb X) (xt X) (xc X) H locs cells slots mc ms (F0 (xm X) pc ls stk) st (QC (gD G) (va_A wc H.size) w post a) (va_A wc H.size))
    (kk : ∀ (v : Option Value) (u : S), post v u → V G X cc nL R Q (cells + mc) (slots + ms) (pc + 3) lv (v.toList ++ st) (wr ++ w u)) : V G X cc nL R Q cells slots pc lv stk (wr ++ wc) := by
  intro H locs ls hl hP hD hS T hT XX
  obtain ⟨v, st₀, t, T', L, h0, X', hL, e1, e2, ⟨⟨v', u, hv, hp, hP1, hD1⟩, hz, hk⟩, stp⟩ := hr H locs ls hl.1 (subE_P hP) (subE_D hD) T hT XX
  cases hv
  rw [h0] at hz hk
  have hF := freeE hD hS C.2.2.2.2.2.2.2.1
  rw [← e1] at hz hk hP1
  obtain ⟨hP2, hD2⟩ := joinE hP hD hk hF hP1 hD1
  have hS2 : va_S (xA X) (xs X).heap T'.heap (locs ++ L) := ⟨Nat.le_trans hS.1 hz, fun q h1 h2 => (hk q (Nat.lt_of_lt_of_le h1 hS.1) (fun h => h2 (hF q h))).trans (hS.2.1 q h1 h2), fun q hq => (List.mem_append.mp hq).elim (hS.2.2 q) (fun h => hF _ (hL q h))⟩
  obtain ⟨t2, a1, b1⟩ := kk v u hp T'.heap (locs ++ L) ls hl hP2 hD2 hS2 T' rfl X'
  exact ⟨t2, stp t2 a1, b1⟩
theorem ct_pre {av : List Value} {wc : va_W} {H : Heap} (C : OK G X cc own nL ret) (hP : va_P (gD G) vwCl wc H) (hD : va_D (fun _ => True) wc) : ∀ U : State, U.heap = H → (xs X).WarmedH U.vm → va_Pc av (fun U => U.heap.size = H.size ∧ va_P (gD G) vwCl wc U.heap ∧ KK G U ∧ va_D (fun _ => True) wc) av.toArray U :=
  fun U hU hW => ⟨rfl, by rw [hU], by rw [hU]; exact hP, C.2.2.2.1.warm hW, hD⟩
theorem v_callV (C : OK G X cc own nL ret) {S : Type} {w : S → va_W} {post : Option Value → S → Prop} {wr wc : va_W} {mc ms n : Nat} {y : MethodName} {ccy : ByteArray} {nLy : Nat} {rety : Option FieldType} {rm : Room} {idx : Nat} {b : Nat} {As stk : List Value} {ci q0 : Nat} {fs : List Value} {T : u_T} {N : Nat} (hM : CT G y ccy nLy rety rm mc ms (.ref b :: As) wc w post) (hY : CY y ccy nLy rety n) (hV : CV y) (k1 : Cond.methodLink own idx y ∈ W0) (hd : decode cc pc = .ok (.invokevirtual idx, 3)) (hn : As.length = n) (he : wc[q0]? = some (b, .inr (ci, fs))) (hc : vwCl[ci]? = some (y.cls, T, N)) (hrc : rm.cells = mc) (hrs : rm.slots = ms) (hR : rm.frames + 1 ≤ R.frames ∧ 8 + (nLy + 11) + rm.locals ≤ R.locals) (hst : (st.map fun v => v.category).sum ≤ 8) (hf : cells + mc ≤ R.cells ∧ slots + ms ≤ R.slots) (hs : stk = As.reverse ++ .ref b :: st) (kk : ∀ (v : Option Value) (u : S), post v u → V G X cc nL R Q (cells + mc) (slots + ms) (pc + 3) lv (v.toList ++ st) (wr ++ w u)) : V G X cc nL R Q cells slots pc lv stk (wr ++ wc) := by
  subst hs
  refine v_run (a := (Value.ref b :: As).toArray) C (fun H locs ls hls hP hD => ?_) kk
  refine va_runV (C := y.cls) ⟨C.1, C.2.1, C.2.2.2.2.2.1, C.2.2.2.2.1, C.2.2.1⟩ (hM H.size) ⟨callB_of n C.2.2.1 (W0_callee hY.2.1) rfl hrc hrs (C.2.2.1 _ hY.1) (C.2.2.1 _ k1) hY.2.2 hR, C.2.2.1 _ hV.1, C.2.2.1 _ hV.2⟩ ⟨CT.blind, va_recv C.2.2.2.1.1 hP hc he, ct_pre C hP hD⟩ rfl hn hls rfl (lv_room hst) hd hf
theorem v_callVN (C : OK G X cc own nL ret) {S : Type} {w : S → va_W} {post : Option Value → S → Prop} {wr wc : va_W} {mc ms n : Nat} {y : MethodName} {ccy : ByteArray} {nLy : Nat} {rety : Option FieldType} {rm : Room} {idx : Nat} {b : Nat} {As stk : List Value} {ci q0 : Nat} {fs : List Value} {T : u_T} {N : Nat} {host : String} (hM : CT G y ccy nLy rety rm mc ms (.ref b :: As) wc w post) (hY : CY y ccy nLy rety n) (hV : CV y) (k1 : Cond.methodLinkNest own idx y host ∈ nestL) (hd : decode cc pc = .ok (.invokevirtual idx, 3)) (hn : As.length = n) (he : wc[q0]? = some (b, .inr (ci, fs))) (hc : vwCl[ci]? = some (y.cls, T, N)) (hrc : rm.cells = mc) (hrs : rm.slots = ms) (hR : rm.frames + 1 ≤ R.frames ∧ 8 + (nLy + 11) + rm.locals ≤ R.locals) (hst : (st.map fun v => v.category).sum ≤ 8) (hf : cells + mc ≤ R.cells ∧ slots + ms ≤ R.slots) (hs : stk = As.reverse ++ .ref b :: st) (kk : ∀ (v : Option Value) (u : S), post v u → V G X cc nL R Q (cells + mc) (slots + ms) (pc + 3) lv (v.toList ++ st) (wr ++ w u)) : V G X cc nL R Q cells slots pc lv stk (wr ++ wc) := by
  subst hs
  refine v_run (a := (Value.ref b :: As).toArray) C (fun H locs ls hls hP hD => ?_) kk
  refine va_runVN (C := y.cls) ⟨C.1, C.2.1, C.2.2.2.2.2.1, C.2.2.2.2.1, C.2.2.1⟩ (hM H.size) ⟨va_cnB n C.2.2.1 (W0_callee hY.2.1) rfl hrc hrs (C.2.2.2.1.2.1 _ k1) (C.2.2.1 _ hY.1) hY.2.2 hR, C.2.2.1 _ hV.1, C.2.2.1 _ hV.2⟩ ⟨CT.blind, va_recv C.2.2.2.1.1 hP hc he, ct_pre C hP hD⟩ rfl hn hls rfl (lv_room hst) hd hf
theorem v_callS (C : OK G X cc own nL ret) {S : Type} {w : S → va_W} {post : Option Value → S → Prop} {wr wc : va_W} {mc ms n : Nat} {y : MethodName} {ccy : ByteArray} {nLy : Nat} {rety : Option FieldType} {rm : Room} {idx : Nat} {As stk : List Value} (hM : CT G y ccy nLy rety rm mc ms As wc w post) (hY : CY y ccy nLy rety n) (hV : Cond.static y ∈ W0) (k1 : Cond.methodLink own idx y ∈ W0) (hd : decode cc pc = .ok (.invokestatic idx, 3)) (hn : As.length = n) (hrc : rm.cells = mc) (hrs : rm.slots = ms) (hR : rm.frames + 1 ≤ R.frames ∧ 8 + (nLy + 11) + rm.locals ≤ R.locals) (hst : (st.map fun v => v.category).sum ≤ 8) (hf : cells + mc ≤ R.cells ∧ slots + ms ≤ R.slots) (hs : stk = As.reverse ++ st) (kk : ∀ (v : Option Value) (u : S), post v u → V G X cc nL R Q (cells + mc) (slots + ms) (pc + 3) lv (v.toList ++ st) (wr ++ w u)) : V G X cc nL R Q cells slots pc lv stk (wr ++ wc) := by
  subst hs
  refine v_run (a := As.toArray) C (fun H locs ls hls hP hD => ?_) kk
  refine va_runS ⟨C.1, C.2.1, C.2.2.2.2.2.1, C.2.2.2.2.1, C.2.2.1⟩ (hM H.size) ⟨callB_of n C.2.2.1 (W0_callee hY.2.1) rfl hrc hrs (C.2.2.1 _ hY.1) (C.2.2.1 _ k1) hY.2.2 hR, C.2.2.1 _ hV⟩ ⟨CT.blind, ct_pre C hP hD⟩ rfl hn hls rfl (lv_room hst) hd hf
theorem v_callSN (C : OK G X cc own nL ret) {S : Type} {w : S → va_W} {post : Option Value → S → Prop} {wr wc : va_W} {mc ms n : Nat} {y : MethodName} {ccy : ByteArray} {nLy : Nat} {rety : Option FieldType} {rm : Room} {idx : Nat} {As stk : List Value} {host : String} (hM : CT G y ccy nLy rety rm mc ms As wc w post) (hY : CY y ccy nLy rety n) (hV : Cond.static y ∈ W0) (k1 : Cond.methodLinkNest own idx y host ∈ nestL) (hd : decode cc pc = .ok (.invokestatic idx, 3)) (hn : As.length = n) (hrc : rm.cells = mc) (hrs : rm.slots = ms) (hR : rm.frames + 1 ≤ R.frames ∧ 8 + (nLy + 11) + rm.locals ≤ R.locals) (hst : (st.map fun v => v.category).sum ≤ 8) (hf : cells + mc ≤ R.cells ∧ slots + ms ≤ R.slots) (hs : stk = As.reverse ++ st) (kk : ∀ (v : Option Value) (u : S), post v u → V G X cc nL R Q (cells + mc) (slots + ms) (pc + 3) lv (v.toList ++ st) (wr ++ w u)) : V G X cc nL R Q cells slots pc lv stk (wr ++ wc) := by
  subst hs
  refine v_run (a := As.toArray) C (fun H locs ls hls hP hD => ?_) kk
  refine va_runSN ⟨C.1, C.2.1, C.2.2.2.2.2.1, C.2.2.2.2.1, C.2.2.1⟩ (hM H.size) ⟨va_cnB n C.2.2.1 (W0_callee hY.2.1) rfl hrc hrs (C.2.2.2.1.2.1 _ k1) (C.2.2.1 _ hY.1) hY.2.2 hR, C.2.2.1 _ hV, trivial⟩ ⟨CT.blind, ct_pre C hP hD⟩ rfl hn hls rfl (lv_room hst) hd hf
theorem v_callI (C : OK G X cc own nL ret) {S : Type} {w : S → va_W} {post : Option Value → S → Prop} {wr wc : va_W} {mc ms n : Nat} {y : MethodName} {ccy : ByteArray} {nLy : Nat} {rm : Room} {idx : Nat} {b : Nat} {As stk : List Value} (hM : CT G y ccy nLy none rm mc ms (.ref b :: As) wc w post) (hY : CY y ccy nLy none n) (hV : Cond.instanceMethod y ∈ W0) (hini : y.name = "<init>") (k1 : Cond.methodLink own idx y ∈ W0) (hd : decode cc pc = .ok (.invokespecial idx, 3)) (hn : As.length = n) (hrc : rm.cells = mc) (hrs : rm.slots = ms) (hR : rm.frames + 1 ≤ R.frames ∧ 8 + (nLy + 11) + rm.locals ≤ R.locals) (hst : (st.map fun v => v.category).sum ≤ 8) (hf : cells + mc ≤ R.cells ∧ slots + ms ≤ R.slots) (hs : stk = As.reverse ++ .ref b :: st) (kk : ∀ (v : Option Value) (u : S), post v u → V G X cc nL R Q (cells + mc) (slots + ms) (pc + 3) lv (v.toList ++ st) (wr ++ w u)) : V G X cc nL R Q cells slots pc lv stk (wr ++ wc) := by
  subst hs
  refine v_run (a := (Value.ref b :: As).toArray) C (fun H locs ls hls hP hD => ?_) kk
  refine va_runI ⟨C.1, C.2.1, C.2.2.2.2.2.1, C.2.2.2.2.1, C.2.2.1⟩ (hM H.size) ⟨callB_of n C.2.2.1 (W0_callee hY.2.1) rfl hrc hrs (C.2.2.1 _ hY.1) (C.2.2.1 _ k1) hY.2.2 hR, hini, C.2.2.1 _ hV⟩ ⟨CT.blind, ct_pre C hP hD⟩ rfl hn hls rfl (lv_room hst) hd hf
theorem v_callIN (C : OK G X cc own nL ret) {S : Type} {w : S → va_W} {post : Option Value → S → Prop} {wr wc : va_W} {mc ms n : Nat} {y : MethodName} {ccy : ByteArray} {nLy : Nat} {rm : Room} {idx : Nat} {b : Nat} {As stk : List Value} {host : String} (hM : CT G y ccy nLy none rm mc ms (.ref b :: As) wc w post) (hY : CY y ccy nLy none n) (hV : Cond.instanceMethod y ∈ W0) (hini : y.name = "<init>") (k1 : Cond.methodLinkNest own idx y host ∈ nestL) (hd : decode cc pc = .ok (.invokespecial idx, 3)) (hn : As.length = n) (hrc : rm.cells = mc) (hrs : rm.slots = ms) (hR : rm.frames + 1 ≤ R.frames ∧ 8 + (nLy + 11) + rm.locals ≤ R.locals) (hst : (st.map fun v => v.category).sum ≤ 8) (hf : cells + mc ≤ R.cells ∧ slots + ms ≤ R.slots) (hs : stk = As.reverse ++ .ref b :: st) (kk : ∀ (v : Option Value) (u : S), post v u → V G X cc nL R Q (cells + mc) (slots + ms) (pc + 3) lv (v.toList ++ st) (wr ++ w u)) : V G X cc nL R Q cells slots pc lv stk (wr ++ wc) := by
  subst hs
  refine v_run (a := (Value.ref b :: As).toArray) C (fun H locs ls hls hP hD => ?_) kk
  refine va_runIN ⟨C.1, C.2.1, C.2.2.2.2.2.1, C.2.2.2.2.1, C.2.2.1⟩ (hM H.size) ⟨va_cnB n C.2.2.1 (W0_callee hY.2.1) rfl hrc hrs (C.2.2.2.1.2.1 _ k1) (C.2.2.1 _ hY.1) hY.2.2 hR, hini, C.2.2.1 _ hV⟩ ⟨CT.blind, ct_pre C hP hD⟩ rfl hn hls rfl (lv_room hst) hd hf
end VR
