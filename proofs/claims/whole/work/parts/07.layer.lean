abbrev St : Type := Nat → Nat → Int32
/-- one number of the state changes -/
def st1 (P : St) (j i : Nat) (v : Int32) : St := va_up P j (upd (P j) i v)
def bI (P : Prop) [Decidable P] : Int32 := if P then 1 else 0
theorem bI_t {P : Prop} [Decidable P] (h : P) : nI 1 = bI P := by rw [bI, if_pos h]; rfl
theorem bI_f {P : Prop} [Decidable P] (h : ¬ P) : nI 0 = bI P := by rw [bI, if_neg h]; rfl
theorem bI_congr {P Q : Prop} [Decidable P] [Decidable Q] (h : P ↔ Q) : bI P = bI Q := by unfold bI; by_cases hp : P <;> simp [hp, ← h]
theorem bI_0 {P : Prop} [Decidable P] : bI P = 0 ↔ ¬ P := by unfold bI; by_cases hp : P <;> simp [hp]
theorem bI_nar {P : Prop} [Decidable P] : narrow .boolean (.int (bI P)) = .int (bI P) := by unfold bI; by_cases hp : P <;> simp [hp] <;> rfl
theorem bI_vnar {P : Prop} [Decidable P] : vp_nar .boolean (bI P) = bI P := by unfold bI; by_cases hp : P <;> simp [hp] <;> rfl
/-- the locals behind a store -/
def xst (lv : List (Nat × Value)) (i : Nat) (v : Value) : List (Nat × Value) := if lv.any (fun q => q.1 == i) then lv.map (fun q => if q.1 == i then (i, v) else q) else lv ++ [(i, v)]
theorem xst_has {ls : Array Slot} {nL i : Nat} {lv : List (Nat × Value)} {v : Value} (h : lv_has ls nL ((i, v) :: lv.filter (fun q => !(q.1 == i) && !(q.1 + 1 == i && q.2.category == 2)))) (hc : lv.all (fun q => q.2.category == 1) = true) : lv_has ls nL (xst lv i v) := by
  refine ⟨h.1, h.2.1, fun q hq => ?_⟩
  have key : q = (i, v) ∨ (q ∈ lv ∧ ¬ q.1 = i) := by
    unfold xst at hq
    split at hq
    · obtain ⟨r, hr, e⟩ := List.mem_map.mp hq
      by_cases hri : r.1 = i
      · rw [if_pos (by simpa using hri)] at e; exact Or.inl e.symm
      · rw [if_neg (by simpa using hri)] at e; subst e; exact Or.inr ⟨hr, hri⟩
    · rename_i hn
      rcases List.mem_append.mp hq with h1 | h1
      · refine Or.inr ⟨h1, fun e => hn ?_⟩
        exact List.any_eq_true.mpr ⟨q, h1, by simpa using e⟩
      · exact Or.inl (List.mem_singleton.mp h1)
  rcases key with rfl | ⟨h1, h2⟩
  · exact h.2.2 _ List.mem_cons_self
  · refine h.2.2 q (List.mem_cons_of_mem _ (List.mem_filter.mpr ⟨h1, ?_⟩))
    have h3 := List.all_eq_true.mp hc q h1
    have h4 : q.2.category = 1 := by simpa using h3
    simp [h2, h4]
section LAYER
variable {p : Program} {l : Launch} {e : Env} {R : Room} {s : State} {m : MethodId} {args : Array Value} {below : List Frame} {meth : Method} {c : Code} {D : va_G} {tys : List (ClassId × FieldType)} {wf : St → St → va_W} {A : Nat → Prop} {cc : ByteArray} {nL : Nat} {own : String} {Q : State → Prop} {rt : Option FieldType}
variable {pc q : Nat} {lv lv' : List (Nat × Value)} {st : List Value} {P T : St}
def XC (p : Program) (s : State) (m : MethodId) (args : Array Value) (meth : Method) (c : Code) (D : va_G) (tys : List (ClassId × FieldType)) (wf : St → St → va_W) (A : Nat → Prop) (cc : ByteArray) (nL : Nat) (own : String) (rt : Option FieldType) : Prop :=
  p.tables.exec = Jvm.exec ∧ c.code = cc ∧ c.maxLocals = nL ∧ s.vm.findClass own = some m.cls ∧ (∀ w ∈ tb, w.before args s = true) ∧ va_K D vwCl tys s ∧ (∀ P T, va_D A (wf P T)) ∧ meth.sig.returnType = rt ∧ meth.locks = false
/-- the machine at pc, with the locals lv, the stack st, over any heap that holds the state (P, T): comes to Q -/
def XW (p : Program) (l : Launch) (e : Env) (R : Room) (s : State) (m : MethodId) (args : Array Value) (below : List Frame) (meth : Method) (c : Code) (D : va_G) (wf : St → St → va_W) (A : Nat → Prop) (nL : Nat) (Q : State → Prop) (pc : Nat) (lv : List (Nat × Value)) (st : List Value) (P T : St) : Prop :=
  ∀ (H : Heap) (locs : List Loc) (ls : Array Slot), va_P D vwCl (wf P T) H → va_S A s.heap H locs → lv_has ls nL lv → W p l e R s m args below meth c H locs 0 0 Q (F0 m pc ls st)
/-- a method's words: its code, and the tables' -/
abbrev wU (y : MethodName) (bytes : ByteArray) (maxL : Nat) (ret : Option FieldType) : List Cond := Cond.code y bytes maxL ret :: tb
def XPre (D : va_G) (tys : List (ClassId × FieldType)) (wf : St → St → va_W) (av : List Value) (P T : St) : Array Value → State → Prop := va_Pc av (fun U => va_P D vwCl (wf P T) U.heap ∧ va_K D vwCl tys U)
def XB (D : va_G) (tys : List (ClassId × FieldType)) (wf : St → St → va_W) : St × St → State → Prop := fun u t => va_P D vwCl (wf u.1 u.2) t.heap ∧ va_K D vwCl tys t
def XPI (D : va_G) (tys : List (ClassId × FieldType)) (wf : St → St → va_W) (A : Nat → Prop) (post : Int32 → St → St → Prop) : Array Value → State → Outcome → State → Prop := va_Qi (fun r (u : St × St) => post r u.1 u.2) (XB D tys wf) A
def XPV (D : va_G) (tys : List (ClassId × FieldType)) (wf : St → St → va_W) (A : Nat → Prop) (post : St → St → Prop) : Array Value → State → Outcome → State → Prop := va_Qv (fun (u : St × St) => post u.1 u.2) (XB D tys wf) A
/-- a method's contract over a state: with an answer, without -/
def XMI (l : Launch) (D : va_G) (tys : List (ClassId × FieldType)) (wf : St → St → va_W) (A : Nat → Prop) (y : MethodName) (bytes : ByteArray) (maxL : Nat) (ret : Option FieldType) (rm : Room) (av : List Value) (P T : St) (post : Int32 → St → St → Prop) : Prop := Met l y (wU y bytes maxL ret) rm (XPre D tys wf av P T) (XPI D tys wf A post) 0 0 A
def XMV (l : Launch) (D : va_G) (tys : List (ClassId × FieldType)) (wf : St → St → va_W) (A : Nat → Prop) (y : MethodName) (bytes : ByteArray) (maxL : Nat) (ret : Option FieldType) (rm : Room) (av : List Value) (P T : St) (post : St → St → Prop) : Prop := Met l y (wU y bytes maxL ret) rm (XPre D tys wf av P T) (XPV D tys wf A post) 0 0 A
theorem XPre.blind {av : List Value} : FrameBlind (XPre D tys wf av P T) := fun _ U g mk h => ⟨h.1, h.2.1, va_K.moved (u := U) (U := U.calling g mk _) (Vm.Alike.refl U.vm) h.2.2⟩

theorem x_start_i {y : MethodName} {rm : Room} {av : List Value} {post : Int32 → St → St → Prop} (hy : plainName y.cls = true) (hown : y.cls = own) (hD : ∀ P T, va_D A (wf P T)) (hlen : (lg_sl av).length ≤ nL) (hlv : lv_args 0 av = lv)
    (body : ∀ p e s m args below meth c, XC p s m args meth c D tys wf A cc nL own rt → XW p l e rm s m args below meth c D wf A nL (MQ below (XPI D tys wf A post) args s 0 0 A) 0 lv [] P T) : XMI l D tys wf A y cc nL rt rm av P T post := by
  refine Met.ofW (cc := cc) (maxL := nL) (ret := rt) hy rfl ?_
  intro p e s m args below meth c s₁ B hml hv
  obtain ⟨rfl, hP, hK⟩ := hv
  have hts := atoms_spec (ws := wU y cc nL rt) B.pre
  have ho : s.vm.findClass own = some m.cls := by rw [← hown]; exact findClass_of_methodNamed B.named
  have hl := lv_entry av (n := nL) hlen
  rw [lg_entry_eq]
  rw [hlv] at hl
  exact body p e s m _ below meth c ⟨B.exec, B.bytes, hml, ho, fun w h => hts w (List.mem_cons_of_mem _ h), hK, hD, B.returns, B.notSynchronized⟩ s.heap [] _ hP va_S.rf hl
theorem x_start_v {y : MethodName} {rm : Room} {av : List Value} {post : St → St → Prop} (hy : plainName y.cls = true) (hown : y.cls = own) (hD : ∀ P T, va_D A (wf P T)) (hlen : (lg_sl av).length ≤ nL) (hlv : lv_args 0 av = lv)
    (body : ∀ p e s m args below meth c, XC p s m args meth c D tys wf A cc nL own rt → XW p l e rm s m args below meth c D wf A nL (MQ below (XPV D tys wf A post) args s 0 0 A) 0 lv [] P T) : XMV l D tys wf A y cc nL rt rm av P T post := by
  refine Met.ofW (cc := cc) (maxL := nL) (ret := rt) hy rfl ?_
  intro p e s m args below meth c s₁ B hml hv
  obtain ⟨rfl, hP, hK⟩ := hv
  have hts := atoms_spec (ws := wU y cc nL rt) B.pre
  have ho : s.vm.findClass own = some m.cls := by rw [← hown]; exact findClass_of_methodNamed B.named
  have hl := lv_entry av (n := nL) hlen
  rw [lg_entry_eq]
  rw [hlv] at hl
  exact body p e s m _ below meth c ⟨B.exec, B.bytes, hml, ho, fun w h => hts w (List.mem_cons_of_mem _ h), hK, hD, B.returns, B.notSynchronized⟩ s.heap [] _ hP va_S.rf hl
theorem x_iconst {n : Int} {v : Int32} (C : XC p s m args meth c D tys wf A cc nL own rt) (d : decode cc pc = .ok (.iconst n, 1)) (hv : Int32.ofInt n = v) (h : pc + 1 = q) (k : XW p l e R s m args below meth c D wf A nL Q q lv (.int v :: st) P T) : XW p l e R s m args below meth c D wf A nL Q pc lv st P T := by
  subst h
  exact fun H locs ls hP hS hl => lv_iconst C.1 C.2.1 d hv (k H locs ls hP hS hl)
theorem x_bipush {n : Int} {v : Int32} (C : XC p s m args meth c D tys wf A cc nL own rt) (d : decode cc pc = .ok (.bipush n, 2)) (hv : (Int8.ofInt n).toInt32 = v) (h : pc + 2 = q) (k : XW p l e R s m args below meth c D wf A nL Q q lv (.int v :: st) P T) : XW p l e R s m args below meth c D wf A nL Q pc lv st P T := by
  subst h
  exact fun H locs ls hP hS hl => lv_bipush C.1 C.2.1 d hv (k H locs ls hP hS hl)
theorem x_sipush {n : Int} {v : Int32} (C : XC p s m args meth c D tys wf A cc nL own rt) (d : decode cc pc = .ok (.sipush n, 3)) (hv : (Int16.ofInt n).toInt32 = v) (h : pc + 3 = q) (k : XW p l e R s m args below meth c D wf A nL Q q lv (.int v :: st) P T) : XW p l e R s m args below meth c D wf A nL Q pc lv st P T := by
  subst h
  exact fun H locs ls hP hS hl => lv_sipush C.1 C.2.1 d hv (k H locs ls hP hS hl)
theorem x_ldc {i : Nat} {v : Int32} (C : XC p s m args meth c D tys wf A cc nL own rt) (hc : Cond.constant own i v ∈ tb) (d : decode cc pc = .ok (.ldc i, 2)) (h : pc + 2 = q) (k : XW p l e R s m args below meth c D wf A nL Q q lv (.int v :: st) P T) : XW p l e R s m args below meth c D wf A nL Q pc lv st P T := by
  subst h
  exact fun H locs ls hP hS hl => lv_ldc C.1 C.2.1 C.2.2.2.1 (C.2.2.2.2.1 _ hc) d (k H locs ls hP hS hl)
theorem x_ldc2 {i : Nat} {v : Int64} (C : XC p s m args meth c D tys wf A cc nL own rt) (hc : Cond.constantLong own i v ∈ tb) (d : decode cc pc = .ok (.ldc2_w i, 3)) (h : pc + 3 = q) (k : XW p l e R s m args below meth c D wf A nL Q q lv (.long v :: st) P T) : XW p l e R s m args below meth c D wf A nL Q pc lv st P T := by
  subst h
  exact fun H locs ls hP hS hl => lv_ldc2 C.1 C.2.1 C.2.2.2.1 (C.2.2.2.2.1 _ hc) d (k H locs ls hP hS hl)
theorem x_lconst {n : Fin 2} {v : Int64} (C : XC p s m args meth c D tys wf A cc nL own rt) (d : decode cc pc = .ok (.lconst n, 1)) (hv : Int64.ofNat (n : Nat) = v) (h : pc + 1 = q) (k : XW p l e R s m args below meth c D wf A nL Q q lv (.long v :: st) P T) : XW p l e R s m args below meth c D wf A nL Q pc lv st P T := by
  subst h
  exact fun H locs ls hP hS hl => lv_lconst C.1 C.2.1 d hv (k H locs ls hP hS hl)
theorem x_iload_n {kk : Fin 4} {i : Nat} {x : Int32} (C : XC p s m args meth c D tys wf A cc nL own rt) (d : decode cc pc = .ok (.iload_n kk, 1)) (hi : (kk : Nat) = i) (j : Nat) (hj : lv[j]? = some (i, .int x)) (h : pc + 1 = q) (k : XW p l e R s m args below meth c D wf A nL Q q lv (.int x :: st) P T) : XW p l e R s m args below meth c D wf A nL Q pc lv st P T := by
  subst h
  exact fun H locs ls hP hS hl => lv_iload_n C.1 C.2.1 d hi (lv_at hl j hj) (k H locs ls hP hS hl)
theorem x_iload {i : Nat} {x : Int32} (C : XC p s m args meth c D tys wf A cc nL own rt) (d : decode cc pc = .ok (.iload i, 2)) (j : Nat) (hj : lv[j]? = some (i, .int x)) (h : pc + 2 = q) (k : XW p l e R s m args below meth c D wf A nL Q q lv (.int x :: st) P T) : XW p l e R s m args below meth c D wf A nL Q pc lv st P T := by
  subst h
  exact fun H locs ls hP hS hl => lv_iload C.1 C.2.1 d (lv_at hl j hj) (k H locs ls hP hS hl)
theorem x_lload_n {kk : Fin 4} {i : Nat} {x : Int64} (C : XC p s m args meth c D tys wf A cc nL own rt) (d : decode cc pc = .ok (.lload_n kk, 1)) (hi : (kk : Nat) = i) (j : Nat) (hj : lv[j]? = some (i, .long x)) (h : pc + 1 = q) (k : XW p l e R s m args below meth c D wf A nL Q q lv (.long x :: st) P T) : XW p l e R s m args below meth c D wf A nL Q pc lv st P T := by
  subst h
  exact fun H locs ls hP hS hl => lv_lload_n C.1 C.2.1 d hi (lv_at hl j hj) (k H locs ls hP hS hl)
theorem x_lload {i : Nat} {x : Int64} (C : XC p s m args meth c D tys wf A cc nL own rt) (d : decode cc pc = .ok (.lload i, 2)) (j : Nat) (hj : lv[j]? = some (i, .long x)) (h : pc + 2 = q) (k : XW p l e R s m args below meth c D wf A nL Q q lv (.long x :: st) P T) : XW p l e R s m args below meth c D wf A nL Q pc lv st P T := by
  subst h
  exact fun H locs ls hP hS hl => lv_lload C.1 C.2.1 d (lv_at hl j hj) (k H locs ls hP hS hl)
theorem x_aload_n {kk : Fin 4} {i : Nat} {x : Nat} (C : XC p s m args meth c D tys wf A cc nL own rt) (d : decode cc pc = .ok (.aload_n kk, 1)) (hi : (kk : Nat) = i) (j : Nat) (hj : lv[j]? = some (i, .ref x)) (h : pc + 1 = q) (k : XW p l e R s m args below meth c D wf A nL Q q lv (.ref x :: st) P T) : XW p l e R s m args below meth c D wf A nL Q pc lv st P T := by
  subst h
  exact fun H locs ls hP hS hl => lv_aload_n C.1 C.2.1 d hi (lv_at hl j hj) (k H locs ls hP hS hl)
theorem x_aload {i : Nat} {x : Nat} (C : XC p s m args meth c D tys wf A cc nL own rt) (d : decode cc pc = .ok (.aload i, 2)) (j : Nat) (hj : lv[j]? = some (i, .ref x)) (h : pc + 2 = q) (k : XW p l e R s m args below meth c D wf A nL Q q lv (.ref x :: st) P T) : XW p l e R s m args below meth c D wf A nL Q pc lv st P T := by
  subst h
  exact fun H locs ls hP hS hl => lv_aload C.1 C.2.1 d (lv_at hl j hj) (k H locs ls hP hS hl)
theorem x_istore_n {kk : Fin 4} {i : Nat} {x : Int32} (C : XC p s m args meth c D tys wf A cc nL own rt) (d : decode cc pc = .ok (.istore_n kk, 1)) (hi : (kk : Nat) = i) (hn : i < nL) (hc : lv.all (fun q => q.2.category == 1) = true) (hx : xst lv i (.int x) = lv') (h : pc + 1 = q) (k : XW p l e R s m args below meth c D wf A nL Q q lv' st P T) : XW p l e R s m args below meth c D wf A nL Q pc lv (.int x :: st) P T := by
  subst h
  exact fun H locs ls hP hS hl => lv_istore_n C.1 C.2.1 d hi hl hn rfl (fun ls' hl' => k H locs ls' hP hS (hx ▸ xst_has hl' hc))
theorem x_istore {i : Nat} {x : Int32} (C : XC p s m args meth c D tys wf A cc nL own rt) (d : decode cc pc = .ok (.istore i, 2)) (hn : i < nL) (hc : lv.all (fun q => q.2.category == 1) = true) (hx : xst lv i (.int x) = lv') (h : pc + 2 = q) (k : XW p l e R s m args below meth c D wf A nL Q q lv' st P T) : XW p l e R s m args below meth c D wf A nL Q pc lv (.int x :: st) P T := by
  subst h
  exact fun H locs ls hP hS hl => lv_istore C.1 C.2.1 d hl hn rfl (fun ls' hl' => k H locs ls' hP hS (hx ▸ xst_has hl' hc))
theorem x_iinc {i : Nat} {n : Int} {x v : Int32} (C : XC p s m args meth c D tys wf A cc nL own rt) (d : decode cc pc = .ok (.iinc i n, 3)) (j : Nat) (hj : lv[j]? = some (i, .int x)) (hv : x + Int32.ofInt n = v) (hn : i < nL) (hc : lv.all (fun q => q.2.category == 1) = true) (hx : xst lv i (.int v) = lv') (h : pc + 3 = q) (k : XW p l e R s m args below meth c D wf A nL Q q lv' st P T) : XW p l e R s m args below meth c D wf A nL Q pc lv st P T := by
  subst h
  exact fun H locs ls hP hS hl => lv_iinc C.1 C.2.1 d hl hj hv hn rfl (fun ls' hl' => k H locs ls' hP hS (hx ▸ xst_has hl' hc))
theorem x_iadd {x y : Int32} (C : XC p s m args meth c D tys wf A cc nL own rt) (d : decode cc pc = .ok (.iadd, 1)) (h : pc + 1 = q) (k : XW p l e R s m args below meth c D wf A nL Q q lv (.int (x + y) :: st) P T) : XW p l e R s m args below meth c D wf A nL Q pc lv (.int y :: .int x :: st) P T := by
  subst h
  exact fun H locs ls hP hS hl => lv_iadd C.1 C.2.1 d (k H locs ls hP hS hl)
theorem x_isub {x y : Int32} (C : XC p s m args meth c D tys wf A cc nL own rt) (d : decode cc pc = .ok (.isub, 1)) (h : pc + 1 = q) (k : XW p l e R s m args below meth c D wf A nL Q q lv (.int (x - y) :: st) P T) : XW p l e R s m args below meth c D wf A nL Q pc lv (.int y :: .int x :: st) P T := by
  subst h
  exact fun H locs ls hP hS hl => lv_isub C.1 C.2.1 d (k H locs ls hP hS hl)
theorem x_imul {x y : Int32} (C : XC p s m args meth c D tys wf A cc nL own rt) (d : decode cc pc = .ok (.imul, 1)) (h : pc + 1 = q) (k : XW p l e R s m args below meth c D wf A nL Q q lv (.int (x * y) :: st) P T) : XW p l e R s m args below meth c D wf A nL Q pc lv (.int y :: .int x :: st) P T := by
  subst h
  exact fun H locs ls hP hS hl => lv_imul C.1 C.2.1 d (k H locs ls hP hS hl)
theorem x_iand {x y : Int32} (C : XC p s m args meth c D tys wf A cc nL own rt) (d : decode cc pc = .ok (.iand, 1)) (h : pc + 1 = q) (k : XW p l e R s m args below meth c D wf A nL Q q lv (.int (x &&& y) :: st) P T) : XW p l e R s m args below meth c D wf A nL Q pc lv (.int y :: .int x :: st) P T := by
  subst h
  exact fun H locs ls hP hS hl => lv_iand C.1 C.2.1 d (k H locs ls hP hS hl)
theorem x_ineg {x : Int32} (C : XC p s m args meth c D tys wf A cc nL own rt) (d : decode cc pc = .ok (.ineg, 1)) (h : pc + 1 = q) (k : XW p l e R s m args below meth c D wf A nL Q q lv (.int (-x) :: st) P T) : XW p l e R s m args below meth c D wf A nL Q pc lv (.int x :: st) P T := by
  subst h
  exact fun H locs ls hP hS hl => lv_ineg C.1 C.2.1 d (k H locs ls hP hS hl)
theorem x_i2l {x : Int32} (C : XC p s m args meth c D tys wf A cc nL own rt) (d : decode cc pc = .ok (.i2l, 1)) (h : pc + 1 = q) (k : XW p l e R s m args below meth c D wf A nL Q q lv (.long x.toInt64 :: st) P T) : XW p l e R s m args below meth c D wf A nL Q pc lv (.int x :: st) P T := by
  subst h
  exact fun H locs ls hP hS hl => lv_i2l C.1 C.2.1 d rfl (k H locs ls hP hS hl)
theorem x_l2i {x : Int64} (C : XC p s m args meth c D tys wf A cc nL own rt) (d : decode cc pc = .ok (.l2i, 1)) (h : pc + 1 = q) (k : XW p l e R s m args below meth c D wf A nL Q q lv (.int x.toInt32 :: st) P T) : XW p l e R s m args below meth c D wf A nL Q pc lv (.long x :: st) P T := by
  subst h
  exact fun H locs ls hP hS hl => lv_l2i C.1 C.2.1 d rfl (k H locs ls hP hS hl)
theorem x_ladd {x y : Int64} (C : XC p s m args meth c D tys wf A cc nL own rt) (d : decode cc pc = .ok (.ladd, 1)) (h : pc + 1 = q) (k : XW p l e R s m args below meth c D wf A nL Q q lv (.long (x + y) :: st) P T) : XW p l e R s m args below meth c D wf A nL Q pc lv (.long y :: .long x :: st) P T := by
  subst h
  exact fun H locs ls hP hS hl => lv_ladd C.1 C.2.1 d (k H locs ls hP hS hl)
theorem x_lmul {x y : Int64} (C : XC p s m args meth c D tys wf A cc nL own rt) (d : decode cc pc = .ok (.lmul, 1)) (h : pc + 1 = q) (k : XW p l e R s m args below meth c D wf A nL Q q lv (.long (x * y) :: st) P T) : XW p l e R s m args below meth c D wf A nL Q pc lv (.long y :: .long x :: st) P T := by
  subst h
  exact fun H locs ls hP hS hl => lv_lmul C.1 C.2.1 d (k H locs ls hP hS hl)
theorem x_lcmp {x y : Int64} (C : XC p s m args meth c D tys wf A cc nL own rt) (d : decode cc pc = .ok (.lcmp, 1)) (h : pc + 1 = q) (k : XW p l e R s m args below meth c D wf A nL Q q lv (.int (lg_cmp x y) :: st) P T) : XW p l e R s m args below meth c D wf A nL Q pc lv (.long y :: .long x :: st) P T := by
  subst h
  exact fun H locs ls hP hS hl => W.lcmp C.1 C.2.1 d (k H locs ls hP hS hl)
theorem x_dup {v : Value} (C : XC p s m args meth c D tys wf A cc nL own rt) (d : decode cc pc = .ok (.dup, 1)) (hv : v.category = 1) (h : pc + 1 = q) (k : XW p l e R s m args below meth c D wf A nL Q q lv (v :: v :: st) P T) : XW p l e R s m args below meth c D wf A nL Q pc lv (v :: st) P T := by
  subst h
  exact fun H locs ls hP hS hl => lv_dup C.1 C.2.1 d hv (k H locs ls hP hS hl)
theorem x_dup2 {v w : Value} (C : XC p s m args meth c D tys wf A cc nL own rt) (d : decode cc pc = .ok (.dup2, 1)) (hv : v.category = 1) (hw : w.category = 1) (h : pc + 1 = q) (k : XW p l e R s m args below meth c D wf A nL Q q lv (v :: w :: v :: w :: st) P T) : XW p l e R s m args below meth c D wf A nL Q pc lv (v :: w :: st) P T := by
  subst h
  exact fun H locs ls hP hS hl => lv_dup2_11 C.1 C.2.1 d hv hw (k H locs ls hP hS hl)
theorem x_idiv_n {a b : Nat} (C : XC p s m args meth c D tys wf A cc nL own rt) (d : decode cc pc = .ok (.idiv, 1)) (ha : a < 2 ^ 31) (h0 : 0 < b) (hb : b < 2 ^ 31) (h : pc + 1 = q) (k : XW p l e R s m args below meth c D wf A nL Q q lv (.int (nI (a / b)) :: st) P T) : XW p l e R s m args below meth c D wf A nL Q pc lv (.int (nI b) :: .int (nI a) :: st) P T := by
  subst h
  intro H locs ls hP hS hl
  have k := k H locs ls hP hS hl
  rw [← pk_div ha h0 hb] at k
  exact lv_idiv C.1 C.2.1 d (nI_ne0 h0 hb) k
theorem x_irem_n {a b : Nat} (C : XC p s m args meth c D tys wf A cc nL own rt) (d : decode cc pc = .ok (.irem, 1)) (ha : a < 2 ^ 31) (h0 : 0 < b) (hb : b < 2 ^ 31) (h : pc + 1 = q) (k : XW p l e R s m args below meth c D wf A nL Q q lv (.int (nI (a % b)) :: st) P T) : XW p l e R s m args below meth c D wf A nL Q pc lv (.int (nI b) :: .int (nI a) :: st) P T := by
  subst h
  intro H locs ls hP hS hl
  have k := k H locs ls hP hS hl
  rw [← pk_rem ha h0 hb] at k
  exact lv_irem C.1 C.2.1 d (nI_ne0 h0 hb) k
theorem x_lrem {x y : Int64} (C : XC p s m args meth c D tys wf A cc nL own rt) (d : decode cc pc = .ok (.lrem, 1)) (hne : ¬ y = 0) (h : pc + 1 = q) (k : XW p l e R s m args below meth c D wf A nL Q q lv (.long (x - x / y * y) :: st) P T) : XW p l e R s m args below meth c D wf A nL Q pc lv (.long y :: .long x :: st) P T := by
  subst h
  exact fun H locs ls hP hS hl => lv_lrem C.1 C.2.1 d hne (k H locs ls hP hS hl)
theorem x_iadd_n {a b : Nat} (C : XC p s m args meth c D tys wf A cc nL own rt) (d : decode cc pc = .ok (.iadd, 1)) (h : pc + 1 = q) (k : XW p l e R s m args below meth c D wf A nL Q q lv (.int (nI (a + b)) :: st) P T) : XW p l e R s m args below meth c D wf A nL Q pc lv (.int (nI b) :: .int (nI a) :: st) P T := x_iadd C d h (by rw [nI_add a b]; exact k)
theorem x_imul_n {a b : Nat} (C : XC p s m args meth c D tys wf A cc nL own rt) (d : decode cc pc = .ok (.imul, 1)) (h : pc + 1 = q) (k : XW p l e R s m args below meth c D wf A nL Q q lv (.int (nI (a * b)) :: st) P T) : XW p l e R s m args below meth c D wf A nL Q pc lv (.int (nI b) :: .int (nI a) :: st) P T := x_imul C d h (by rw [pk_mul a b]; exact k)
theorem x_isub_n {a b : Nat} (C : XC p s m args meth c D tys wf A cc nL own rt) (d : decode cc pc = .ok (.isub, 1)) (hab : b ≤ a) (h : pc + 1 = q) (k : XW p l e R s m args below meth c D wf A nL Q q lv (.int (nI (a - b)) :: st) P T) : XW p l e R s m args below meth c D wf A nL Q pc lv (.int (nI b) :: .int (nI a) :: st) P T := x_isub C d h (by rw [pk_sub hab]; exact k)
theorem x_icmp_eq {x y : Int32} {off : Int} {tgt : Nat} (C : XC p s m args meth c D tys wf A cc nL own rt) (d : decode cc pc = .ok (.if_icmp .eq off, 3)) (ht : (pc : Int) + off = (tgt : Int)) (h : pc + 3 = q) (kt : x = y → XW p l e R s m args below meth c D wf A nL Q tgt lv st P T) (kf : ¬ (x = y) → XW p l e R s m args below meth c D wf A nL Q q lv st P T) : XW p l e R s m args below meth c D wf A nL Q pc lv (.int y :: .int x :: st) P T := by
  subst h
  exact fun H locs ls hP hS hl => lv_icmp_eq C.1 C.2.1 d ht (fun z => kt z H locs ls hP hS hl) (fun z => kf z H locs ls hP hS hl)
theorem x_if_eq {x : Int32} {off : Int} {tgt : Nat} (C : XC p s m args meth c D tys wf A cc nL own rt) (d : decode cc pc = .ok (.ifCond .eq off, 3)) (ht : (pc : Int) + off = (tgt : Int)) (h : pc + 3 = q) (kt : x = 0 → XW p l e R s m args below meth c D wf A nL Q tgt lv st P T) (kf : ¬ (x = 0) → XW p l e R s m args below meth c D wf A nL Q q lv st P T) : XW p l e R s m args below meth c D wf A nL Q pc lv (.int x :: st) P T := by
  subst h
  exact fun H locs ls hP hS hl => lv_if_eq C.1 C.2.1 d ht (fun z => kt z H locs ls hP hS hl) (fun z => kf z H locs ls hP hS hl)
theorem x_icmp_ne {x y : Int32} {off : Int} {tgt : Nat} (C : XC p s m args meth c D tys wf A cc nL own rt) (d : decode cc pc = .ok (.if_icmp .ne off, 3)) (ht : (pc : Int) + off = (tgt : Int)) (h : pc + 3 = q) (kt : ¬ x = y → XW p l e R s m args below meth c D wf A nL Q tgt lv st P T) (kf : x = y → XW p l e R s m args below meth c D wf A nL Q q lv st P T) : XW p l e R s m args below meth c D wf A nL Q pc lv (.int y :: .int x :: st) P T := by
  subst h
  exact fun H locs ls hP hS hl => lv_icmp_ne C.1 C.2.1 d ht (fun z => kt z H locs ls hP hS hl) (fun z => kf z H locs ls hP hS hl)
theorem x_if_ne {x : Int32} {off : Int} {tgt : Nat} (C : XC p s m args meth c D tys wf A cc nL own rt) (d : decode cc pc = .ok (.ifCond .ne off, 3)) (ht : (pc : Int) + off = (tgt : Int)) (h : pc + 3 = q) (kt : ¬ x = 0 → XW p l e R s m args below meth c D wf A nL Q tgt lv st P T) (kf : x = 0 → XW p l e R s m args below meth c D wf A nL Q q lv st P T) : XW p l e R s m args below meth c D wf A nL Q pc lv (.int x :: st) P T := by
  subst h
  exact fun H locs ls hP hS hl => lv_if_ne C.1 C.2.1 d ht (fun z => kt z H locs ls hP hS hl) (fun z => kf z H locs ls hP hS hl)
theorem x_icmp_lt {x y : Int32} {off : Int} {tgt : Nat} (C : XC p s m args meth c D tys wf A cc nL own rt) (d : decode cc pc = .ok (.if_icmp .lt off, 3)) (ht : (pc : Int) + off = (tgt : Int)) (h : pc + 3 = q) (kt : x < y → XW p l e R s m args below meth c D wf A nL Q tgt lv st P T) (kf : ¬ (x < y) → XW p l e R s m args below meth c D wf A nL Q q lv st P T) : XW p l e R s m args below meth c D wf A nL Q pc lv (.int y :: .int x :: st) P T := by
  subst h
  exact fun H locs ls hP hS hl => lv_icmp_lt C.1 C.2.1 d ht (fun z => kt z H locs ls hP hS hl) (fun z => kf z H locs ls hP hS hl)
theorem x_if_lt {x : Int32} {off : Int} {tgt : Nat} (C : XC p s m args meth c D tys wf A cc nL own rt) (d : decode cc pc = .ok (.ifCond .lt off, 3)) (ht : (pc : Int) + off = (tgt : Int)) (h : pc + 3 = q) (kt : x < 0 → XW p l e R s m args below meth c D wf A nL Q tgt lv st P T) (kf : ¬ (x < 0) → XW p l e R s m args below meth c D wf A nL Q q lv st P T) : XW p l e R s m args below meth c D wf A nL Q pc lv (.int x :: st) P T := by
  subst h
  exact fun H locs ls hP hS hl => lv_if_lt C.1 C.2.1 d ht (fun z => kt z H locs ls hP hS hl) (fun z => kf z H locs ls hP hS hl)
theorem x_icmp_ge {x y : Int32} {off : Int} {tgt : Nat} (C : XC p s m args meth c D tys wf A cc nL own rt) (d : decode cc pc = .ok (.if_icmp .ge off, 3)) (ht : (pc : Int) + off = (tgt : Int)) (h : pc + 3 = q) (kt : y ≤ x → XW p l e R s m args below meth c D wf A nL Q tgt lv st P T) (kf : ¬ (y ≤ x) → XW p l e R s m args below meth c D wf A nL Q q lv st P T) : XW p l e R s m args below meth c D wf A nL Q pc lv (.int y :: .int x :: st) P T := by
  subst h
  exact fun H locs ls hP hS hl => lv_icmp_ge C.1 C.2.1 d ht (fun z => kt z H locs ls hP hS hl) (fun z => kf z H locs ls hP hS hl)
theorem x_if_ge {x : Int32} {off : Int} {tgt : Nat} (C : XC p s m args meth c D tys wf A cc nL own rt) (d : decode cc pc = .ok (.ifCond .ge off, 3)) (ht : (pc : Int) + off = (tgt : Int)) (h : pc + 3 = q) (kt : 0 ≤ x → XW p l e R s m args below meth c D wf A nL Q tgt lv st P T) (kf : ¬ (0 ≤ x) → XW p l e R s m args below meth c D wf A nL Q q lv st P T) : XW p l e R s m args below meth c D wf A nL Q pc lv (.int x :: st) P T := by
  subst h
  exact fun H locs ls hP hS hl => lv_if_ge C.1 C.2.1 d ht (fun z => kt z H locs ls hP hS hl) (fun z => kf z H locs ls hP hS hl)
theorem x_icmp_gt {x y : Int32} {off : Int} {tgt : Nat} (C : XC p s m args meth c D tys wf A cc nL own rt) (d : decode cc pc = .ok (.if_icmp .gt off, 3)) (ht : (pc : Int) + off = (tgt : Int)) (h : pc + 3 = q) (kt : y < x → XW p l e R s m args below meth c D wf A nL Q tgt lv st P T) (kf : ¬ (y < x) → XW p l e R s m args below meth c D wf A nL Q q lv st P T) : XW p l e R s m args below meth c D wf A nL Q pc lv (.int y :: .int x :: st) P T := by
  subst h
  exact fun H locs ls hP hS hl => lv_icmp_gt C.1 C.2.1 d ht (fun z => kt z H locs ls hP hS hl) (fun z => kf z H locs ls hP hS hl)
theorem x_if_gt {x : Int32} {off : Int} {tgt : Nat} (C : XC p s m args meth c D tys wf A cc nL own rt) (d : decode cc pc = .ok (.ifCond .gt off, 3)) (ht : (pc : Int) + off = (tgt : Int)) (h : pc + 3 = q) (kt : 0 < x → XW p l e R s m args below meth c D wf A nL Q tgt lv st P T) (kf : ¬ (0 < x) → XW p l e R s m args below meth c D wf A nL Q q lv st P T) : XW p l e R s m args below meth c D wf A nL Q pc lv (.int x :: st) P T := by
  subst h
  exact fun H locs ls hP hS hl => lv_if_gt C.1 C.2.1 d ht (fun z => kt z H locs ls hP hS hl) (fun z => kf z H locs ls hP hS hl)
theorem x_icmp_le {x y : Int32} {off : Int} {tgt : Nat} (C : XC p s m args meth c D tys wf A cc nL own rt) (d : decode cc pc = .ok (.if_icmp .le off, 3)) (ht : (pc : Int) + off = (tgt : Int)) (h : pc + 3 = q) (kt : x ≤ y → XW p l e R s m args below meth c D wf A nL Q tgt lv st P T) (kf : ¬ (x ≤ y) → XW p l e R s m args below meth c D wf A nL Q q lv st P T) : XW p l e R s m args below meth c D wf A nL Q pc lv (.int y :: .int x :: st) P T := by
  subst h
  exact fun H locs ls hP hS hl => lv_icmp_le C.1 C.2.1 d ht (fun z => kt z H locs ls hP hS hl) (fun z => kf z H locs ls hP hS hl)
theorem x_if_le {x : Int32} {off : Int} {tgt : Nat} (C : XC p s m args meth c D tys wf A cc nL own rt) (d : decode cc pc = .ok (.ifCond .le off, 3)) (ht : (pc : Int) + off = (tgt : Int)) (h : pc + 3 = q) (kt : x ≤ 0 → XW p l e R s m args below meth c D wf A nL Q tgt lv st P T) (kf : ¬ (x ≤ 0) → XW p l e R s m args below meth c D wf A nL Q q lv st P T) : XW p l e R s m args below meth c D wf A nL Q pc lv (.int x :: st) P T := by
  subst h
  exact fun H locs ls hP hS hl => lv_if_le C.1 C.2.1 d ht (fun z => kt z H locs ls hP hS hl) (fun z => kf z H locs ls hP hS hl)
theorem x_icmp_eq_n {a b : Nat} {off : Int} {tgt : Nat} (C : XC p s m args meth c D tys wf A cc nL own rt) (d : decode cc pc = .ok (.if_icmp .eq off, 3)) (ha : a < 2 ^ 31) (hb : b < 2 ^ 31) (ht : (pc : Int) + off = (tgt : Int)) (h : pc + 3 = q) (kt : a = b → XW p l e R s m args below meth c D wf A nL Q tgt lv st P T) (kf : ¬ (a = b) → XW p l e R s m args below meth c D wf A nL Q q lv st P T) : XW p l e R s m args below meth c D wf A nL Q pc lv (.int (nI b) :: .int (nI a) :: st) P T :=
  x_icmp_eq C d ht h (fun z => kt ((nI_eq ha hb).mp z)) (fun z => kf (fun w => z ((nI_eq ha hb).mpr w)))
theorem x_if_eq_n {a : Nat} {off : Int} {tgt : Nat} (C : XC p s m args meth c D tys wf A cc nL own rt) (d : decode cc pc = .ok (.ifCond .eq off, 3)) (ha : a < 2 ^ 31) (ht : (pc : Int) + off = (tgt : Int)) (h : pc + 3 = q) (kt : a = 0 → XW p l e R s m args below meth c D wf A nL Q tgt lv st P T) (kf : ¬ (a = 0) → XW p l e R s m args below meth c D wf A nL Q q lv st P T) : XW p l e R s m args below meth c D wf A nL Q pc lv (.int (nI a) :: st) P T := by
  have hb : 0 < 2 ^ 31 := by decide
  have hiff := (nI_eq ha hb)
  rw [nI_0] at hiff
  exact x_if_eq C d ht h (fun z => kt (hiff.mp z)) (fun z => kf (fun w => z (hiff.mpr w)))
theorem x_icmp_ne_n {a b : Nat} {off : Int} {tgt : Nat} (C : XC p s m args meth c D tys wf A cc nL own rt) (d : decode cc pc = .ok (.if_icmp .ne off, 3)) (ha : a < 2 ^ 31) (hb : b < 2 ^ 31) (ht : (pc : Int) + off = (tgt : Int)) (h : pc + 3 = q) (kt : ¬ a = b → XW p l e R s m args below meth c D wf A nL Q tgt lv st P T) (kf : a = b → XW p l e R s m args below meth c D wf A nL Q q lv st P T) : XW p l e R s m args below meth c D wf A nL Q pc lv (.int (nI b) :: .int (nI a) :: st) P T :=
  x_icmp_ne C d ht h (fun z => kt ((not_congr (nI_eq ha hb)).mp z)) (fun z => kf ((nI_eq ha hb).mp z))
theorem x_if_ne_n {a : Nat} {off : Int} {tgt : Nat} (C : XC p s m args meth c D tys wf A cc nL own rt) (d : decode cc pc = .ok (.ifCond .ne off, 3)) (ha : a < 2 ^ 31) (ht : (pc : Int) + off = (tgt : Int)) (h : pc + 3 = q) (kt : ¬ a = 0 → XW p l e R s m args below meth c D wf A nL Q tgt lv st P T) (kf : a = 0 → XW p l e R s m args below meth c D wf A nL Q q lv st P T) : XW p l e R s m args below meth c D wf A nL Q pc lv (.int (nI a) :: st) P T := by
  have hb : 0 < 2 ^ 31 := by decide
  have hiff := (not_congr (nI_eq ha hb))
  rw [nI_0] at hiff
  exact x_if_ne C d ht h (fun z => kt (hiff.mp z)) (fun z => kf (Decidable.byContradiction fun w => hiff.mpr w z))
theorem x_icmp_lt_n {a b : Nat} {off : Int} {tgt : Nat} (C : XC p s m args meth c D tys wf A cc nL own rt) (d : decode cc pc = .ok (.if_icmp .lt off, 3)) (ha : a < 2 ^ 31) (hb : b < 2 ^ 31) (ht : (pc : Int) + off = (tgt : Int)) (h : pc + 3 = q) (kt : a < b → XW p l e R s m args below meth c D wf A nL Q tgt lv st P T) (kf : ¬ (a < b) → XW p l e R s m args below meth c D wf A nL Q q lv st P T) : XW p l e R s m args below meth c D wf A nL Q pc lv (.int (nI b) :: .int (nI a) :: st) P T :=
  x_icmp_lt C d ht h (fun z => kt ((nI_ltI ha hb).mp z)) (fun z => kf (fun w => z ((nI_ltI ha hb).mpr w)))
theorem x_if_lt_n {a : Nat} {off : Int} {tgt : Nat} (C : XC p s m args meth c D tys wf A cc nL own rt) (d : decode cc pc = .ok (.ifCond .lt off, 3)) (ha : a < 2 ^ 31) (ht : (pc : Int) + off = (tgt : Int)) (h : pc + 3 = q) (kt : a < 0 → XW p l e R s m args below meth c D wf A nL Q tgt lv st P T) (kf : ¬ (a < 0) → XW p l e R s m args below meth c D wf A nL Q q lv st P T) : XW p l e R s m args below meth c D wf A nL Q pc lv (.int (nI a) :: st) P T := by
  have hb : 0 < 2 ^ 31 := by decide
  have hiff := (nI_ltI ha hb)
  rw [nI_0] at hiff
  exact x_if_lt C d ht h (fun z => kt (hiff.mp z)) (fun z => kf (fun w => z (hiff.mpr w)))
theorem x_icmp_ge_n {a b : Nat} {off : Int} {tgt : Nat} (C : XC p s m args meth c D tys wf A cc nL own rt) (d : decode cc pc = .ok (.if_icmp .ge off, 3)) (ha : a < 2 ^ 31) (hb : b < 2 ^ 31) (ht : (pc : Int) + off = (tgt : Int)) (h : pc + 3 = q) (kt : b ≤ a → XW p l e R s m args below meth c D wf A nL Q tgt lv st P T) (kf : ¬ (b ≤ a) → XW p l e R s m args below meth c D wf A nL Q q lv st P T) : XW p l e R s m args below meth c D wf A nL Q pc lv (.int (nI b) :: .int (nI a) :: st) P T :=
  x_icmp_ge C d ht h (fun z => kt ((nI_leI hb ha).mp z)) (fun z => kf (fun w => z ((nI_leI hb ha).mpr w)))
theorem x_if_ge_n {a : Nat} {off : Int} {tgt : Nat} (C : XC p s m args meth c D tys wf A cc nL own rt) (d : decode cc pc = .ok (.ifCond .ge off, 3)) (ha : a < 2 ^ 31) (ht : (pc : Int) + off = (tgt : Int)) (h : pc + 3 = q) (kt : 0 ≤ a → XW p l e R s m args below meth c D wf A nL Q tgt lv st P T) (kf : ¬ (0 ≤ a) → XW p l e R s m args below meth c D wf A nL Q q lv st P T) : XW p l e R s m args below meth c D wf A nL Q pc lv (.int (nI a) :: st) P T := by
  have hb : 0 < 2 ^ 31 := by decide
  have hiff := (nI_leI hb ha)
  rw [nI_0] at hiff
  exact x_if_ge C d ht h (fun z => kt (hiff.mp z)) (fun z => kf (fun w => z (hiff.mpr w)))
theorem x_icmp_gt_n {a b : Nat} {off : Int} {tgt : Nat} (C : XC p s m args meth c D tys wf A cc nL own rt) (d : decode cc pc = .ok (.if_icmp .gt off, 3)) (ha : a < 2 ^ 31) (hb : b < 2 ^ 31) (ht : (pc : Int) + off = (tgt : Int)) (h : pc + 3 = q) (kt : b < a → XW p l e R s m args below meth c D wf A nL Q tgt lv st P T) (kf : ¬ (b < a) → XW p l e R s m args below meth c D wf A nL Q q lv st P T) : XW p l e R s m args below meth c D wf A nL Q pc lv (.int (nI b) :: .int (nI a) :: st) P T :=
  x_icmp_gt C d ht h (fun z => kt ((nI_ltI hb ha).mp z)) (fun z => kf (fun w => z ((nI_ltI hb ha).mpr w)))
theorem x_if_gt_n {a : Nat} {off : Int} {tgt : Nat} (C : XC p s m args meth c D tys wf A cc nL own rt) (d : decode cc pc = .ok (.ifCond .gt off, 3)) (ha : a < 2 ^ 31) (ht : (pc : Int) + off = (tgt : Int)) (h : pc + 3 = q) (kt : 0 < a → XW p l e R s m args below meth c D wf A nL Q tgt lv st P T) (kf : ¬ (0 < a) → XW p l e R s m args below meth c D wf A nL Q q lv st P T) : XW p l e R s m args below meth c D wf A nL Q pc lv (.int (nI a) :: st) P T := by
  have hb : 0 < 2 ^ 31 := by decide
  have hiff := (nI_ltI hb ha)
  rw [nI_0] at hiff
  exact x_if_gt C d ht h (fun z => kt (hiff.mp z)) (fun z => kf (fun w => z (hiff.mpr w)))
theorem x_icmp_le_n {a b : Nat} {off : Int} {tgt : Nat} (C : XC p s m args meth c D tys wf A cc nL own rt) (d : decode cc pc = .ok (.if_icmp .le off, 3)) (ha : a < 2 ^ 31) (hb : b < 2 ^ 31) (ht : (pc : Int) + off = (tgt : Int)) (h : pc + 3 = q) (kt : a ≤ b → XW p l e R s m args below meth c D wf A nL Q tgt lv st P T) (kf : ¬ (a ≤ b) → XW p l e R s m args below meth c D wf A nL Q q lv st P T) : XW p l e R s m args below meth c D wf A nL Q pc lv (.int (nI b) :: .int (nI a) :: st) P T :=
  x_icmp_le C d ht h (fun z => kt ((nI_leI ha hb).mp z)) (fun z => kf (fun w => z ((nI_leI ha hb).mpr w)))
theorem x_if_le_n {a : Nat} {off : Int} {tgt : Nat} (C : XC p s m args meth c D tys wf A cc nL own rt) (d : decode cc pc = .ok (.ifCond .le off, 3)) (ha : a < 2 ^ 31) (ht : (pc : Int) + off = (tgt : Int)) (h : pc + 3 = q) (kt : a ≤ 0 → XW p l e R s m args below meth c D wf A nL Q tgt lv st P T) (kf : ¬ (a ≤ 0) → XW p l e R s m args below meth c D wf A nL Q q lv st P T) : XW p l e R s m args below meth c D wf A nL Q pc lv (.int (nI a) :: st) P T := by
  have hb : 0 < 2 ^ 31 := by decide
  have hiff := (nI_leI ha hb)
  rw [nI_0] at hiff
  exact x_if_le C d ht h (fun z => kt (hiff.mp z)) (fun z => kf (fun w => z (hiff.mpr w)))
theorem x_if_eq_b {B : Prop} [Decidable B] {off : Int} {tgt : Nat} (C : XC p s m args meth c D tys wf A cc nL own rt) (d : decode cc pc = .ok (.ifCond .eq off, 3)) (ht : (pc : Int) + off = (tgt : Int)) (h : pc + 3 = q) (kt : ¬ B → XW p l e R s m args below meth c D wf A nL Q tgt lv st P T) (kf : B → XW p l e R s m args below meth c D wf A nL Q q lv st P T) : XW p l e R s m args below meth c D wf A nL Q pc lv (.int (bI B) :: st) P T :=
  x_if_eq C d ht h (fun z => kt (bI_0.mp z)) (fun z => kf (Decidable.byContradiction fun w => z (bI_0.mpr w)))
theorem x_if_ne_b {B : Prop} [Decidable B] {off : Int} {tgt : Nat} (C : XC p s m args meth c D tys wf A cc nL own rt) (d : decode cc pc = .ok (.ifCond .ne off, 3)) (ht : (pc : Int) + off = (tgt : Int)) (h : pc + 3 = q) (kt : B → XW p l e R s m args below meth c D wf A nL Q tgt lv st P T) (kf : ¬ B → XW p l e R s m args below meth c D wf A nL Q q lv st P T) : XW p l e R s m args below meth c D wf A nL Q pc lv (.int (bI B) :: st) P T :=
  x_if_ne C d ht h (fun z => kt (Decidable.byContradiction fun w => z (bI_0.mpr w))) (fun z => kf (bI_0.mp z))
theorem x_goto {off : Int} {tgt : Nat} (C : XC p s m args meth c D tys wf A cc nL own rt) (d : decode cc pc = .ok (.goto off, 3)) (ht : (pc : Int) + off = (tgt : Int)) (k : XW p l e R s m args below meth c D wf A nL Q tgt lv st P T) : XW p l e R s m args below meth c D wf A nL Q pc lv st P T :=
  fun H locs ls hP hS hl => lv_goto C.1 C.2.1 d ht (k H locs ls hP hS hl)
theorem x_topi {x : Int32} (k : ∀ y : Int32, y = x → XW p l e R s m args below meth c D wf A nL Q pc lv (.int y :: st) P T) : XW p l e R s m args below meth c D wf A nL Q pc lv (.int x :: st) P T := k x rfl
theorem x_topn {x : Int32} (a : Nat) (h : x = nI a) (k : XW p l e R s m args below meth c D wf A nL Q pc lv (.int (nI a) :: st) P T) : XW p l e R s m args below meth c D wf A nL Q pc lv (.int x :: st) P T := h ▸ k
theorem x_tope {x : Int32} (y : Int32) (h : x = y) (k : XW p l e R s m args below meth c D wf A nL Q pc lv (.int y :: st) P T) : XW p l e R s m args below meth c D wf A nL Q pc lv (.int x :: st) P T := h ▸ k
theorem x_namen {a : Nat} (k : ∀ b : Nat, b = a → XW p l e R s m args below meth c D wf A nL Q pc lv (.int (nI b) :: st) P T) : XW p l e R s m args below meth c D wf A nL Q pc lv (.int (nI a) :: st) P T := k a rfl
theorem x_lv (ks : List Nat) (hl : lv_pick lv ks = lv') (k : XW p l e R s m args below meth c D wf A nL Q pc lv' st P T) : XW p l e R s m args below meth c D wf A nL Q pc lv st P T := fun H locs ls hP hS h => k H locs ls hP hS (lv_sub h ks hl)
theorem x_se {P' T' : St} (h1 : P = P') (h2 : T = T') (k : XW p l e R s m args below meth c D wf A nL Q pc lv st P' T') : XW p l e R s m args below meth c D wf A nL Q pc lv st P T := by subst h1; subst h2; exact k
theorem x_get {ref Cn : String} {F : u_T} {N ci idx a : Nat} {fs : List Value} {v : Value} (C : XC p s m args meth c D tys wf A cc nL own rt) (hin : ∀ w ∈ u_ws Cn F N, w ∈ tb) (q0 : Nat) (he : (wf P T)[q0]? = some (a, .inr (ci, fs))) (hc : vwCl[ci]? = some (Cn, F, N)) (j : Nat) (hj : j < N) (hlink : Cond.fieldLink own idx ref (F j).2.1 (F j).2.2.1 ∈ tb) (hsame : (F j).1 = ref) (hv : fs[j]? = some v) (d : decode cc pc = .ok (.getfield idx, 3)) (h : pc + 3 = q) (k : XW p l e R s m args below meth c D wf A nL Q q lv (v :: st) P T) : XW p l e R s m args below meth c D wf A nL Q pc lv (.ref a :: st) P T := by
  subst h
  exact fun H locs ls hP hS hl => va_get C.1 C.2.1 C.2.2.2.2.1 hin C.2.2.2.1 C.2.2.2.2.2.1 hP q0 he hc j hj (C.2.2.2.2.1 _ hlink) (fun _ z => hsame ▸ z) hv d (k H locs ls hP hS hl)
theorem x_put {ref Cn : String} {F : u_T} {N ci idx a : Nat} {fs : List Value} {v : Value} {ty : FieldType} {P' T' : St} (C : XC p s m args meth c D tys wf A cc nL own rt) (hin : ∀ w ∈ u_ws Cn F N, w ∈ tb) (ty0 : Nat → FieldType) (hty : ∀ k, k < N → parseFieldDescriptor (F k).2.2.1 = some (ty0 k)) (hnm : ∀ a, a < N → ∀ b, b < N → a ≠ b → (F a).2.1 ≠ (F b).2.1) (q0 : Nat) (he : (wf P T)[q0]? = some (a, .inr (ci, fs))) (hc : vwCl[ci]? = some (Cn, F, N)) (j : Nat) (hj : j < N) (hlink : Cond.fieldLink own idx ref (F j).2.1 (F j).2.2.1 ∈ tb) (hsame : (F j).1 = ref) (hfin : (F j).2.2.2 = false) (hd : parseFieldDescriptor (F j).2.2.1 = some ty) (hn : narrow ty v = v) (hfit : fits ty v = true) (hl0 : j < fs.length) (hw : (wf P T).set q0 (a, .inr (ci, fs.set j v)) = wf P' T') (d : decode cc pc = .ok (.putfield idx, 3)) (h : pc + 3 = q) (k : XW p l e R s m args below meth c D wf A nL Q q lv st P' T') : XW p l e R s m args below meth c D wf A nL Q pc lv (v :: .ref a :: st) P T := by
  subst h
  exact fun H locs ls hP hS hl => va_put C.1 C.2.1 C.2.2.2.2.1 hin ty0 hty hnm C.2.2.2.1 C.2.2.2.2.2.1 hP (C.2.2.2.2.2.2.1 P T) hS q0 he hc j hj (C.2.2.2.2.1 _ hlink) (fun _ z => hsame ▸ z) hfin hd hn hfit hl0 d (fun H1 locs1 hP1 _ hS1 => k H1 locs1 ls (hw ▸ hP1) hS1 hl)
theorem x_iald {cA : ClassId} {n a i : Nat} {f : Nat → Int32} (C : XC p s m args meth c D tys wf A cc nL own rt) (q0 t0 : Nat) (he : (wf P T)[q0]? = some (a, .inl (cA, n, .inl f))) (ht : tys[t0]? = some (cA, .int)) (hi : i < n) (hn : n < 2 ^ 31) (d : decode cc pc = .ok (.iaload, 1)) (h : pc + 1 = q) (k : XW p l e R s m args below meth c D wf A nL Q q lv (.int (f i) :: st) P T) : XW p l e R s m args below meth c D wf A nL Q pc lv (.int (nI i) :: .ref a :: st) P T := by
  subst h
  intro H locs ls hP hS hl
  have k := k H locs ls hP hS hl
  have e := nI_clamp (n := i) (by omega)
  rw [← e] at k
  exact va_iald C.1 C.2.1 C.2.2.2.2.2.1 hP q0 t0 he ht (vp_in_nI hi hn) d (by simpa [e] using k)
theorem x_alen {cA : ClassId} {n a : Nat} {f : Nat → Int32} {ty : FieldType} (C : XC p s m args meth c D tys wf A cc nL own rt) (q0 t0 : Nat) (he : (wf P T)[q0]? = some (a, .inl (cA, n, .inl f))) (ht : tys[t0]? = some (cA, ty)) (d : decode cc pc = .ok (.arraylength, 1)) (h : pc + 1 = q) (k : XW p l e R s m args below meth c D wf A nL Q q lv (.int (nI n) :: st) P T) : XW p l e R s m args below meth c D wf A nL Q pc lv (.ref a :: st) P T := by
  subst h
  exact fun H locs ls hP hS hl => va_alen C.1 C.2.1 C.2.2.2.2.2.1 hP q0 t0 he ht rfl d (k H locs ls hP hS hl)
theorem x_zald {cA : ClassId} {n a i : Nat} {f : Nat → Int32} (C : XC p s m args meth c D tys wf A cc nL own rt) (q0 t0 : Nat) (he : (wf P T)[q0]? = some (a, .inl (cA, n, .inl f))) (ht : tys[t0]? = some (cA, .boolean)) (hi : i < n) (hn : n < 2 ^ 31) (d : decode cc pc = .ok (.baload, 1)) (h : pc + 1 = q) (k : XW p l e R s m args below meth c D wf A nL Q q lv (.int (f i) :: st) P T) : XW p l e R s m args below meth c D wf A nL Q pc lv (.int (nI i) :: .ref a :: st) P T := by
  subst h
  intro H locs ls hP hS hl
  have k := k H locs ls hP hS hl
  have e := nI_clamp (n := i) (by omega)
  exact va_zald C.1 C.2.1 C.2.2.2.2.2.1 hP q0 t0 he ht (vp_in_nI hi hn) d (by rw [e]; exact k)
theorem x_iast {cA : ClassId} {n a i : Nat} {f : Nat → Int32} {x : Int32} {P' T' : St} (C : XC p s m args meth c D tys wf A cc nL own rt) (q0 t0 : Nat) (he : (wf P T)[q0]? = some (a, .inl (cA, n, .inl f))) (ht : tys[t0]? = some (cA, .int)) (hi : i < n) (hn : n < 2 ^ 31) (hw : (wf P T).set q0 (a, .inl (cA, n, .inl (upd f i x))) = wf P' T') (d : decode cc pc = .ok (.iastore, 1)) (h : pc + 1 = q) (k : XW p l e R s m args below meth c D wf A nL Q q lv st P' T') : XW p l e R s m args below meth c D wf A nL Q pc lv (.int x :: .int (nI i) :: .ref a :: st) P T := by
  subst h
  intro H locs ls hP hS hl
  have e := nI_clamp (n := i) (by omega)
  refine va_iast C.1 C.2.1 C.2.2.2.2.2.1 hP (C.2.2.2.2.2.2.1 P T) hS q0 t0 he ht (vp_in_nI hi hn) d (fun H1 locs1 hP1 _ hS1 => ?_)
  rw [e] at hP1
  exact k H1 locs1 ls (hw ▸ hP1) hS1 hl
theorem x_zast {cA : ClassId} {n a i : Nat} {f : Nat → Int32} {x : Int32} {P' T' : St} (C : XC p s m args meth c D tys wf A cc nL own rt) (q0 t0 : Nat) (he : (wf P T)[q0]? = some (a, .inl (cA, n, .inl f))) (ht : tys[t0]? = some (cA, .boolean)) (hi : i < n) (hn : n < 2 ^ 31) (hx : vp_nar .boolean x = x) (hw : (wf P T).set q0 (a, .inl (cA, n, .inl (upd f i x))) = wf P' T') (d : decode cc pc = .ok (.bastore, 1)) (h : pc + 1 = q) (k : XW p l e R s m args below meth c D wf A nL Q q lv st P' T') : XW p l e R s m args below meth c D wf A nL Q pc lv (.int x :: .int (nI i) :: .ref a :: st) P T := by
  subst h
  intro H locs ls hP hS hl
  have e := nI_clamp (n := i) (by omega)
  refine va_zast C.1 C.2.1 C.2.2.2.2.2.1 hP (C.2.2.2.2.2.2.1 P T) hS q0 t0 he ht (vp_in_nI hi hn) d (fun H1 locs1 hP1 _ hS1 => ?_)
  rw [e, hx] at hP1
  exact k H1 locs1 ls (hw ▸ hP1) hS1 hl
theorem x_iret {v : Int32} {post : Int32 → St → St → Prop} (C : XC p s m args meth c D tys wf A cc nL own (some .int)) (d : decode cc pc = .ok (.ireturn, 1)) (h : post v P T) : XW p l e R s m args below meth c D wf A nL (MQ below (XPI D tys wf A post) args s 0 0 A) pc lv [.int v] P T :=
  fun _ _ _ hP hS _ => W.iret C.1 C.2.1 C.2.2.2.2.2.2.2.1 (fun t ht hW => ⟨⟨v, (P, T), rfl, h, by rw [ht]; exact hP, va_K.moved hW.alike C.2.2.2.2.2.1⟩, hS.F ht⟩) hS.2.2 d C.2.2.2.2.2.2.2.2
theorem x_zret {v : Int32} {post : Int32 → St → St → Prop} (C : XC p s m args meth c D tys wf A cc nL own (some .boolean)) (d : decode cc pc = .ok (.ireturn, 1)) (hn : narrow .boolean (.int v) = .int v) (h : post v P T) : XW p l e R s m args below meth c D wf A nL (MQ below (XPI D tys wf A post) args s 0 0 A) pc lv [.int v] P T :=
  fun _ _ _ hP hS _ => W.zret C.1 C.2.1 C.2.2.2.2.2.2.2.1 hn (fun t ht hW => ⟨⟨v, (P, T), rfl, h, by rw [ht]; exact hP, va_K.moved hW.alike C.2.2.2.2.2.1⟩, hS.F ht⟩) hS.2.2 d C.2.2.2.2.2.2.2.2
theorem x_vret {post : St → St → Prop} (C : XC p s m args meth c D tys wf A cc nL own none) (d : decode cc pc = .ok (.return_, 1)) (h : post P T) : XW p l e R s m args below meth c D wf A nL (MQ below (XPV D tys wf A post) args s 0 0 A) pc lv [] P T :=
  fun _ _ _ hP hS _ => W.vret C.1 C.2.1 C.2.2.2.2.2.2.2.1 (fun t ht hW => ⟨⟨(P, T), rfl, h, by rw [ht]; exact hP, va_K.moved hW.alike C.2.2.2.2.2.1⟩, hS.F ht⟩) hS.2.2 d C.2.2.2.2.2.2.2.2
/-- what is fixed of a method that is called: its code is in the tables, its name, how many it takes, its room -/
def XS (y : MethodName) (bytes : ByteArray) (maxL : Nat) (ret : Option FieldType) (rm : Room) (Cn : String) (n : Nat) : Prop := Cond.code y bytes maxL ret ∈ tb ∧ Cond.initialized Cn ∈ tb ∧ (y.cls = Cn ∧ y.cls ≠ "java/lang/invoke/MethodHandle" ∧ y.cls ≠ "java/lang/invoke/VarHandle" ∧ (parseMethodDescriptor y.desc).map (fun d => d.parameters.length) = some n) ∧ rm.cells = 0 ∧ rm.slots = 0
theorem x_good {ws : List Cond} (h : ∀ w ∈ ws, w ∈ tb) : GoodIn tb ws := fun w hw => ⟨h w hw, tb_g (h w hw)⟩
theorem x_wU {y : MethodName} {bytes : ByteArray} {maxL : Nat} {ret : Option FieldType} (h : Cond.code y bytes maxL ret ∈ tb) : ∀ w ∈ wU y bytes maxL ret, w ∈ tb := fun w hw => (List.mem_cons.mp hw).elim (fun e => e ▸ h) id
theorem x_gV {y : MethodName} {bytes : ByteArray} {maxL idx : Nat} {ret : Option FieldType} {Cn own : String} (h1 : Cond.methodLink own idx y ∈ tb) (h2 : Cond.instanceMethod y ∈ tb) (h3 : Cond.selects Cn y y ∈ tb) (h4 : Cond.initialized Cn ∈ tb) (h : Cond.code y bytes maxL ret ∈ tb) : GoodIn tb (wsV own idx Cn y (wU y bytes maxL ret)) :=
  x_good (fun w hw => (List.mem_append.mp hw).elim (fun z => by
    simp only [List.mem_cons, List.not_mem_nil, or_false] at z
    rcases z with rfl | rfl | rfl | rfl
    · exact h1
    · exact h2
    · exact h3
    · exact h4) (x_wU h w))
theorem x_gS {y : MethodName} {bytes : ByteArray} {maxL idx : Nat} {ret : Option FieldType} {own : String} (h1 : Cond.methodLink own idx y ∈ tb) (h2 : Cond.static y ∈ tb) (h4 : Cond.initialized y.cls ∈ tb) (h : Cond.code y bytes maxL ret ∈ tb) : GoodIn tb (va_wsS own idx y (wU y bytes maxL ret)) :=
  x_good (fun w hw => (List.mem_append.mp hw).elim (fun z => by
    simp only [List.mem_cons, List.not_mem_nil, or_false] at z
    rcases z with rfl | rfl | rfl
    · exact h1
    · exact h2
    · exact h4) (x_wU h w))
theorem x_Vi {y : MethodName} {bytes : ByteArray} {maxL n idx a ci : Nat} {ret : Option FieldType} {rm : Room} {Cn : String} {As rest fs : List Value} {F : u_T} {N : Nat} {post : Int32 → St → St → Prop} (C : XC p s m args meth c D tys wf A cc nL own rt) (hM : XMI l D tys wf A y bytes maxL ret rm (.ref a :: As) P T post) (hs : XS y bytes maxL ret rm Cn n) (hi : Cond.instanceMethod y ∈ tb) (hse : Cond.selects Cn y y ∈ tb) (hml : Cond.methodLink own idx y ∈ tb) (hR : rm.frames + 1 ≤ R.frames ∧ 8 + (maxL + 11) + rm.locals ≤ R.locals) (q0 : Nat) (he : (wf P T)[q0]? = some (a, .inr (ci, fs))) (hc : vwCl[ci]? = some (Cn, F, N)) (hn : As.length = n) (hst : st = As.reverse ++ .ref a :: rest) (hr : (rest.map fun v => v.category).sum ≤ 8) (d : decode cc pc = .ok (.invokevirtual idx, 3)) (h : pc + 3 = q) (k : ∀ (r : Int32) (P' T' : St), post r P' T' → XW p l e R s m args below meth c D wf A nL Q q lv (.int r :: rest) P' T') : XW p l e R s m args below meth c D wf A nL Q pc lv st P T := by
  subst h
  obtain ⟨hco, hini, hd, hrc, hrs⟩ := hs
  intro H locs ls hP hS hl
  have hK := C.2.2.2.2.2.1
  refine va_calli (va_runV (As := As) (rest := rest) ⟨C.1, C.2.1, C.2.2.1, C.2.2.2.1, C.2.2.2.2.1⟩ hM (cwV n C.2.2.2.2.1 (x_gV hml hi hse hini hco) rfl hrc hrs hd hR) ⟨XPre.blind, va_recv hK hP hc he, fun U hU hW => ⟨rfl, by rw [hU]; exact hP, va_K.moved hW.alike hK⟩⟩ rfl hn hl.1 hst (lv_room hr) d ⟨Nat.zero_le _, Nat.zero_le _⟩) hS (fun q _ h => h) (fun q h => h) (fun r u t H1 locs1 ht _ hp hB _ _ hS1 => ?_)
  exact k r u.1 u.2 hp H1 locs1 ls (by rw [← ht]; exact hB.1) hS1 hl
theorem x_Si {y : MethodName} {bytes : ByteArray} {maxL n idx : Nat} {ret : Option FieldType} {rm : Room} {Cn : String} {As rest : List Value} {post : Int32 → St → St → Prop} (C : XC p s m args meth c D tys wf A cc nL own rt) (hM : XMI l D tys wf A y bytes maxL ret rm As P T post) (hs : XS y bytes maxL ret rm Cn n) (hstt : Cond.static y ∈ tb) (hml : Cond.methodLink own idx y ∈ tb) (hR : rm.frames + 1 ≤ R.frames ∧ 8 + (maxL + 11) + rm.locals ≤ R.locals) (hn : As.length = n) (hst : st = As.reverse ++ rest) (hr : (rest.map fun v => v.category).sum ≤ 8) (d : decode cc pc = .ok (.invokestatic idx, 3)) (h : pc + 3 = q) (k : ∀ (r : Int32) (P' T' : St), post r P' T' → XW p l e R s m args below meth c D wf A nL Q q lv (.int r :: rest) P' T') : XW p l e R s m args below meth c D wf A nL Q pc lv st P T := by
  subst h
  obtain ⟨hco, hini, hd, hrc, hrs⟩ := hs
  intro H locs ls hP hS hl
  have hK := C.2.2.2.2.2.1
  refine va_calli (va_runS (As := As) (rest := rest) ⟨C.1, C.2.1, C.2.2.1, C.2.2.2.1, C.2.2.2.2.1⟩ hM (va_cwS n C.2.2.2.2.1 (x_gS hml hstt (hd.1 ▸ hini) hco) rfl hrc hrs hd.2 hR) ⟨XPre.blind, fun U hU hW => ⟨rfl, by rw [hU]; exact hP, va_K.moved hW.alike hK⟩⟩ rfl hn hl.1 hst (lv_room hr) d ⟨Nat.zero_le _, Nat.zero_le _⟩) hS (fun q _ h => h) (fun q h => h) (fun r u t H1 locs1 ht _ hp hB _ _ hS1 => ?_)
  exact k r u.1 u.2 hp H1 locs1 ls (by rw [← ht]; exact hB.1) hS1 hl
theorem x_Vv {y : MethodName} {bytes : ByteArray} {maxL n idx a ci : Nat} {ret : Option FieldType} {rm : Room} {Cn : String} {As rest fs : List Value} {F : u_T} {N : Nat} {post : St → St → Prop} (C : XC p s m args meth c D tys wf A cc nL own rt) (hM : XMV l D tys wf A y bytes maxL ret rm (.ref a :: As) P T post) (hs : XS y bytes maxL ret rm Cn n) (hi : Cond.instanceMethod y ∈ tb) (hse : Cond.selects Cn y y ∈ tb) (hml : Cond.methodLink own idx y ∈ tb) (hR : rm.frames + 1 ≤ R.frames ∧ 8 + (maxL + 11) + rm.locals ≤ R.locals) (q0 : Nat) (he : (wf P T)[q0]? = some (a, .inr (ci, fs))) (hc : vwCl[ci]? = some (Cn, F, N)) (hn : As.length = n) (hst : st = As.reverse ++ .ref a :: rest) (hr : (rest.map fun v => v.category).sum ≤ 8) (d : decode cc pc = .ok (.invokevirtual idx, 3)) (h : pc + 3 = q) (k : ∀ (P' T' : St), post P' T' → XW p l e R s m args below meth c D wf A nL Q q lv rest P' T') : XW p l e R s m args below meth c D wf A nL Q pc lv st P T := by
  subst h
  obtain ⟨hco, hini, hd, hrc, hrs⟩ := hs
  intro H locs ls hP hS hl
  have hK := C.2.2.2.2.2.1
  refine va_callv (va_runV (As := As) (rest := rest) ⟨C.1, C.2.1, C.2.2.1, C.2.2.2.1, C.2.2.2.2.1⟩ hM (cwV n C.2.2.2.2.1 (x_gV hml hi hse hini hco) rfl hrc hrs hd hR) ⟨XPre.blind, va_recv hK hP hc he, fun U hU hW => ⟨rfl, by rw [hU]; exact hP, va_K.moved hW.alike hK⟩⟩ rfl hn hl.1 hst (lv_room hr) d ⟨Nat.zero_le _, Nat.zero_le _⟩) hS (fun q _ h => h) (fun q h => h) (fun u t H1 locs1 ht _ hp hB _ _ hS1 => ?_)
  exact k u.1 u.2 hp H1 locs1 ls (by rw [← ht]; exact hB.1) hS1 hl
theorem x_Sv {y : MethodName} {bytes : ByteArray} {maxL n idx : Nat} {ret : Option FieldType} {rm : Room} {Cn : String} {As rest : List Value} {post : St → St → Prop} (C : XC p s m args meth c D tys wf A cc nL own rt) (hM : XMV l D tys wf A y bytes maxL ret rm As P T post) (hs : XS y bytes maxL ret rm Cn n) (hstt : Cond.static y ∈ tb) (hml : Cond.methodLink own idx y ∈ tb) (hR : rm.frames + 1 ≤ R.frames ∧ 8 + (maxL + 11) + rm.locals ≤ R.locals) (hn : As.length = n) (hst : st = As.reverse ++ rest) (hr : (rest.map fun v => v.category).sum ≤ 8) (d : decode cc pc = .ok (.invokestatic idx, 3)) (h : pc + 3 = q) (k : ∀ (P' T' : St), post P' T' → XW p l e R s m args below meth c D wf A nL Q q lv rest P' T') : XW p l e R s m args below meth c D wf A nL Q pc lv st P T := by
  subst h
  obtain ⟨hco, hini, hd, hrc, hrs⟩ := hs
  intro H locs ls hP hS hl
  have hK := C.2.2.2.2.2.1
  refine va_callv (va_runS (As := As) (rest := rest) ⟨C.1, C.2.1, C.2.2.1, C.2.2.2.1, C.2.2.2.2.1⟩ hM (va_cwS n C.2.2.2.2.1 (x_gS hml hstt (hd.1 ▸ hini) hco) rfl hrc hrs hd.2 hR) ⟨XPre.blind, fun U hU hW => ⟨rfl, by rw [hU]; exact hP, va_K.moved hW.alike hK⟩⟩ rfl hn hl.1 hst (lv_room hr) d ⟨Nat.zero_le _, Nat.zero_le _⟩) hS (fun q _ h => h) (fun q h => h) (fun u t H1 locs1 ht _ hp hB _ _ hS1 => ?_)
  exact k u.1 u.2 hp H1 locs1 ls (by rw [← ht]; exact hB.1) hS1 hl
theorem x_Vf {y : MethodName} {bytes : ByteArray} {maxL n idx a ci : Nat} {ret : Option FieldType} {rm : Room} {Cn : String} {As rest fs : List Value} {F : u_T} {N : Nat} {x : Int32} {P' T' : St} (C : XC p s m args meth c D tys wf A cc nL own rt) (hM : XMI l D tys wf A y bytes maxL ret rm (.ref a :: As) P T (fun r P1 T1 => r = x ∧ P1 = P' ∧ T1 = T')) (hs : XS y bytes maxL ret rm Cn n) (hi : Cond.instanceMethod y ∈ tb) (hse : Cond.selects Cn y y ∈ tb) (hml : Cond.methodLink own idx y ∈ tb) (hR : rm.frames + 1 ≤ R.frames ∧ 8 + (maxL + 11) + rm.locals ≤ R.locals) (q0 : Nat) (he : (wf P T)[q0]? = some (a, .inr (ci, fs))) (hc : vwCl[ci]? = some (Cn, F, N)) (hn : As.length = n) (hst : st = As.reverse ++ .ref a :: rest) (hr : (rest.map fun v => v.category).sum ≤ 8) (d : decode cc pc = .ok (.invokevirtual idx, 3)) (h : pc + 3 = q) (k : XW p l e R s m args below meth c D wf A nL Q q lv (.int x :: rest) P' T') : XW p l e R s m args below meth c D wf A nL Q pc lv st P T :=
  x_Vi C hM hs hi hse hml hR q0 he hc hn hst hr d h (fun r P1 T1 hp => by obtain ⟨h1, h2, h3⟩ := hp; rw [h1, h2, h3]; exact k)
theorem x_Vg {y : MethodName} {bytes : ByteArray} {maxL n idx a ci : Nat} {ret : Option FieldType} {rm : Room} {Cn : String} {As rest fs : List Value} {F : u_T} {N : Nat} {P' T' : St} (C : XC p s m args meth c D tys wf A cc nL own rt) (hM : XMV l D tys wf A y bytes maxL ret rm (.ref a :: As) P T (fun P1 T1 => P1 = P' ∧ T1 = T')) (hs : XS y bytes maxL ret rm Cn n) (hi : Cond.instanceMethod y ∈ tb) (hse : Cond.selects Cn y y ∈ tb) (hml : Cond.methodLink own idx y ∈ tb) (hR : rm.frames + 1 ≤ R.frames ∧ 8 + (maxL + 11) + rm.locals ≤ R.locals) (q0 : Nat) (he : (wf P T)[q0]? = some (a, .inr (ci, fs))) (hc : vwCl[ci]? = some (Cn, F, N)) (hn : As.length = n) (hst : st = As.reverse ++ .ref a :: rest) (hr : (rest.map fun v => v.category).sum ≤ 8) (d : decode cc pc = .ok (.invokevirtual idx, 3)) (h : pc + 3 = q) (k : XW p l e R s m args below meth c D wf A nL Q q lv rest P' T') : XW p l e R s m args below meth c D wf A nL Q pc lv st P T :=
  x_Vv C hM hs hi hse hml hR q0 he hc hn hst hr d h (fun P1 T1 hp => by obtain ⟨h2, h3⟩ := hp; rw [h2, h3]; exact k)
theorem x_Sf {y : MethodName} {bytes : ByteArray} {maxL n idx : Nat} {ret : Option FieldType} {rm : Room} {Cn : String} {As rest : List Value} {x : Int32} {P' T' : St} (C : XC p s m args meth c D tys wf A cc nL own rt) (hM : XMI l D tys wf A y bytes maxL ret rm As P T (fun r P1 T1 => r = x ∧ P1 = P' ∧ T1 = T')) (hs : XS y bytes maxL ret rm Cn n) (hstt : Cond.static y ∈ tb) (hml : Cond.methodLink own idx y ∈ tb) (hR : rm.frames + 1 ≤ R.frames ∧ 8 + (maxL + 11) + rm.locals ≤ R.locals) (hn : As.length = n) (hst : st = As.reverse ++ rest) (hr : (rest.map fun v => v.category).sum ≤ 8) (d : decode cc pc = .ok (.invokestatic idx, 3)) (h : pc + 3 = q) (k : XW p l e R s m args below meth c D wf A nL Q q lv (.int x :: rest) P' T') : XW p l e R s m args below meth c D wf A nL Q pc lv st P T :=
  x_Si C hM hs hstt hml hR hn hst hr d h (fun r P1 T1 hp => by obtain ⟨h1, h2, h3⟩ := hp; rw [h1, h2, h3]; exact k)
theorem x_mmax {x y : Int32} {idx : Nat} (C : XC p s m args meth c D tys wf A cc nL own rt) (h1 : Cond.methodLink own idx Lib.Math.max.name ∈ tb) (h2 : Cond.static Lib.Math.max.name ∈ tb) (h3 : Cond.initialized "java/lang/Math" ∈ tb) (h4 : Cond.code Lib.Math.max.name Lib.Math.max.code 2 (some .int) ∈ tb) (hf : 1 ≤ R.frames) (hr : (st.map fun v => v.category).sum + 13 ≤ R.locals) (d : decode cc pc = .ok (.invokestatic idx, 3)) (h : pc + 3 = q) (k : XW p l e R s m args below meth c D wf A nL Q q lv (.int (if x < y then y else x) :: st) P T) : XW p l e R s m args below meth c D wf A nL Q pc lv (.int y :: .int x :: st) P T := by
  subst h
  exact fun H locs ls hP hS hl => va_mmax C.1 C.2.1 (by rw [C.2.2.1]; exact hl.1.symm) C.2.2.2.1 (C.2.2.2.2.1 _ h1) (C.2.2.2.2.1 _ h2) (C.2.2.2.2.1 _ h3) (C.2.2.2.2.1 _ h4) hf hr (Nat.zero_le _) (Nat.zero_le _) d (k H locs ls hP hS hl)
theorem x_mmin {x y : Int32} {idx : Nat} (C : XC p s m args meth c D tys wf A cc nL own rt) (h1 : Cond.methodLink own idx Lib.Math.min.name ∈ tb) (h2 : Cond.static Lib.Math.min.name ∈ tb) (h3 : Cond.initialized "java/lang/Math" ∈ tb) (h4 : Cond.code Lib.Math.min.name Lib.Math.min.code 2 (some .int) ∈ tb) (hf : 1 ≤ R.frames) (hr : (st.map fun v => v.category).sum + 13 ≤ R.locals) (d : decode cc pc = .ok (.invokestatic idx, 3)) (h : pc + 3 = q) (k : XW p l e R s m args below meth c D wf A nL Q q lv (.int (if y < x then y else x) :: st) P T) : XW p l e R s m args below meth c D wf A nL Q pc lv (.int y :: .int x :: st) P T := by
  subst h
  exact fun H locs ls hP hS hl => va_mmin C.1 C.2.1 (by rw [C.2.2.1]; exact hl.1.symm) C.2.2.2.1 (C.2.2.2.2.1 _ h1) (C.2.2.2.2.1 _ h2) (C.2.2.2.2.1 _ h3) (C.2.2.2.2.1 _ h4) hf hr (Nat.zero_le _) (Nat.zero_le _) d (k H locs ls hP hS hl)
theorem x_mabs {x : Int32} {idx : Nat} (C : XC p s m args meth c D tys wf A cc nL own rt) (h1 : Cond.methodLink own idx Lib.Math.abs.name ∈ tb) (h2 : Cond.static Lib.Math.abs.name ∈ tb) (h3 : Cond.initialized "java/lang/Math" ∈ tb) (h4 : Cond.code Lib.Math.abs.name Lib.Math.abs.code 1 (some .int) ∈ tb) (hf : 1 ≤ R.frames) (hr : (st.map fun v => v.category).sum + 13 ≤ R.locals) (d : decode cc pc = .ok (.invokestatic idx, 3)) (h : pc + 3 = q) (k : XW p l e R s m args below meth c D wf A nL Q q lv (.int (if 0 ≤ x then x else 0 - x) :: st) P T) : XW p l e R s m args below meth c D wf A nL Q pc lv (.int x :: st) P T := by
  subst h
  exact fun H locs ls hP hS hl => va_mabs C.1 C.2.1 (by rw [C.2.2.1]; exact hl.1.symm) C.2.2.2.1 (C.2.2.2.2.1 _ h1) (C.2.2.2.2.1 _ h2) (C.2.2.2.2.1 _ h3) (C.2.2.2.2.1 _ h4) hf hr (Nat.zero_le _) (Nat.zero_le _) d (k H locs ls hP hS hl)
theorem x_tableIn {dflt lo hi : Int} {offs : Array Int} {len : Nat} {x : Int32} {off : Int} {tgt : Nat} (C : XC p s m args meth c D tys wf A cc nL own rt) (d : decode cc pc = .ok (.tableswitch dflt lo hi offs, len)) (h1 : ¬ x.toInt < lo) (h2 : ¬ hi < x.toInt) (ho : offs[(x.toInt - lo).toNat]? = some off) (ht : (pc : Int) + off = (tgt : Int)) (k : XW p l e R s m args below meth c D wf A nL Q tgt lv st P T) : XW p l e R s m args below meth c D wf A nL Q pc lv (.int x :: st) P T :=
  fun H locs ls hP hS hl => lv_tableIn C.1 C.2.1 d h1 h2 ho ht (k H locs ls hP hS hl)
theorem x_tableOut {dflt lo hi : Int} {offs : Array Int} {len : Nat} {x : Int32} {tgt : Nat} (C : XC p s m args meth c D tys wf A cc nL own rt) (d : decode cc pc = .ok (.tableswitch dflt lo hi offs, len)) (h1 : x.toInt < lo ∨ hi < x.toInt) (ht : (pc : Int) + dflt = (tgt : Int)) (k : XW p l e R s m args below meth c D wf A nL Q tgt lv st P T) : XW p l e R s m args below meth c D wf A nL Q pc lv (.int x :: st) P T :=
  fun H locs ls hP hS hl => lv_tableOut C.1 C.2.1 d h1 ht (k H locs ls hP hS hl)
end LAYER
