/-! constructors: straight code that makes cells -/
theorem ra_int {U : State} {a b : ClassId} (h1 : va_RA U a .int) (h2 : va_RA U b .int) : a = b := Option.some.inj (h1.symm.trans h2)
theorem ra_boolean {U : State} {a b : ClassId} (h1 : va_RA U a .boolean) (h2 : va_RA U b .boolean) : a = b := Option.some.inj (h1.symm.trans h2)
section YLAYER
variable {p : Program} {l : Launch} {e : Env} {R : Room} {s : State} {m : MethodId} {args : Array Value} {below : List Frame} {meth : Method} {c : Code} {D : va_G} {cI cZ : ClassId} {A : Nat → Prop} {cc : ByteArray} {own : String} {Q : State → Prop}
variable {pc q : Nat} {st : List Value} {ws : va_W} {h0 cells slots : Nat}
def YC (p : Program) (s : State) (m : MethodId) (args : Array Value) (meth : Method) (c : Code) (D : va_G) (cI cZ : ClassId) (A : Nat → Prop) (cc : ByteArray) (own : String) : Prop :=
  p.tables.exec = Jvm.exec ∧ c.code = cc ∧ c.maxLocals = 1 ∧ s.vm.findClass own = some m.cls ∧ (∀ w ∈ tb, w.before args s = true) ∧ va_K D vwCl (tyz cI cZ) s ∧ (∀ q, s.heap.size ≤ q → A q) ∧ meth.sig.returnType = none ∧ meth.locks = false ∧ meth.name = "<init>"
def YW (p : Program) (l : Launch) (e : Env) (R : Room) (s : State) (m : MethodId) (args : Array Value) (below : List Frame) (meth : Method) (c : Code) (D : va_G) (A : Nat → Prop) (h0 : Nat) (Q : State → Prop) (pc : Nat) (st : List Value) (ws : va_W) (cells slots : Nat) : Prop :=
  ∀ (H : Heap) (locs : List Loc) (ls : Array Slot), va_P D vwCl ws H → va_D A ws → va_S A s.heap H locs → lv_has ls 1 [(0, .ref h0)] → W p l e R s m args below meth c H locs cells slots Q (F0 m pc ls st)
theorem y_aload {kk : Fin 4} (C : YC p s m args meth c D cI cZ A cc own) (d : decode cc pc = .ok (.aload_n kk, 1)) (hi : (kk : Nat) = 0) (h : pc + 1 = q) (k : YW p l e R s m args below meth c D A h0 Q q (.ref h0 :: st) ws cells slots) : YW p l e R s m args below meth c D A h0 Q pc st ws cells slots := by
  subst h
  exact fun H locs ls hP hD hS hl => lv_aload_n C.1 C.2.1 d hi (lv_at hl 0 rfl) (k H locs ls hP hD hS hl)
theorem y_iconst {n : Int} {v : Int32} (C : YC p s m args meth c D cI cZ A cc own) (d : decode cc pc = .ok (.iconst n, 1)) (hv : Int32.ofInt n = v) (h : pc + 1 = q) (k : YW p l e R s m args below meth c D A h0 Q q (.int v :: st) ws cells slots) : YW p l e R s m args below meth c D A h0 Q pc st ws cells slots := by
  subst h
  exact fun H locs ls hP hD hS hl => lv_iconst C.1 C.2.1 d hv (k H locs ls hP hD hS hl)
theorem y_bipush {n : Int} {v : Int32} (C : YC p s m args meth c D cI cZ A cc own) (d : decode cc pc = .ok (.bipush n, 2)) (hv : (Int8.ofInt n).toInt32 = v) (h : pc + 2 = q) (k : YW p l e R s m args below meth c D A h0 Q q (.int v :: st) ws cells slots) : YW p l e R s m args below meth c D A h0 Q pc st ws cells slots := by
  subst h
  exact fun H locs ls hP hD hS hl => lv_bipush C.1 C.2.1 d hv (k H locs ls hP hD hS hl)
theorem y_sipush {n : Int} {v : Int32} (C : YC p s m args meth c D cI cZ A cc own) (d : decode cc pc = .ok (.sipush n, 3)) (hv : (Int16.ofInt n).toInt32 = v) (h : pc + 3 = q) (k : YW p l e R s m args below meth c D A h0 Q q (.int v :: st) ws cells slots) : YW p l e R s m args below meth c D A h0 Q pc st ws cells slots := by
  subst h
  exact fun H locs ls hP hD hS hl => lv_sipush C.1 C.2.1 d hv (k H locs ls hP hD hS hl)
theorem y_dup {v : Value} (C : YC p s m args meth c D cI cZ A cc own) (d : decode cc pc = .ok (.dup, 1)) (hv : v.category = 1) (h : pc + 1 = q) (k : YW p l e R s m args below meth c D A h0 Q q (v :: v :: st) ws cells slots) : YW p l e R s m args below meth c D A h0 Q pc (v :: st) ws cells slots := by
  subst h
  exact fun H locs ls hP hD hS hl => lv_dup C.1 C.2.1 d hv (k H locs ls hP hD hS hl)
theorem y_obj {idx : Nat} (C : YC p s m args meth c D cI cZ A cc own) (h1 : Cond.methodLink own idx objectInit ∈ tb) (h2 : Cond.instanceMethod objectInit ∈ tb) (h3 : Cond.code objectInit ⟨#[0xb1]⟩ 1 none ∈ tb) (d : decode cc pc = .ok (.invokespecial idx, 3)) (hf : 1 ≤ R.frames) (hr : 12 ≤ R.locals) (h : pc + 3 = q) (k : YW p l e R s m args below meth c D A h0 Q q [] ws cells slots) : YW p l e R s m args below meth c D A h0 Q pc [.ref h0] ws cells slots := by
  subst h
  exact fun H locs ls hP hD hS hl => W.objInit C.1 C.2.1 C.2.2.2.1 (C.2.2.2.2.1 _ h1) (C.2.2.2.2.1 _ h2) (C.2.2.2.2.1 _ h3) rfl (by rw [C.2.2.1]; exact hl.1) rfl d hf (by show 2 * 0 + _ + 12 ≤ _; simpa using hr) (k H locs ls hP hD hS hl)
theorem y_put {ref Cn : String} {F : u_T} {N ci idx a : Nat} {fs : List Value} {v : Value} {ty : FieldType} {ws' : va_W} (C : YC p s m args meth c D cI cZ A cc own) (hin : ∀ w ∈ u_ws Cn F N, w ∈ tb) (ty0 : Nat → FieldType) (hty : ∀ k, k < N → parseFieldDescriptor (F k).2.2.1 = some (ty0 k)) (hnm : ∀ a, a < N → ∀ b, b < N → a ≠ b → (F a).2.1 ≠ (F b).2.1) (q0 : Nat) (he : ws[q0]? = some (a, .inr (ci, fs))) (hc : vwCl[ci]? = some (Cn, F, N)) (j : Nat) (hj : j < N) (hlink : Cond.fieldLink own idx ref (F j).2.1 (F j).2.2.1 ∈ tb) (hsame : (F j).1 = ref) (hfin : (F j).2.2.2 = false) (hd : parseFieldDescriptor (F j).2.2.1 = some ty) (hn : narrow ty v = v) (hfit : fits ty v = true) (hl0 : j < fs.length) (hw : ws.set q0 (a, .inr (ci, fs.set j v)) = ws') (d : decode cc pc = .ok (.putfield idx, 3)) (h : pc + 3 = q) (k : YW p l e R s m args below meth c D A h0 Q q st ws' cells slots) : YW p l e R s m args below meth c D A h0 Q pc (v :: .ref a :: st) ws cells slots := by
  subst h; subst hw
  exact fun H locs ls hP hD hS hl => va_put C.1 C.2.1 C.2.2.2.2.1 hin ty0 hty hnm C.2.2.2.1 C.2.2.2.2.2.1 hP hD hS q0 he hc j hj (C.2.2.2.2.1 _ hlink) (fun _ z => hsame ▸ z) hfin hd hn hfit hl0 d (fun H1 locs1 hP1 hD1 hS1 => k H1 locs1 ls hP1 hD1 hS1 hl)
theorem y_putF {Cn : String} {F : u_T} {N ci idx a : Nat} {fs : List Value} {v : Value} {ty : FieldType} {ws' : va_W} (C : YC p s m args meth c D cI cZ A cc own) (hin : ∀ w ∈ u_ws Cn F N, w ∈ tb) (ty0 : Nat → FieldType) (hty : ∀ k, k < N → parseFieldDescriptor (F k).2.2.1 = some (ty0 k)) (hnm : ∀ a, a < N → ∀ b, b < N → a ≠ b → (F a).2.1 ≠ (F b).2.1) (q0 : Nat) (he : ws[q0]? = some (a, .inr (ci, fs))) (hc : vwCl[ci]? = some (Cn, F, N)) (j : Nat) (hj : j < N) (hlink : Cond.fieldLink own idx own (F j).2.1 (F j).2.2.1 ∈ tb) (hsame : (F j).1 = own) (hfin : (F j).2.2.2 = true) (hd : parseFieldDescriptor (F j).2.2.1 = some ty) (hn : narrow ty v = v) (hfit : fits ty v = true) (hl0 : j < fs.length) (hw : ws.set q0 (a, .inr (ci, fs.set j v)) = ws') (d : decode cc pc = .ok (.putfield idx, 3)) (h : pc + 3 = q) (k : YW p l e R s m args below meth c D A h0 Q q st ws' cells slots) : YW p l e R s m args below meth c D A h0 Q pc (v :: .ref a :: st) ws cells slots := by
  subst h; subst hw
  exact fun H locs ls hP hD hS hl => va_putF C.1 C.2.1 C.2.2.2.2.1 hin ty0 hty hnm C.2.2.2.1 C.2.2.2.2.2.1 hP hD hS q0 he hc j hj (C.2.2.2.2.1 _ hlink) (fun _ z => hsame ▸ z) hfin C.2.2.2.2.2.2.2.2.2 hsame hd hn hfit hl0 d (fun H1 locs1 hP1 hD1 hS1 => k H1 locs1 ls hP1 hD1 hS1 hl)
theorem y_get {ref Cn : String} {F : u_T} {N ci idx a : Nat} {fs : List Value} {v : Value} (C : YC p s m args meth c D cI cZ A cc own) (hin : ∀ w ∈ u_ws Cn F N, w ∈ tb) (q0 : Nat) (he : ws[q0]? = some (a, .inr (ci, fs))) (hc : vwCl[ci]? = some (Cn, F, N)) (j : Nat) (hj : j < N) (hlink : Cond.fieldLink own idx ref (F j).2.1 (F j).2.2.1 ∈ tb) (hsame : (F j).1 = ref) (hv : fs[j]? = some v) (d : decode cc pc = .ok (.getfield idx, 3)) (h : pc + 3 = q) (k : YW p l e R s m args below meth c D A h0 Q q (v :: st) ws cells slots) : YW p l e R s m args below meth c D A h0 Q pc (.ref a :: st) ws cells slots := by
  subst h
  exact fun H locs ls hP hD hS hl => va_get C.1 C.2.1 C.2.2.2.2.1 hin C.2.2.2.1 C.2.2.2.2.2.1 hP q0 he hc j hj (C.2.2.2.2.1 _ hlink) (fun _ z => hsame ▸ z) hv d (k H locs ls hP hD hS hl)
theorem y_newI {n : Nat} (C : YC p s m args meth c D cI cZ A cc own) (hac : Cond.arrayClass .int ∈ tb) (d : decode cc pc = .ok (.newarray .int, 2)) (hn : n < 2 ^ 31) (hb : n * componentBytes .int ≤ 536870912) (h1 : cells + 1 ≤ R.cells) (h2 : slots + n ≤ R.slots) (h : pc + 2 = q) (k : ∀ a, YW p l e R s m args below meth c D A h0 Q q (.ref a :: st) (ws ++ [(a, .inl (cI, n, .inl (fun _ => 0)))]) (cells + 1) (slots + n)) : YW p l e R s m args below meth c D A h0 Q pc (.int (nI n) :: st) ws cells slots := by
  subst h
  intro H locs ls hP hD hS hl
  refine va_newa C.1 C.2.1 (atype := .int) (ty := .int) (C.2.2.2.2.1 _ hac) rfl C.2.2.2.2.2.1 hP hD hS C.2.2.2.2.2.2.1 (n := nI n) (N' := n) (a0 := (n, .inl (fun _ => 0))) (fun _ => rfl) (nI_pos hn) (nI_clamp hn) hb h1 h2 d (fun a cA H1 hK1 hP1 hD1 hS1 => ?_)
  have e : cA = cI := ra_int (hK1.2 2 (cA, .int) rfl).2 (C.2.2.2.2.2.1.2 0 (cI, .int) rfl).2
  subst e
  exact k a H1 locs ls hP1 hD1 hS1 hl
theorem y_newZ {n : Nat} (C : YC p s m args meth c D cI cZ A cc own) (hac : Cond.arrayClass .boolean ∈ tb) (d : decode cc pc = .ok (.newarray .boolean, 2)) (hn : n < 2 ^ 31) (hb : n * componentBytes .boolean ≤ 536870912) (h1 : cells + 1 ≤ R.cells) (h2 : slots + n ≤ R.slots) (h : pc + 2 = q) (k : ∀ a, YW p l e R s m args below meth c D A h0 Q q (.ref a :: st) (ws ++ [(a, .inl (cZ, n, .inl (fun _ => 0)))]) (cells + 1) (slots + n)) : YW p l e R s m args below meth c D A h0 Q pc (.int (nI n) :: st) ws cells slots := by
  subst h
  intro H locs ls hP hD hS hl
  refine va_newa C.1 C.2.1 (atype := .boolean) (ty := .boolean) (C.2.2.2.2.1 _ hac) rfl C.2.2.2.2.2.1 hP hD hS C.2.2.2.2.2.2.1 (n := nI n) (N' := n) (a0 := (n, .inl (fun _ => 0))) (fun _ => rfl) (nI_pos hn) (nI_clamp hn) hb h1 h2 d (fun a cA H1 hK1 hP1 hD1 hS1 => ?_)
  have e : cA = cZ := ra_boolean (hK1.2 2 (cA, .boolean) rfl).2 (C.2.2.2.2.2.1.2 1 (cZ, .boolean) rfl).2
  subst e
  exact k a H1 locs ls hP1 hD1 hS1 hl
theorem y_new {Cn : String} {F : u_T} {N ci idx : Nat} {fs : List Value} (C : YC p s m args meth c D cI cZ A cc own) (hin : ∀ w ∈ u_ws Cn F N, w ∈ tb) (ty : Nat → FieldType) (hty : ∀ k, k < N → parseFieldDescriptor (F k).2.2.1 = some (ty k)) (hcl : Cond.classLink own idx Cn ∈ tb) (hinst : Cond.instantiable Cn N ∈ tb) (hini : Cond.initialized Cn ∈ tb) (hc : vwCl[ci]? = some (Cn, F, N)) (hfs : ∀ j, j < N → defaultValue (ty j) = vp_V fs j) (h1 : cells + 1 ≤ R.cells) (h2 : slots + N ≤ R.slots) (d : decode cc pc = .ok (.new idx, 3)) (h : pc + 3 = q) (k : ∀ a, YW p l e R s m args below meth c D A h0 Q q (.ref a :: st) (ws ++ [(a, .inr (ci, fs))]) (cells + 1) (slots + N)) : YW p l e R s m args below meth c D A h0 Q pc st ws cells slots := by
  subst h
  exact fun H locs ls hP hD hS hl => va_new C.1 C.2.1 C.2.2.2.2.1 hin ty hty C.2.2.2.1 (C.2.2.2.2.1 _ hcl) (C.2.2.2.2.1 _ hinst) (C.2.2.2.2.1 _ hini) C.2.2.2.2.2.1 hP hD hS C.2.2.2.2.2.2.1 hc hfs h1 h2 d (fun a H1 hP1 hD1 hS1 => k a H1 locs ls hP1 hD1 hS1 hl)
/-- a constructor's contract: from one cell to the cells of wu u -/
def YM (l : Launch) (D : va_G) (cI cZ : ClassId) (y : MethodName) (bytes : ByteArray) (rm : Room) (mc ms : Nat) (h0 : Nat) (e0 : va_E) (S : Type) (post : S → Prop) (wu : S → va_W) : Prop := ∀ sz : Nat, Met l y (wU y bytes 1 none) rm (va_Pc [.ref h0] (fun U => U.heap.size = sz ∧ va_P D vwCl [(h0, e0)] U.heap ∧ va_K D vwCl (tyz cI cZ) U ∧ va_D (fun _ => True) [(h0, e0)])) (va_Qv post (fun u t => va_P D vwCl (wu u) t.heap ∧ va_K D vwCl (tyz cI cZ) t ∧ va_D (va_A [(h0, e0)] sz) (wu u)) (va_A [(h0, e0)] sz)) mc ms (va_A [(h0, e0)] sz)
theorem y_start {y : MethodName} {rm : Room} {mc ms : Nat} {e0 : va_E} {S : Type} {post : S → Prop} {wu : S → va_W} (hy : plainName y.cls = true) (hown : y.cls = own) (hyn : y.name = "<init>")
    (body : ∀ p e s m args below meth c A, YC p s m args meth c D cI cZ A cc own → YW p l e rm s m args below meth c D A h0 (MQ below (va_Qv post (fun u t => va_P D vwCl (wu u) t.heap ∧ va_K D vwCl (tyz cI cZ) t ∧ va_D A (wu u)) A) args s mc ms A) 0 [] [(h0, e0)] 0 0) : YM l D cI cZ y cc rm mc ms h0 e0 S post wu := by
  intro sz
  refine Met.ofW (cc := cc) (maxL := 1) (ret := none) hy rfl ?_
  intro p e s m args below meth c s₁ B hml hv
  obtain ⟨rfl, hsz, hP, hK, hD0⟩ := hv
  have hts := atoms_spec (ws := wU y cc 1 none) B.pre
  have ho : s.vm.findClass own = some m.cls := by rw [← hown]; exact findClass_of_methodNamed B.named
  have hin : meth.name = "<init>" := (name_of_methodNamed B.named B.method).1.trans hyn
  subst hsz
  have hD := hD0.self (sz := s.heap.size)
  generalize hAe : va_A [(h0, e0)] s.heap.size = A at hD ⊢
  have hA : ∀ q : Nat, s.heap.size ≤ q → A q := fun q h => by rw [← hAe]; exact Or.inr h
  have hl := lv_entry ([.ref h0]) (n := 1) (Nat.le_of_ble_eq_true rfl)
  rw [lg_entry_eq]
  exact body p e s m _ below meth c A ⟨B.exec, B.bytes, hml, ho, fun w h => hts w (List.mem_cons_of_mem _ h), hK, hA, B.returns, B.notSynchronized, hin⟩ s.heap [] _ hP hD va_S.rf hl
theorem y_ret {S : Type} {post : S → Prop} {wu : S → va_W} (C : YC p s m args meth c D cI cZ A cc own) (d : decode cc pc = .ok (.return_, 1)) (u : S) (hp : post u) (hw : ws = wu u) : YW p l e R s m args below meth c D A h0 (MQ below (va_Qv post (fun u t => va_P D vwCl (wu u) t.heap ∧ va_K D vwCl (tyz cI cZ) t ∧ va_D A (wu u)) A) args s cells slots A) pc [] ws cells slots := by
  subst hw
  exact fun _ _ _ hP hD hS _ => W.vret C.1 C.2.1 C.2.2.2.2.2.2.2.1 (fun t ht hW => ⟨⟨u, rfl, hp, by rw [ht]; exact hP, va_K.moved hW.alike C.2.2.2.2.2.1, hD⟩, hS.F ht⟩) hS.2.2 d C.2.2.2.2.2.2.2.2.1
theorem y_call {y : MethodName} {bytes : ByteArray} {idx a mc ms : Nat} {rm : Room} {e0 : va_E} {S : Type} {post : S → Prop} {wu : S → va_W} {rest : List Value} {wr : va_W} (C : YC p s m args meth c D cI cZ A cc own) (hM : YM l D cI cZ y bytes rm mc ms a e0 S post wu) (isR : List Nat) (n : Nat) (hC : ws[n]? = some (a, e0)) (hR : isR.map (fun i => ws[i]?) = wr.map some) (hnd : va_nd isR = true) (hdis : ∀ i ∈ isR, i ∉ [n])
    (hco : Cond.code y bytes 1 none ∈ tb) (hini : Cond.initialized y.cls ∈ tb) (hml : Cond.methodLink own idx y ∈ tb) (him : Cond.instanceMethod y ∈ tb) (hyn : y.name = "<init>") (hd : y.cls ≠ "java/lang/invoke/MethodHandle" ∧ y.cls ≠ "java/lang/invoke/VarHandle" ∧ (parseMethodDescriptor y.desc).map (fun d => d.parameters.length) = some 0) (hrc : rm.cells = mc) (hrs : rm.slots = ms) (hRm : rm.frames + 1 ≤ R.frames ∧ 8 + (1 + 11) + rm.locals ≤ R.locals) (h1 : cells + mc ≤ R.cells) (h2 : slots + ms ≤ R.slots) (hr : (rest.map fun v => v.category).sum ≤ 8) (d : decode cc pc = .ok (.invokespecial idx, 3)) (h : pc + 3 = q)
    (k : ∀ u : S, post u → YW p l e R s m args below meth c D A h0 Q q rest (wr ++ wu u) (cells + mc) (slots + ms)) : YW p l e R s m args below meth c D A h0 Q pc (.ref a :: rest) ws cells slots := by
  subst h
  intro H locs ls hP hD hS hl
  have hK := C.2.2.2.2.2.1
  have hPc : va_P D vwCl [(a, e0)] H := fun k x hx => by
    have hk : k = 0 := by have := (List.getElem?_eq_some_iff.mp hx).1; simp at this; exact this
    subst hk
    cases hx
    exact hP n _ hC
  have hDc : va_D (fun _ => True) [(a, e0)] := ⟨fun i j p q hi hj _ => by have h1 := (List.getElem?_eq_some_iff.mp hi).1; have h2 := (List.getElem?_eq_some_iff.mp hj).1; simp at h1 h2; omega, fun _ _ _ => trivial⟩
  have hFc := va_free (wc := [(a, e0)]) hD hS C.2.2.2.2.2.2.1 [n] (by simp [hC])
  refine va_callv (va_runI (As := []) (rest := rest) ⟨C.1, C.2.1, C.2.2.1, C.2.2.2.1, C.2.2.2.2.1⟩ (hM H.size) (cwI 0 C.2.2.2.2.1 (x_good (x_wU hco)) rfl hrc hrs (C.2.2.2.2.1 _ hini) (C.2.2.2.2.1 _ hml) (C.2.2.2.2.1 _ him) hyn hd hRm) ⟨fun a U g mk z => by obtain ⟨q0, q1, qP, qK, qD⟩ := z; exact ⟨q0, q1, qP, va_K.moved (u := U) (U := U.calling g mk a) (Vm.Alike.refl U.vm) qK, qD⟩, fun U hU hW => ⟨rfl, by rw [hU], by rw [hU]; exact hPc, va_K.moved hW.alike hK, hDc⟩⟩ rfl rfl hl.1 rfl (lv_room hr) d ⟨h1, h2⟩) hS (fun q _ h => hFc q h) hFc (fun u t H1 locs1 ht hvm hw hB hz1 hk1 hS1 => ?_)
  obtain ⟨hP1, hK1, hD1⟩ := hB
  rw [ht] at hP1
  obtain ⟨hP2, hD2⟩ := va_join (wr := wr) (w1 := wu u) hP hD [n] isR (by simp [hC]) hR hnd hdis hk1 hFc hP1 hD1
  exact k u hw H1 locs1 ls hP2 hD2 hS1 hl
end YLAYER
