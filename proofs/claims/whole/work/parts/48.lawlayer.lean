/-! the law's own walk: over both worlds -/
def aX (ad : Nat → Nat) (n : Nat) : Nat → Prop := fun q => ∃ k, k < n ∧ q = ad k
section LAW
variable {p : Program} {l : Launch} {e : Env} {s : State} {m : MethodId} {below : List Frame} {meth : Method} {c : Code} {D : va_G} {cI cZ : ClassId} {ad bd : Nat → Nat} {b L : Nat} {xs : Nat → Int32} {Q : State → Prop}
variable {pc q : Nat} {lv lv' : List (Nat × Value)} {st : List Value} {P T N U : St}
def LC (p : Program) (s : State) (m : MethodId) (c : Code) (D : va_G) (cI cZ : ClassId) (ad bd : Nat → Nat) (b L : Nat) (xs : Nat → Int32) : Prop :=
  (p.tables.exec = Jvm.exec ∧ c.code = cL_law ∧ c.maxLocals = 4 ∧ s.vm.findClass RL = some m.cls ∧ (∀ w ∈ tb, w.before #[Value.ref b] s = true) ∧ va_K D vwCl (tyz cI cZ) s ∧ va_X b L xs s s.heap ∧ b < s.heap.size) ∧ (∀ P T, va_D (aX ad 28) (wX ad cI cZ P T)) ∧ (∀ P T, va_D (aX bd 11) (wN bd cI cZ P T)) ∧ (∀ q, aX ad 28 q → s.heap.size ≤ q) ∧ (∀ q, aX bd 11 q → s.heap.size ≤ q) ∧ (∀ q, aX ad 28 q → ¬ aX bd 11 q)
def LW (p : Program) (l : Launch) (e : Env) (s : State) (m : MethodId) (below : List Frame) (meth : Method) (c : Code) (D : va_G) (cI cZ : ClassId) (ad bd : Nat → Nat) (b : Nat) (Q : State → Prop) (pc : Nat) (lv : List (Nat × Value)) (st : List Value) (P T N U : St) : Prop :=
  ∀ (H : Heap) (locs : List Loc) (ls : Array Slot), va_P D vwCl (wX ad cI cZ P T) H → va_P D vwCl (wN bd cI cZ N U) H → va_S (fun q => s.heap.size ≤ q) s.heap H locs → lv_has ls 4 lv → W p l e room_1 s m #[Value.ref b] below meth c H locs 39 6783 Q (F0 m pc ls st)
theorem l_aload_n {kk : Fin 4} {i x : Nat} (C : LC p s m c D cI cZ ad bd b L xs) (d : decode cL_law pc = .ok (.aload_n kk, 1)) (hi : (kk : Nat) = i) (j : Nat) (hj : lv[j]? = some (i, .ref x)) (h : pc + 1 = q) (k : LW p l e s m below meth c D cI cZ ad bd b Q q lv (.ref x :: st) P T N U) : LW p l e s m below meth c D cI cZ ad bd b Q pc lv st P T N U := by
  subst h
  exact fun H locs ls h1 h2 hS hl => lv_aload_n C.1.1 C.1.2.1 d hi (lv_at hl j hj) (k H locs ls h1 h2 hS hl)
theorem l_iload_n {kk : Fin 4} {i : Nat} {x : Int32} (C : LC p s m c D cI cZ ad bd b L xs) (d : decode cL_law pc = .ok (.iload_n kk, 1)) (hi : (kk : Nat) = i) (j : Nat) (hj : lv[j]? = some (i, .int x)) (h : pc + 1 = q) (k : LW p l e s m below meth c D cI cZ ad bd b Q q lv (.int x :: st) P T N U) : LW p l e s m below meth c D cI cZ ad bd b Q pc lv st P T N U := by
  subst h
  exact fun H locs ls h1 h2 hS hl => lv_iload_n C.1.1 C.1.2.1 d hi (lv_at hl j hj) (k H locs ls h1 h2 hS hl)
theorem l_iconst {n : Int} {v : Int32} (C : LC p s m c D cI cZ ad bd b L xs) (d : decode cL_law pc = .ok (.iconst n, 1)) (hv : Int32.ofInt n = v) (h : pc + 1 = q) (k : LW p l e s m below meth c D cI cZ ad bd b Q q lv (.int v :: st) P T N U) : LW p l e s m below meth c D cI cZ ad bd b Q pc lv st P T N U := by
  subst h
  exact fun H locs ls h1 h2 hS hl => lv_iconst C.1.1 C.1.2.1 d hv (k H locs ls h1 h2 hS hl)
theorem l_bipush {n : Int} {v : Int32} (C : LC p s m c D cI cZ ad bd b L xs) (d : decode cL_law pc = .ok (.bipush n, 2)) (hv : (Int8.ofInt n).toInt32 = v) (h : pc + 2 = q) (k : LW p l e s m below meth c D cI cZ ad bd b Q q lv (.int v :: st) P T N U) : LW p l e s m below meth c D cI cZ ad bd b Q pc lv st P T N U := by
  subst h
  exact fun H locs ls h1 h2 hS hl => lv_bipush C.1.1 C.1.2.1 d hv (k H locs ls h1 h2 hS hl)
theorem l_iadd {a a' : Nat} (C : LC p s m c D cI cZ ad bd b L xs) (d : decode cL_law pc = .ok (.iadd, 1)) (h : pc + 1 = q) (k : LW p l e s m below meth c D cI cZ ad bd b Q q lv (.int (nI (a + a')) :: st) P T N U) : LW p l e s m below meth c D cI cZ ad bd b Q pc lv (.int (nI a') :: .int (nI a) :: st) P T N U := by
  subst h
  intro H locs ls h1 h2 hS hl
  have k := k H locs ls h1 h2 hS hl
  rw [← nI_add] at k
  exact lv_iadd C.1.1 C.1.2.1 d k
theorem l_isub {x y : Int32} (C : LC p s m c D cI cZ ad bd b L xs) (d : decode cL_law pc = .ok (.isub, 1)) (h : pc + 1 = q) (k : LW p l e s m below meth c D cI cZ ad bd b Q q lv (.int (x - y) :: st) P T N U) : LW p l e s m below meth c D cI cZ ad bd b Q pc lv (.int y :: .int x :: st) P T N U := by
  subst h
  exact fun H locs ls h1 h2 hS hl => lv_isub C.1.1 C.1.2.1 d (k H locs ls h1 h2 hS hl)
theorem l_iand {x y : Int32} (C : LC p s m c D cI cZ ad bd b L xs) (d : decode cL_law pc = .ok (.iand, 1)) (h : pc + 1 = q) (k : LW p l e s m below meth c D cI cZ ad bd b Q q lv (.int (x &&& y) :: st) P T N U) : LW p l e s m below meth c D cI cZ ad bd b Q pc lv (.int y :: .int x :: st) P T N U := by
  subst h
  exact fun H locs ls h1 h2 hS hl => lv_iand C.1.1 C.1.2.1 d (k H locs ls h1 h2 hS hl)
theorem l_sld {i : Nat} (C : LC p s m c D cI cZ ad bd b L xs) (hi : i < L) (hL : L < 2 ^ 31) (d : decode cL_law pc = .ok (.iaload, 1)) (h : pc + 1 = q) (k : LW p l e s m below meth c D cI cZ ad bd b Q q lv (.int (xs i) :: st) P T N U) : LW p l e s m below meth c D cI cZ ad bd b Q pc lv (.int (nI i) :: .ref b :: st) P T N U := by
  subst h
  intro H locs ls h1 h2 hS hl
  have k := k H locs ls h1 h2 hS hl
  have e := nI_clamp (n := i) (by omega)
  exact va_sld C.1.1 C.1.2.1 C.1.2.2.2.2.2.2.1 C.1.2.2.2.2.2.2.2 (Nat.not_le.mpr C.1.2.2.2.2.2.2.2) hS (vp_in_nI hi hL) d (by rw [e]; exact k)
theorem l_slen (C : LC p s m c D cI cZ ad bd b L xs) (d : decode cL_law pc = .ok (.arraylength, 1)) (h : pc + 1 = q) (k : LW p l e s m below meth c D cI cZ ad bd b Q q lv (.int (nI L) :: st) P T N U) : LW p l e s m below meth c D cI cZ ad bd b Q pc lv (.ref b :: st) P T N U := by
  subst h
  exact fun H locs ls h1 h2 hS hl => va_slen C.1.1 C.1.2.1 C.1.2.2.2.2.2.2.1 C.1.2.2.2.2.2.2.2 (Nat.not_le.mpr C.1.2.2.2.2.2.2.2) hS d (k H locs ls h1 h2 hS hl)
theorem l_icmp_eq {x y : Int32} {off : Int} {tgt : Nat} (C : LC p s m c D cI cZ ad bd b L xs) (d : decode cL_law pc = .ok (.if_icmp .eq off, 3)) (ht : (pc : Int) + off = (tgt : Int)) (h : x = y) (k : LW p l e s m below meth c D cI cZ ad bd b Q tgt lv st P T N U) : LW p l e s m below meth c D cI cZ ad bd b Q pc lv (.int y :: .int x :: st) P T N U :=
  fun H locs ls h1 h2 hS hl => lv_icmp_eq C.1.1 C.1.2.1 d ht (fun _ => k H locs ls h1 h2 hS hl) (fun z => absurd h z)
theorem l_icmp_gt {x y : Int32} {off : Int} {tgt : Nat} (C : LC p s m c D cI cZ ad bd b L xs) (d : decode cL_law pc = .ok (.if_icmp .gt off, 3)) (ht : (pc : Int) + off = (tgt : Int)) (h : pc + 3 = q) (kt : y < x → LW p l e s m below meth c D cI cZ ad bd b Q tgt lv st P T N U) (kf : ¬ y < x → LW p l e s m below meth c D cI cZ ad bd b Q q lv st P T N U) : LW p l e s m below meth c D cI cZ ad bd b Q pc lv (.int y :: .int x :: st) P T N U := by
  subst h
  exact fun H locs ls h1 h2 hS hl => lv_icmp_gt C.1.1 C.1.2.1 d ht (fun z => kt z H locs ls h1 h2 hS hl) (fun z => kf z H locs ls h1 h2 hS hl)
theorem l_if_eq {x : Int32} {off : Int} {tgt : Nat} (C : LC p s m c D cI cZ ad bd b L xs) (d : decode cL_law pc = .ok (.ifCond .eq off, 3)) (ht : (pc : Int) + off = (tgt : Int)) (h : pc + 3 = q) (kt : x = 0 → LW p l e s m below meth c D cI cZ ad bd b Q tgt lv st P T N U) (kf : ¬ x = 0 → LW p l e s m below meth c D cI cZ ad bd b Q q lv st P T N U) : LW p l e s m below meth c D cI cZ ad bd b Q pc lv (.int x :: st) P T N U := by
  subst h
  exact fun H locs ls h1 h2 hS hl => lv_if_eq C.1.1 C.1.2.1 d ht (fun z => kt z H locs ls h1 h2 hS hl) (fun z => kf z H locs ls h1 h2 hS hl)
theorem l_goto {off : Int} {tgt : Nat} (C : LC p s m c D cI cZ ad bd b L xs) (d : decode cL_law pc = .ok (.goto off, 3)) (ht : (pc : Int) + off = (tgt : Int)) (k : LW p l e s m below meth c D cI cZ ad bd b Q tgt lv st P T N U) : LW p l e s m below meth c D cI cZ ad bd b Q pc lv st P T N U :=
  fun H locs ls h1 h2 hS hl => lv_goto C.1.1 C.1.2.1 d ht (k H locs ls h1 h2 hS hl)
theorem l_iinc {i j : Nat} {n : Int} {x v : Int32} (C : LC p s m c D cI cZ ad bd b L xs) (d : decode cL_law pc = .ok (.iinc i n, 3)) (hj : lv[j]? = some (i, .int x)) (hv : x + Int32.ofInt n = v) (hn : i < 4) (hc : lv.all (fun q => q.2.category == 1) = true) (hx : xst lv i (.int v) = lv') (h : pc + 3 = q) (k : LW p l e s m below meth c D cI cZ ad bd b Q q lv' st P T N U) : LW p l e s m below meth c D cI cZ ad bd b Q pc lv st P T N U := by
  subst h
  exact fun H locs ls h1 h2 hS hl => lv_iinc C.1.1 C.1.2.1 d hl hj hv hn rfl (fun ls' hl' => k H locs ls' h1 h2 hS (hx ▸ xst_has hl' hc))
theorem l_tableIn {dflt lo hi : Int} {offs : Array Int} {len : Nat} {x : Int32} {off : Int} {tgt : Nat} (C : LC p s m c D cI cZ ad bd b L xs) (d : decode cL_law pc = .ok (.tableswitch dflt lo hi offs, len)) (h1 : ¬ x.toInt < lo) (h2 : ¬ hi < x.toInt) (ho : offs[(x.toInt - lo).toNat]? = some off) (ht : (pc : Int) + off = (tgt : Int)) (k : LW p l e s m below meth c D cI cZ ad bd b Q tgt lv st P T N U) : LW p l e s m below meth c D cI cZ ad bd b Q pc lv (.int x :: st) P T N U :=
  fun H locs ls z1 z2 hS hl => lv_tableIn C.1.1 C.1.2.1 d h1 h2 ho ht (k H locs ls z1 z2 hS hl)
theorem l_tableOut {dflt lo hi : Int} {offs : Array Int} {len : Nat} {x : Int32} {tgt : Nat} (C : LC p s m c D cI cZ ad bd b L xs) (d : decode cL_law pc = .ok (.tableswitch dflt lo hi offs, len)) (h1 : x.toInt < lo ∨ hi < x.toInt) (ht : (pc : Int) + dflt = (tgt : Int)) (k : LW p l e s m below meth c D cI cZ ad bd b Q tgt lv st P T N U) : LW p l e s m below meth c D cI cZ ad bd b Q pc lv (.int x :: st) P T N U :=
  fun H locs ls z1 z2 hS hl => lv_tableOut C.1.1 C.1.2.1 d h1 ht (k H locs ls z1 z2 hS hl)
theorem wX_in {ad : Nat → Nat} {k : Nat} {x : Nat × va_E} (h : (wX ad cI cZ P T)[k]? = some x) (hD : va_D (aX ad 28) (wX ad cI cZ P T)) : aX ad 28 x.1 := hD.2 k x h
theorem l_X {y : MethodName} {bytes : ByteArray} {maxL n idx : Nat} {ret : Option FieldType} {rm : Room} {As rest : List Value} {post : Int32 → St → St → Prop} (C : LC p s m c D cI cZ ad bd b L xs) (hM : XMI l D (tyz cI cZ) (wX ad cI cZ) (aX ad 28) y bytes maxL ret rm (.ref (ad 0) :: As) P T post) (hs : XS y bytes maxL ret rm RX7 n) (hi : Cond.instanceMethod y ∈ tb) (hse : Cond.selects RX7 y y ∈ tb) (hml : Cond.methodLink RL idx y ∈ tb) (hR : rm.frames + 1 ≤ room_1.frames ∧ 8 + (maxL + 11) + rm.locals ≤ room_1.locals) (hn : As.length = n) (hst : st = As.reverse ++ .ref (ad 0) :: rest) (hr : (rest.map fun v => v.category).sum ≤ 8) (d : decode cL_law pc = .ok (.invokevirtual idx, 3)) (h : pc + 3 = q) (k : ∀ (r : Int32) (P' T' : St), post r P' T' → LW p l e s m below meth c D cI cZ ad bd b Q q lv (.int r :: rest) P' T' N U) : LW p l e s m below meth c D cI cZ ad bd b Q pc lv st P T N U := by
  subst h
  obtain ⟨hco, hini, hd, hrc, hrs⟩ := hs
  intro H locs ls h1 h2 hS hl
  obtain ⟨⟨cx, cb, cm, co, ct, cK, cX0, cbl⟩, cDX, cDN, cAX, cAN, cap⟩ := C
  refine va_calli (va_runV (As := As) (rest := rest) ⟨cx, cb, cm, co, ct⟩ hM (cwV n ct (x_gV hml hi hse hini hco) rfl hrc hrs hd hR) ⟨XPre.blind, va_recv (ci := 7) (q0 := 0) cK h1 rfl rfl, fun U hU hW => ⟨rfl, by rw [hU]; exact h1, va_K.moved hW.alike cK⟩⟩ rfl hn hl.1 hst (lv_room hr) d ⟨Nat.le_refl _, Nat.le_refl _⟩) hS (fun q _ h => cAX q h) (fun q h => cAX q h) (fun r u t H1 locs1 ht _ hp hB _ hk1 hS1 => ?_)
  exact k r u.1 u.2 hp H1 locs1 ls (by rw [← ht]; exact hB.1) (fun i x hx => (h2 i x hx).kept (hk1 x.1 (h2 i x hx).lt (fun z => cap x.1 z ((cDN N U).2 i x hx)))) hS1 hl
theorem l_N {y : MethodName} {bytes : ByteArray} {maxL n idx : Nat} {ret : Option FieldType} {rm : Room} {As rest : List Value} {post : Int32 → St → St → Prop} (C : LC p s m c D cI cZ ad bd b L xs) (hM : XMI l D (tyz cI cZ) (wN bd cI cZ) (aX bd 11) y bytes maxL ret rm (.ref (bd 0) :: As) N U post) (hs : XS y bytes maxL ret rm RX8 n) (hi : Cond.instanceMethod y ∈ tb) (hse : Cond.selects RX8 y y ∈ tb) (hml : Cond.methodLink RL idx y ∈ tb) (hR : rm.frames + 1 ≤ room_1.frames ∧ 8 + (maxL + 11) + rm.locals ≤ room_1.locals) (hn : As.length = n) (hst : st = As.reverse ++ .ref (bd 0) :: rest) (hr : (rest.map fun v => v.category).sum ≤ 8) (d : decode cL_law pc = .ok (.invokevirtual idx, 3)) (h : pc + 3 = q) (k : ∀ (r : Int32) (N' U' : St), post r N' U' → LW p l e s m below meth c D cI cZ ad bd b Q q lv (.int r :: rest) P T N' U') : LW p l e s m below meth c D cI cZ ad bd b Q pc lv st P T N U := by
  subst h
  obtain ⟨hco, hini, hd, hrc, hrs⟩ := hs
  intro H locs ls h1 h2 hS hl
  obtain ⟨⟨cx, cb, cm, co, ct, cK, cX0, cbl⟩, cDX, cDN, cAX, cAN, cap⟩ := C
  refine va_calli (va_runV (As := As) (rest := rest) ⟨cx, cb, cm, co, ct⟩ hM (cwV n ct (x_gV hml hi hse hini hco) rfl hrc hrs hd hR) ⟨XPre.blind, va_recv (ci := 8) (q0 := 0) cK h2 rfl rfl, fun U hU hW => ⟨rfl, by rw [hU]; exact h2, va_K.moved hW.alike cK⟩⟩ rfl hn hl.1 hst (lv_room hr) d ⟨Nat.le_refl _, Nat.le_refl _⟩) hS (fun q _ h => cAN q h) (fun q h => cAN q h) (fun r u t H1 locs1 ht _ hp hB _ hk1 hS1 => ?_)
  exact k r u.1 u.2 hp H1 locs1 ls (fun i x hx => (h1 i x hx).kept (hk1 x.1 (h1 i x hx).lt (fun z => cap x.1 ((cDX P T).2 i x hx) z))) (by rw [← ht]; exact hB.1) hS1 hl
end LAW
