/-! the law's start -/
theorem w_at {ws : va_W} {ad : Nat → Nat} {n k : Nat} {x : Nat × va_E} (hw : ws.map Prod.fst = (List.range n).map ad) (h : ws[k]? = some x) : k < n ∧ x.1 = ad k := by
  have h2 : (ws.map Prod.fst)[k]? = some x.1 := by rw [List.getElem?_map, h]; rfl
  rw [hw, List.getElem?_map] at h2
  by_cases q : k < n
  · rw [List.getElem?_range q] at h2; exact ⟨q, (Option.some.inj h2).symm⟩
  · rw [List.getElem?_eq_none (by rw [List.length_range]; omega)] at h2; cases h2
theorem w_len {ws : va_W} {ad : Nat → Nat} {n : Nat} (hw : ws.map Prod.fst = (List.range n).map ad) : ws.length = n := by
  have := congrArg List.length hw
  rw [List.length_map, List.length_map, List.length_range] at this
  exact this
theorem w_to {ws : va_W} {ad : Nat → Nat} {n k : Nat} (hw : ws.map Prod.fst = (List.range n).map ad) (hk : k < n) : ∃ x, ws[k]? = some x := by
  have := w_len hw
  exact ⟨ws[k]'(by omega), List.getElem?_eq_getElem _⟩
theorem D_all {ws ws' : va_W} {ad : Nat → Nat} {n : Nat} {A : Nat → Prop} (hw : ws.map Prod.fst = (List.range n).map ad) (hw' : ws'.map Prod.fst = (List.range n).map ad) (h : va_D A ws) : va_D (aX ad n) ws' := by
  refine ⟨fun i j p q hi hj hpq => ?_, fun k q hk => ⟨k, (w_at hw' hk).1, (w_at hw' hk).2⟩⟩
  obtain ⟨i1, i2⟩ := w_at hw' hi
  obtain ⟨j1, j2⟩ := w_at hw' hj
  obtain ⟨x, hx⟩ := w_to hw i1
  obtain ⟨y, hy⟩ := w_to hw j1
  exact h.1 i j x y hx hy (by rw [(w_at hw hx).2, (w_at hw hy).2, ← i2, ← j2, hpq])
theorem D_A {ws : va_W} {ad : Nat → Nat} {n : Nat} {A : Nat → Prop} (hw : ws.map Prod.fst = (List.range n).map ad) (h : va_D A ws) : ∀ q, aX ad n q → A q := by
  intro q hq
  obtain ⟨k, hk, e⟩ := hq
  obtain ⟨x, hx⟩ := w_to hw hk
  rw [e, ← (w_at hw hx).2]
  exact h.2 k x hx
theorem D_ap {w1 w2 : va_W} {ad bd : Nat → Nat} {n1 n2 : Nat} {A : Nat → Prop} (hw1 : w1.map Prod.fst = (List.range n1).map ad) (hw2 : w2.map Prod.fst = (List.range n2).map bd) (h : va_D A (w1 ++ w2)) : ∀ q, aX ad n1 q → ¬ aX bd n2 q := by
  intro q hq hq2
  obtain ⟨k, hk, e⟩ := hq
  obtain ⟨j, hj, e2⟩ := hq2
  obtain ⟨x, hx⟩ := w_to hw1 hk
  obtain ⟨y, hy⟩ := w_to hw2 hj
  have hlen := w_len hw1
  have := h.1 k (n1 + j) x y (by rw [List.getElem?_append_left (by omega)]; exact hx) (by rw [List.getElem?_append_right (by omega), hlen, Nat.add_sub_cancel_left]; exact hy) (by rw [(w_at hw1 hx).2, (w_at hw2 hy).2, ← e, ← e2])
  omega
theorem P_l {D : va_G} {w1 w2 : va_W} {H : Heap} (h : va_P D vwCl (w1 ++ w2) H) : va_P D vwCl w1 H := fun k x hx => h k x (by rw [List.getElem?_append_left (List.getElem?_eq_some_iff.mp hx).1]; exact hx)
theorem P_r {D : va_G} {w1 w2 : va_W} {H : Heap} (h : va_P D vwCl (w1 ++ w2) H) : va_P D vwCl w2 H := fun k x hx => h (w1.length + k) x (by rw [List.getElem?_append_right (Nat.le_add_right _ _), Nat.add_sub_cancel_left]; exact hx)
theorem D_l {A : Nat → Prop} {w1 w2 : va_W} (h : va_D A (w1 ++ w2)) : va_D A w1 := ⟨fun i j x y hi hj e => h.1 i j x y (by rw [List.getElem?_append_left (List.getElem?_eq_some_iff.mp hi).1]; exact hi) (by rw [List.getElem?_append_left (List.getElem?_eq_some_iff.mp hj).1]; exact hj) e, fun k x hx => h.2 k x (by rw [List.getElem?_append_left (List.getElem?_eq_some_iff.mp hx).1]; exact hx)⟩
theorem D_r {A : Nat → Prop} {w1 w2 : va_W} (h : va_D A (w1 ++ w2)) : va_D A w2 := ⟨fun i j x y hi hj e => Nat.add_left_cancel (h.1 (w1.length + i) (w1.length + j) x y (by rw [List.getElem?_append_right (Nat.le_add_right _ _), Nat.add_sub_cancel_left]; exact hi) (by rw [List.getElem?_append_right (Nat.le_add_right _ _), Nat.add_sub_cancel_left]; exact hj) e), fun k x hx => h.2 (w1.length + k) x (by rw [List.getElem?_append_right (Nat.le_add_right _ _), Nat.add_sub_cancel_left]; exact hx)⟩
theorem wX_fst (ad : Nat → Nat) (cI cZ : ClassId) (P T : St) : (wX ad cI cZ P T).map Prod.fst = (List.range 28).map ad := rfl
theorem wN_fst (ad : Nat → Nat) (cI cZ : ClassId) (P T : St) : (wN ad cI cZ P T).map Prod.fst = (List.range 11).map ad := rfl
def N0 : St := fun j => match j with
  | 21 => fun _ => nI 1
  | 26 => fun _ => nI 1
  | _ => fun _ => 0
def U0 : St := fun _ _ => 0
def bdf (q0 q1 q2 q3 q4 q5 q6 q7 q8 q9 q10 : Nat) : Nat → Nat := fun k => match k with
  | 0 => q0
  | 1 => q1
  | 2 => q2
  | 3 => q3
  | 4 => q4
  | 5 => q5
  | 6 => q6
  | 7 => q7
  | 8 => q8
  | 9 => q9
  | _ => q10
theorem kn0 (g1 g2 : Nat → Int32) : kn (P0X g1 g2) = 0 := by
  show (nI 0).toNatClampNeg = 0
  decide
theorem rel0 (g1 g2 : Nat → Int32) : rel (P0X g1 g2) (cX N0) := by
  refine ⟨fun j h0 h1 h2 h3 => ?_, fun k hk => absurd hk (by rw [kn0]; exact Nat.not_lt_zero k), fun k hk => absurd hk (by rw [kn0]; exact Nat.not_lt_zero k)⟩
  rcases (show j = 3 ∨ j = 4 ∨ j = 5 ∨ j = 6 ∨ j = 7 ∨ j = 8 ∨ j = 9 ∨ j = 10 ∨ j = 11 ∨ j = 12 ∨ j = 13 ∨ j = 14 ∨ j = 15 ∨ j = 16 ∨ j = 17 ∨ j = 18 ∨ j = 19 ∨ j = 20 ∨ j = 21 ∨ j = 22 ∨ j = 23 ∨ j = 24 ∨ j = 25 ∨ j = 26 by omega) with rfl | rfl | rfl | rfl | rfl | rfl | rfl | rfl | rfl | rfl | rfl | rfl | rfl | rfl | rfl | rfl | rfl | rfl | rfl | rfl | rfl | rfl | rfl | rfl <;> first | rfl | (funext i; exact nI_0)
theorem ok0 (g1 g2 : Nat → Int32) : okX (P0X g1 g2) := by
  have e20 := kn0 g1 g2
  have eS : nS (P0X g1 g2) = 1 := by show (nI 1).toNatClampNeg = 1; decide
  have er : nr (P0X g1 g2) = 0 := by show (nI 0).toNatClampNeg = 0; decide
  have et : nt (P0X g1 g2) = 0 := by show (nI 0).toNatClampNeg = 0; decide
  have ez : nz (P0X g1 g2) = 0 := by show (nI 0).toNatClampNeg = 0; decide
  have es : sdv (P0X g1 g2) = 1 := by show (nI 1).toNatClampNeg = 1; decide
  have hk : ∀ k, ¬ k < kn (P0X g1 g2) := fun k => by rw [e20]; exact Nat.not_lt_zero k
  have hr : ∀ k, ¬ k < nr (P0X g1 g2) := fun k => by rw [er]; exact Nat.not_lt_zero k
  have ht : ∀ k, ¬ k < nt (P0X g1 g2) := fun k => by rw [et]; exact Nat.not_lt_zero k
  refine ⟨⟨⟨by rw [e20]; rfl, by rw [e20]; decide⟩, ⟨by rw [eS]; rfl, by rw [eS, e20]; rfl, by rw [eS]; decide⟩, fun k h => absurd h (hk k), ⟨by rw [er]; rfl, by rw [er]; decide⟩, ⟨by rw [et]; rfl, by rw [et]; decide⟩, fun i h => absurd h (ht i), ⟨by rw [ez]; rfl, by rw [ez]; decide⟩, ⟨by rw [es]; rfl, by rw [es]; decide⟩, ⟨fun j _ => ?_, fun j _ => ?_, ?_⟩, ⟨fun k h => absurd h (hk k), fun k _ => ?_⟩, fun i h => absurd h (ht i)⟩, fun k h => absurd h (hk k), fun i h => absurd h (hr i), fun i => Or.inl rfl⟩
  · show -1000 ≤ (0 : Int32).toInt ∧ (0 : Int32).toInt ≤ 1000
    decide
  · show -1000 ≤ (0 : Int32).toInt ∧ (0 : Int32).toInt ≤ 1000
    decide
  · show -1000 ≤ (nI 0).toInt ∧ (nI 0).toInt ≤ 1000
    decide
  · show 0 ≤ (0 : Int32).toInt ∧ (0 : Int32).toInt ≤ 100
    decide
theorem start_call {p : Program} {l : Launch} {e : Env} {s : State} {m : MethodId} {below : List Frame} {meth : Method} {c : Code} {D : va_G} {cI cZ : ClassId} {A : Nat → Prop} {Q : State → Prop} {b pc q : Nat} {ws : va_W} {cells slots : Nat} {H : Heap} {locs : List Loc} {ls : Array Slot} {y : MethodName} {bytes : ByteArray} {idx a mc ms : Nat} {rm : Room} {e0 : va_E} {S : Type} {post : S → Prop} {wu : S → va_W} {rest : List Value} {wr : va_W} (hx : p.tables.exec = Jvm.exec) (hb : c.code = cL_law) (hml : c.maxLocals = 4) (hown : s.vm.findClass RL = some m.cls) (hts : ∀ w ∈ tb, w.before #[Value.ref b] s = true) (hK : va_K D vwCl (tyz cI cZ) s) (hP : va_P D vwCl ws H) (hD : va_D A ws) (hS : va_S A s.heap H locs) (hA : ∀ q, s.heap.size ≤ q → A q) (hl : ls.size = 4) (hM : YM l D cI cZ y bytes rm mc ms a e0 S post wu) (isR : List Nat) (n : Nat) (hC : ws[n]? = some (a, e0)) (hR : isR.map (fun i => ws[i]?) = wr.map some) (hnd : va_nd isR = true) (hdis : ∀ i ∈ isR, i ∉ [n])
    (hco : Cond.code y bytes 1 none ∈ tb) (hini : Cond.initialized y.cls ∈ tb) (hlk : Cond.methodLink RL idx y ∈ tb) (him : Cond.instanceMethod y ∈ tb) (hyn : y.name = "<init>") (hd : y.cls ≠ "java/lang/invoke/MethodHandle" ∧ y.cls ≠ "java/lang/invoke/VarHandle" ∧ (parseMethodDescriptor y.desc).map (fun d => d.parameters.length) = some 0) (hrc : rm.cells = mc) (hrs : rm.slots = ms) (hRm : rm.frames + 1 ≤ room_1.frames ∧ 8 + (1 + 11) + rm.locals ≤ room_1.locals) (h1 : cells + mc ≤ room_1.cells) (h2 : slots + ms ≤ room_1.slots) (hr : (rest.map fun v => v.category).sum ≤ 8) (d : decode cL_law pc = .ok (.invokespecial idx, 3)) (h : pc + 3 = q)
    (k : ∀ (u : S) (H1 : Heap) (locs1 : List Loc), post u → va_P D vwCl (wr ++ wu u) H1 → va_D A (wr ++ wu u) → va_S A s.heap H1 locs1 → W p l e room_1 s m #[Value.ref b] below meth c H1 locs1 (cells + mc) (slots + ms) Q (F0 m q ls rest)) : W p l e room_1 s m #[Value.ref b] below meth c H locs cells slots Q (F0 m pc ls (.ref a :: rest)) := by
  subst h
  have hPc : va_P D vwCl [(a, e0)] H := fun k x hx => by
    have hk : k = 0 := by have := (List.getElem?_eq_some_iff.mp hx).1; simp at this; exact this
    subst hk
    cases hx
    exact hP n _ hC
  have hDc : va_D (fun _ => True) [(a, e0)] := ⟨fun i j p q hi hj _ => by have h1 := (List.getElem?_eq_some_iff.mp hi).1; have h2 := (List.getElem?_eq_some_iff.mp hj).1; simp at h1 h2; omega, fun _ _ _ => trivial⟩
  have hFc := va_free (wc := [(a, e0)]) hD hS hA [n] (by simp [hC])
  refine va_callv (va_runI (As := []) (rest := rest) ⟨hx, hb, hml, hown, hts⟩ (hM H.size) (cwI 0 hts (x_good (x_wU hco)) rfl hrc hrs (hts _ hini) (hts _ hlk) (hts _ him) hyn hd hRm) ⟨fun a U g mk z => by obtain ⟨q0, q1, qP, qK, qD⟩ := z; exact ⟨q0, q1, qP, va_K.moved (u := U) (U := U.calling g mk a) (Vm.Alike.refl U.vm) qK, qD⟩, fun U hU hW => ⟨rfl, by rw [hU], by rw [hU]; exact hPc, va_K.moved hW.alike hK, hDc⟩⟩ rfl rfl hl rfl (lv_room hr) d ⟨h1, h2⟩) hS (fun q _ h => hFc q h) hFc (fun u t H1 locs1 ht hvm hw hB hz1 hk1 hS1 => ?_)
  obtain ⟨hP1, hK1, hD1⟩ := hB
  rw [ht] at hP1
  obtain ⟨hP2, hD2⟩ := va_join (wr := wr) (w1 := wu u) hP hD [n] isR (by simp [hC]) hR hnd hdis hk1 hFc hP1 hD1
  exact k u H1 locs1 hw hP2 hD2 hS1
set_option maxRecDepth 100000 in
set_option maxHeartbeats 4000000 in
theorem whole_start {p : Program} {e : Env} {s : State} {m : MethodId} {below : List Frame} {meth : Method} {c : Code} (l : Launch) {b L : Nat} {xs : Nat → Int32} (hL : L ≤ 4096) (C0 : lw_At p s m meth c b L xs) : W p l e room_1 s m #[Value.ref b] below meth c s.heap [] 0 0 (lw_Z below #[Value.ref b] s) (entryFrame m ([Value.ref b] : List Value).toArray 4) := by
  obtain ⟨hx, hb, hr, hml, hown0, hts0, hX, hbl, hlocks, hgv⟩ := id C0
  have hown : s.vm.findClass RL = some m.cls := hown0
  have hts : ∀ w ∈ tb, w.before #[Value.ref b] s = true := fun w h => hts0 w (tb_l h)
  have hA : ∀ q : Nat, s.heap.size ≤ q → (fun q : Nat => s.heap.size ≤ q) q := fun _ h => h
  obtain ⟨d0, i0, k0⟩ := u_known (C := RX0) (T := TX0) (N := 2) (n := 2) hts inX0 (hts _ tins_X0)
  obtain ⟨d1, i1, k1⟩ := u_known (C := RX1) (T := TX1) (N := 4) (n := 4) hts inX1 (hts _ tins_X1)
  obtain ⟨d2, i2, k2⟩ := u_known (C := RX2) (T := TX2) (N := 6) (n := 6) hts inX2 (hts _ tins_X2)
  obtain ⟨d3, i3, k3⟩ := u_known (C := RX3) (T := TX3) (N := 3) (n := 3) hts inX3 (hts _ tins_X3)
  obtain ⟨d4, i4, k4⟩ := u_known (C := RX4) (T := TX4) (N := 5) (n := 5) hts inX4 (hts _ tins_X4)
  obtain ⟨d5, i5, k5⟩ := u_known (C := RX5) (T := TX5) (N := 6) (n := 6) hts inX5 (hts _ tins_X5)
  obtain ⟨d6, i6, k6⟩ := u_known (C := RX6) (T := TX6) (N := 5) (n := 5) hts inX6 (hts _ tins_X6)
  obtain ⟨d7, i7, k7⟩ := u_known (C := RX7) (T := TX7) (N := 7) (n := 7) hts inX7 (hts _ tins_X7)
  obtain ⟨d8, i8, k8⟩ := u_known (C := RX8) (T := TX8) (N := 20) (n := 20) hts inX8 (hts _ tins_X8)
  obtain ⟨cI, kI, compI, a1, a2, a3⟩ := Cond.arrayClass_spec (hts _ tac_int)
  obtain ⟨cZ, kZ, compZ, b1, b2, b3⟩ := Cond.arrayClass_spec (hts _ tac_boolean)
  obtain ⟨D, hKc⟩ : ∃ D : va_G, ∀ (k : Nat) (q : vw_C), vwCl[k]? = some q → u_Kn s q.1 q.2.1 q.2.2 (D.1 k) (D.2 k) := by
    refine ⟨(fun k => match k with | 0 => d0 | 1 => d1 | 2 => d2 | 3 => d3 | 4 => d4 | 5 => d5 | 6 => d6 | 7 => d7 | _ => d8, fun k => match k with | 0 => i0 | 1 => i1 | 2 => i2 | 3 => i3 | 4 => i4 | 5 => i5 | 6 => i6 | 7 => i7 | _ => i8), ?_⟩
    intro k q hq
    match k, hq with
    | 0, hq => cases hq; exact k0
    | 1, hq => cases hq; exact k1
    | 2, hq => cases hq; exact k2
    | 3, hq => cases hq; exact k3
    | 4, hq => cases hq; exact k4
    | 5, hq => cases hq; exact k5
    | 6, hq => cases hq; exact k6
    | 7, hq => cases hq; exact k7
    | 8, hq => cases hq; exact k8
    | k + 9, hq => simp [vwCl] at hq
  have hK : va_K D vwCl (tyz cI cZ) s := by
    refine ⟨hKc, fun k q h => ?_⟩
    match k, h with
    | 0, h => cases h; exact ⟨fun n z => ⟨fun k h => (by cases h), kI, a2, compI, a3⟩, a1⟩
    | 1, h => cases h; exact ⟨fun n z => ⟨fun k h => (by cases h), kZ, b2, compZ, b3⟩, b1⟩
    | k + 2, h => simp [tyz] at h
  have hS : va_S (fun q : Nat => s.heap.size ≤ q) s.heap s.heap [] := va_S.rf
  have hP : va_P D vwCl [] s.heap := fun k q h => by simp at h
  have hD : va_D (fun q : Nat => s.heap.size ≤ q) [] := ⟨fun i j p q h => by simp at h, fun k q h => by simp at h⟩
  have hl := lv_entry ([.ref b]) (n := 4) (Nat.le_of_ble_eq_true rfl)
  rw [lg_entry_eq]
  generalize (lg_sl ([.ref b]) ++ List.replicate (4 - (lg_sl ([.ref b])).length) Slot.unset).toArray = ls at hl ⊢
  have hl : lv_has ls 4 [(0, .ref b)] := hl
  refine va_new (ci := 7) (fs := [.null, .null, .null, .null, .null, .null, .null]) (C := RX7) (T := TX7) (N := 7) hx hb hts inX7 tyX7 tyX7_ok hown (hts _ tcl_L_7) (hts _ tins_X7) (hts _ tini_X7) hK hP hD hS hA rfl (fun j hj => by rcases (show j = 0 ∨ j = 1 ∨ j = 2 ∨ j = 3 ∨ j = 4 ∨ j = 5 ∨ j = 6 by omega) with rfl | rfl | rfl | rfl | rfl | rfl | rfl <;> rfl) (Nat.le_of_ble_eq_true rfl) (Nat.le_of_ble_eq_true rfl) dL_law_0 (fun x0 H hP hD hS => ?_)
  refine W.widen (k := 1) (n := 7) (by omega) (by omega) ?_
  refine lv_dup hx hb dL_law_3 rfl ?_
  refine start_call (q := 7) (wr := []) (rest := [.ref x0]) hx hb hml hown hts hK hP hD hS hA hl.1 (c_X7_init x0) [] 0 rfl rfl rfl (by decide) tco_X7_init tini_X7 tml_L_9 tim_X7_init rfl (by decide +kernel) rfl rfl ⟨Nat.le_of_ble_eq_true rfl, Nat.le_of_ble_eq_true rfl⟩ (Nat.le_of_ble_eq_true rfl) (Nat.le_of_ble_eq_true rfl) (Nat.le_of_ble_eq_true rfl) dL_law_4 rfl (fun u H1 locs hu hP1 hD1 hS1 => ?_)
  obtain ⟨ad, g1, g2⟩ := u
  obtain ⟨hu0, -, -⟩ := hu
  have hu0 : ad 0 = x0 := hu0
  subst hu0
  have hP : va_P D vwCl (wX ad cI cZ (P0X g1 g2) T0X) H1 := hP1
  have hD : va_D (fun q : Nat => s.heap.size ≤ q) (wX ad cI cZ (P0X g1 g2) T0X) := hD1
  refine W.widen (k := 28) (n := 3627) (by omega) (by omega) ?_
  refine lv_astore_n (lv' := [(1, .ref (ad 0)), (0, .ref b)]) hx hb dL_law_7 rfl hl (by decide) rfl (fun ls hl => ?_)
  refine va_new (ci := 8) (fs := [.int 0, .int 0, .null, .null, .null, .int 0, .null, .int 0, .null, .null, .int 0, .int 0, .int 0, .null, .null, .int 0, .null, .null, .int 0, .int 0]) (C := RX8) (T := TX8) (N := 20) hx hb hts inX8 tyX8 tyX8_ok hown (hts _ tcl_L_10) (hts _ tins_X8) (hts _ tini_X8) hK hP hD hS1 hA rfl (fun j hj => by rcases (show j = 0 ∨ j = 1 ∨ j = 2 ∨ j = 3 ∨ j = 4 ∨ j = 5 ∨ j = 6 ∨ j = 7 ∨ j = 8 ∨ j = 9 ∨ j = 10 ∨ j = 11 ∨ j = 12 ∨ j = 13 ∨ j = 14 ∨ j = 15 ∨ j = 16 ∨ j = 17 ∨ j = 18 ∨ j = 19 by omega) with rfl | rfl | rfl | rfl | rfl | rfl | rfl | rfl | rfl | rfl | rfl | rfl | rfl | rfl | rfl | rfl | rfl | rfl | rfl | rfl <;> rfl) (Nat.le_of_ble_eq_true rfl) (Nat.le_of_ble_eq_true rfl) dL_law_8 (fun y0 H hP hD hS => ?_)
  refine W.widen (k := 29) (n := 3647) (by omega) (by omega) ?_
  refine lv_dup hx hb dL_law_11 rfl ?_
  refine start_call (q := 15) (wr := wX ad cI cZ (P0X g1 g2) T0X) (rest := [.ref y0]) hx hb hml hown hts hK hP hD hS hA hl.1 (c_X8_init y0) [0, 1, 2, 3, 4, 5, 6, 7, 8, 9, 10, 11, 12, 13, 14, 15, 16, 17, 18, 19, 20, 21, 22, 23, 24, 25, 26, 27] 28 rfl rfl rfl (by decide) tco_X8_init tini_X8 tml_L_12 tim_X8_init rfl (by decide +kernel) rfl rfl ⟨Nat.le_of_ble_eq_true rfl, Nat.le_of_ble_eq_true rfl⟩ (Nat.le_of_ble_eq_true rfl) (Nat.le_of_ble_eq_true rfl) (Nat.le_of_ble_eq_true rfl) dL_law_12 rfl (fun u H locs hu hP hD hS => ?_)
  obtain ⟨q1, q2, q3, q4, q5, q6, q7, q8, q9, q10⟩ := u
  refine W.widen (k := 39) (n := 6783) (by omega) (by omega) ?_
  have hP : va_P D vwCl (wX ad cI cZ (P0X g1 g2) T0X ++ wN (bdf y0 q1 q2 q3 q4 q5 q6 q7 q8 q9 q10) cI cZ N0 U0) H := hP
  have hD : va_D (fun q : Nat => s.heap.size ≤ q) (wX ad cI cZ (P0X g1 g2) T0X ++ wN (bdf y0 q1 q2 q3 q4 q5 q6 q7 q8 q9 q10) cI cZ N0 U0) := hD
  refine lv_astore_n (lv' := [(2, .ref (bdf y0 q1 q2 q3 q4 q5 q6 q7 q8 q9 q10 0)), (1, .ref (ad 0)), (0, .ref b)]) hx hb dL_law_15 rfl hl (by decide) rfl (fun ls hl => ?_)
  generalize (bdf y0 q1 q2 q3 q4 q5 q6 q7 q8 q9 q10) = bd at hP hD hl
  refine lv_iconst (v := nI 0) hx hb dL_law_16 (by decide) ?_
  refine lv_istore_n (lv' := [(3, .int (nI 0)), (2, .ref (bd 0)), (1, .ref (ad 0)), (0, .ref b)]) hx hb dL_law_17 rfl hl (by decide) rfl (fun ls hl => ?_)
  have C : LC p s m c D cI cZ ad bd b L xs := ⟨⟨hx, hb, hml, hown, hts, hK, hX, hbl⟩, fun P T => D_all (wX_fst _ _ _ _ _) (wX_fst _ _ _ _ _) (D_l hD), fun P T => D_all (wN_fst _ _ _ _ _) (wN_fst _ _ _ _ _) (D_r hD), D_A (wX_fst _ _ _ _ _) (D_l hD), D_A (wN_fst _ _ _ _ _) (D_r hD), D_ap (wX_fst _ _ _ _ _) (wN_fst _ _ _ _ _) hD⟩
  exact law_loop hL C hr hlocks (L + 9) 0 (P0X g1 g2) T0X N0 U0 (ok0 g1 g2) (rel0 g1 g2) (by omega) (by omega) H locs ls (P_l hP) (P_r hP) hS (lv_sub hl [3, 2, 1, 0] rfl)
