def w1 (ad : Nat → Nat) (cI cZ : ClassId) (_ T : St) : va_W := [(ad 27, .inl (cI, 6, .inl (T 19)))]
section FILL6
variable {l : Launch} {D : va_G} {ad : Nat → Nat} {cI cZ : ClassId} {A : Nat → Prop}
theorem xs_W27 {p : Program} {e : Env} {R : Room} {s : State} {m : MethodId} {args : Array Value} {below : List Frame} {meth : Method} {c : Code} {cc : ByteArray} {nL : Nat} {own : String} {Q : State → Prop} {rt : Option FieldType} {pc q : Nat} {lv : List (Nat × Value)} {st : List Value} {P T : St} {i : Nat} {x : Int32} (C : XC p s m args meth c D (tyz cI cZ) (w1 ad cI cZ) A cc nL own rt) (hi : i < 6) (d : decode cc pc = .ok (.iastore, 1)) (h : pc + 1 = q) (k : XW p l e R s m args below meth c D (w1 ad cI cZ) A nL Q q lv st P (st1 T 19 i x)) : XW p l e R s m args below meth c D (w1 ad cI cZ) A nL Q pc lv (.int x :: .int (nI i) :: .ref (ad 27) :: st) P T := x_iast (cA := cI) (n := 6) C 0 0 rfl rfl hi (by decide) rfl d h k
set_option maxRecDepth 100000 in
set_option maxHeartbeats 4000000 in
theorem c_fill6 (hD : ∀ P T, va_D A (w1 ad cI cZ P T)) {P T : St} (x : Int32) : XMV l D (tyz cI cZ) (w1 ad cI cZ) A yJ7_fill_53178 cJ7_fill_53178 4 none rmJ7_fill_53178 [.ref (ad 27), .int x] P T (fun P' T' => ∀ j, j < 6 → T' 19 j = x) := by
  refine x_start_v (lv := [(0, .ref (ad 27)), (1, .int x)]) (own := RJ7) (by decide) rfl hD (Nat.le_of_ble_eq_true rfl) rfl ?_
  intro p e s m args below meth c C
  refine x_iconst (q := 1) (v := nI 0) C dJ7_fill_53178_0 (by decide) rfl ?_
  refine x_istore_n (q := 2) (lv' := [(0, .ref (ad 27)), (1, .int x), (2, .int (nI 0))]) C dJ7_fill_53178_1 rfl (by decide) rfl rfl rfl ?_
  refine x_aload_n (q := 3) C dJ7_fill_53178_2 rfl 0 rfl rfl ?_
  refine x_alen (q := 4) (cA := cI) (n := 6) C 0 0 rfl rfl dJ7_fill_53178_3 rfl ?_
  refine x_istore_n (q := 5) (lv' := [(0, .ref (ad 27)), (1, .int x), (2, .int (nI 0)), (3, .int (nI 6))]) C dJ7_fill_53178_4 rfl (by decide) rfl rfl rfl ?_
  have L5 : ∀ (f1 : Nat) (k : Nat) (Tq : St), (k ≤ 6) → (∀ j, j ≠ 19 → Tq j = T j) → (∀ j, j < k → Tq 19 j = x) → 6 - k < f1 → XW p l e rmJ7_fill_53178 s m args below meth c D (w1 ad cI cZ) A 4 (MQ below (XPV D (tyz cI cZ) (w1 ad cI cZ) A (fun P' T' => ∀ j, j < 6 → T' 19 j = x)) args s 0 0 A) 5 [(0, .ref (ad 27)), (1, .int x), (2, .int (nI k)), (3, .int (nI 6))] [] P Tq := by
    intro f1
    induction f1 with
    | zero => intro k Tq hk hT hF hm; exact absurd hm (Nat.not_lt_zero _)
    | succ f1 ih5 =>
      intro k Tq hk hT hF hm5
      refine x_iload_n (q := 6) C dJ7_fill_53178_5 rfl 2 rfl rfl ?_
      refine x_iload_n (q := 7) C dJ7_fill_53178_6 rfl 3 rfl rfl ?_
      refine x_icmp_ge_n (q := 10) (tgt := 20) C dJ7_fill_53178_7 (by omega) (by omega) (by decide) rfl (fun c7 => ?_) (fun c7 => ?_)
      · exact x_vret C dJ7_fill_53178_20 (fun j hj => hF j (by omega))
      · refine x_aload_n (q := 11) C dJ7_fill_53178_10 rfl 0 rfl rfl ?_
        refine x_iload_n (q := 12) C dJ7_fill_53178_11 rfl 2 rfl rfl ?_
        refine x_iload_n (q := 13) C dJ7_fill_53178_12 rfl 1 rfl rfl ?_
        refine xs_W27 (q := 14) C (by omega) dJ7_fill_53178_13 rfl ?_
        refine x_iinc (q := 17) (v := nI (k + 1)) (lv' := [(0, .ref (ad 27)), (1, .int x), (2, .int (nI (k + 1))), (3, .int (nI 6))]) C dJ7_fill_53178_14 2 rfl (nI_add k 1) (by decide) rfl rfl rfl ?_
        refine x_goto (tgt := 5) C dJ7_fill_53178_17 (by decide) ?_
        exact ih5 (k + 1) _ (by omega) (fun j h => by rw [st1_ne h]; exact hT j h) (lt_s (fun j hj => by rw [st1_no (by omega)]; exact hF j hj) st1_at) (by omega)
  exact L5 _ 0 _ (Nat.zero_le _) (fun _ _ => rfl) (fun j hj => absurd hj (Nat.not_lt_zero j)) (Nat.lt_succ_self _)

end FILL6
section YFILL
variable {p : Program} {l : Launch} {e : Env} {R : Room} {s : State} {m : MethodId} {args : Array Value} {below : List Frame} {meth : Method} {c : Code} {D : va_G} {cI cZ : ClassId} {A : Nat → Prop} {cc : ByteArray} {own : String} {Q : State → Prop} {pc q : Nat} {ws : va_W} {h0 cells slots : Nat}
theorem y_fill {idx a : Nat} {f : Nat → Int32} {x : Int32} {rest : List Value} {wr : va_W} (C : YC p s m args meth c D cI cZ A cc own) (isR : List Nat) (n : Nat) (hC : ws[n]? = some (a, .inl (cI, 6, .inl f))) (hR : isR.map (fun i => ws[i]?) = wr.map some) (hnd : va_nd isR = true) (hdis : ∀ i ∈ isR, i ∉ [n]) (hml : Cond.methodLink own idx yJ7_fill_53178 ∈ tb) (hRm : rmJ7_fill_53178.frames + 1 ≤ R.frames ∧ 8 + (4 + 11) + rmJ7_fill_53178.locals ≤ R.locals) (h1 : cells ≤ R.cells) (h2 : slots ≤ R.slots) (hr : (rest.map fun v => v.category).sum ≤ 8) (d : decode cc pc = .ok (.invokestatic idx, 3)) (h : pc + 3 = q)
    (k : ∀ g : Nat → Int32, (∀ j, j < 6 → g j = x) → YW p l e R s m args below meth c D A h0 Q q rest (wr ++ [(a, .inl (cI, 6, .inl g))]) cells slots) : YW p l e R s m args below meth c D A h0 Q pc (.int x :: .ref a :: rest) ws cells slots := by
  subst h
  intro H locs ls hP hD hS hl
  have hK := C.2.2.2.2.2.1
  have hPc : va_P D vwCl (w1 (fun _ => a) cI cZ (fun _ _ => 0) (fun _ => f)) H := fun k x hx => by
    have hk : k = 0 := by have := (List.getElem?_eq_some_iff.mp hx).1; simp [w1] at this; exact this
    subst hk
    cases hx
    exact hP n _ hC
  have hDd : ∀ P T, va_D (fun q => q = a) (w1 (fun _ => a) cI cZ P T) := fun P T => ⟨fun i j p q hi hj _ => by have h1 := (List.getElem?_eq_some_iff.mp hi).1; have h2 := (List.getElem?_eq_some_iff.mp hj).1; simp [w1] at h1 h2; omega, fun k x hx => by
    have hk : k = 0 := by have := (List.getElem?_eq_some_iff.mp hx).1; simp [w1] at this; exact this
    subst hk
    cases hx
    rfl⟩
  have haA : A a := hD.2 n _ hC
  have hFc := va_free (wc := [(a, .inl (cI, 6, .inl f))]) hD hS C.2.2.2.2.2.2.1 [n] (by simp [hC])
  obtain ⟨hco, hini, hd, hrc, hrs⟩ := xs_J7_fill_53178
  refine va_callv (va_runS (As := [.ref a, .int x]) (rest := rest) ⟨C.1, C.2.1, C.2.2.1, C.2.2.2.1, C.2.2.2.2.1⟩ (c_fill6 (l := l) (D := D) (ad := fun _ => a) (cI := cI) (cZ := cZ) (A := fun q => q = a) hDd (P := fun _ _ => 0) (T := fun _ => f) x) (va_cwS 2 C.2.2.2.2.1 (x_gS hml tst_J7_fill_53178 (hd.1 ▸ hini) hco) rfl hrc hrs hd.2 hRm) ⟨XPre.blind, fun U hU hW => ⟨rfl, by rw [hU]; exact hPc, va_K.moved hW.alike hK⟩⟩ rfl rfl hl.1 rfl (lv_room hr) d ⟨h1, h2⟩) hS (fun q _ h => by subst h; exact haA) (fun q h => by subst h; exact haA) (fun u t H1 locs1 ht _ hp hB _ hk1 hS1 => ?_)
  have hP1 := hB.1
  rw [ht] at hP1
  obtain ⟨hP2, hD2⟩ := va_join (wr := wr) (w1 := w1 (fun _ => a) cI cZ u.1 u.2) hP hD [n] isR (by simp [hC]) hR hnd hdis (fun q h1 h2 => hk1 q h1 (fun e => h2 (Or.inl ⟨0, .inl (cI, 6, .inl f), by subst e; rfl⟩))) hFc hP1 ((hDd u.1 u.2).weaken (fun k x hx hq => Or.inl ⟨0, .inl (cI, 6, .inl f), by subst hq; rfl⟩))
  exact k (u.2 19) hp H1 locs1 ls hP2 hD2 hS1 hl
theorem y_retp {S : Type} {post : S → Prop} {wu : S → va_W} (C : YC p s m args meth c D cI cZ A cc own) (d : decode cc pc = .ok (.return_, 1)) (u : S) (hp : post u) (is : List Nat) (hnd : va_nd is = true) (hw : is.map (fun i => ws[i]?) = (wu u).map some) (hw2 : is.filterMap (fun i => ws[i]?) = wu u) : YW p l e R s m args below meth c D A h0 (MQ below (va_Qv post (fun u t => va_P D vwCl (wu u) t.heap ∧ va_K D vwCl (tyz cI cZ) t ∧ va_D A (wu u)) A) args s cells slots A) pc [] ws cells slots :=
  fun H locs ls hP hD hS hl => y_ret C d u hp rfl H locs ls (hP.sub is hw2) (hD.sub is hnd hw) hS hl
end YFILL
section CTORS
variable {l : Launch} {D : va_G} {cI cZ : ClassId}
abbrev rmX0_init : Room := { frames := 1, cells := 2, slots := 288, locals := 12 }
set_option maxRecDepth 100000 in
set_option maxHeartbeats 4000000 in
theorem c_X0_init (h0 : Nat) : YM l D cI cZ yX0_init cX0_init rmX0_init 2 288 h0 (.inr (0, [.null, .null])) (Nat × Nat) (fun u => True) (fun u => match u with
    | (q1, q2) => [(h0, .inr (0, [.ref q1, .ref q2])), (q1, .inl (cI, 144, .inl (fun _ => 0))), (q2, .inl (cI, 144, .inl (fun _ => 0)))]) := by
  refine y_start (own := RX0) (by decide) rfl rfl ?_
  intro p e s m args below meth c A C
  refine y_aload (q := 1) C dX0_init_0 rfl rfl ?_
  refine y_obj (q := 4) C tml_X0_3 tim_Obj tco_Obj dX0_init_1 (by decide) (by decide) rfl ?_
  refine y_aload (q := 5) C dX0_init_4 rfl rfl ?_
  refine y_sipush (q := 8) (v := nI 144) C dX0_init_5 (by decide) rfl ?_
  refine y_newI (q := 10) (n := 144) C tac_int dX0_init_8 (by decide) (by decide) (by decide) (by decide) rfl (fun q1 => ?_)
  refine y_putF (q := 13) (Cn := RX0) (F := TX0) (N := 2) (ci := 0) (v := .ref q1) (ty := .array .int) (ws' := [(h0, .inr (0, [.ref q1, .null])), (q1, .inl (cI, 144, .inl (fun _ => 0)))]) C inX0 tyX0 tyX0_ok nmX0 0 rfl rfl 0 (by decide) tfl_X0_9 rfl rfl (by decide +kernel) rfl rfl (Nat.le_of_ble_eq_true rfl) rfl dX0_init_10 rfl ?_
  refine y_aload (q := 14) C dX0_init_13 rfl rfl ?_
  refine y_sipush (q := 17) (v := nI 144) C dX0_init_14 (by decide) rfl ?_
  refine y_newI (q := 19) (n := 144) C tac_int dX0_init_17 (by decide) (by decide) (by decide) (by decide) rfl (fun q2 => ?_)
  refine y_putF (q := 22) (Cn := RX0) (F := TX0) (N := 2) (ci := 0) (v := .ref q2) (ty := .array .int) (ws' := [(h0, .inr (0, [.ref q1, .ref q2])), (q1, .inl (cI, 144, .inl (fun _ => 0))), (q2, .inl (cI, 144, .inl (fun _ => 0)))]) C inX0 tyX0 tyX0_ok nmX0 0 rfl rfl 1 (by decide) tfl_X0_15 rfl rfl (by decide +kernel) rfl rfl (Nat.le_of_ble_eq_true rfl) rfl dX0_init_19 rfl ?_
  exact y_ret C dX0_init_22 (q1, q2) trivial rfl
abbrev rmX1_init : Room := { frames := 1, cells := 3, slots := 606, locals := 12 }
set_option maxRecDepth 100000 in
set_option maxHeartbeats 4000000 in
theorem c_X1_init (h0 : Nat) : YM l D cI cZ yX1_init cX1_init rmX1_init 3 606 h0 (.inr (1, [.int 0, .null, .null, .null])) (Nat × Nat × Nat) (fun u => True) (fun u => match u with
    | (q1, q2, q3) => [(h0, .inr (1, [.int (nI 0), .ref q1, .ref q2, .ref q3])), (q1, .inl (cI, 24, .inl (fun _ => 0))), (q2, .inl (cI, 576, .inl (fun _ => 0))), (q3, .inl (cI, 6, .inl (fun _ => 0)))]) := by
  refine y_start (own := RX1) (by decide) rfl rfl ?_
  intro p e s m args below meth c A C
  refine y_aload (q := 1) C dX1_init_0 rfl rfl ?_
  refine y_obj (q := 4) C tml_X1_3 tim_Obj tco_Obj dX1_init_1 (by decide) (by decide) rfl ?_
  refine y_aload (q := 5) C dX1_init_4 rfl rfl ?_
  refine y_iconst (q := 6) (v := nI 0) C dX1_init_5 (by decide) rfl ?_
  refine y_put (q := 9) (Cn := RX1) (F := TX1) (N := 4) (ci := 1) (v := .int (nI 0)) (ty := .int) (ws' := [(h0, .inr (1, [.int (nI 0), .null, .null, .null]))]) C inX1 tyX1 tyX1_ok nmX1 0 rfl rfl 0 (by decide) tfl_X1_9 rfl rfl (by decide +kernel) rfl rfl (Nat.le_of_ble_eq_true rfl) rfl dX1_init_6 rfl ?_
  refine y_aload (q := 10) C dX1_init_9 rfl rfl ?_
  refine y_bipush (q := 12) (v := nI 24) C dX1_init_10 (by decide) rfl ?_
  refine y_newI (q := 14) (n := 24) C tac_int dX1_init_12 (by decide) (by decide) (by decide) (by decide) rfl (fun q1 => ?_)
  refine y_putF (q := 17) (Cn := RX1) (F := TX1) (N := 4) (ci := 1) (v := .ref q1) (ty := .array .int) (ws' := [(h0, .inr (1, [.int (nI 0), .ref q1, .null, .null])), (q1, .inl (cI, 24, .inl (fun _ => 0)))]) C inX1 tyX1 tyX1_ok nmX1 0 rfl rfl 1 (by decide) tfl_X1_15 rfl rfl (by decide +kernel) rfl rfl (Nat.le_of_ble_eq_true rfl) rfl dX1_init_14 rfl ?_
  refine y_aload (q := 18) C dX1_init_17 rfl rfl ?_
  refine y_sipush (q := 21) (v := nI 576) C dX1_init_18 (by decide) rfl ?_
  refine y_newI (q := 23) (n := 576) C tac_int dX1_init_21 (by decide) (by decide) (by decide) (by decide) rfl (fun q2 => ?_)
  refine y_putF (q := 26) (Cn := RX1) (F := TX1) (N := 4) (ci := 1) (v := .ref q2) (ty := .array .int) (ws' := [(h0, .inr (1, [.int (nI 0), .ref q1, .ref q2, .null])), (q1, .inl (cI, 24, .inl (fun _ => 0))), (q2, .inl (cI, 576, .inl (fun _ => 0)))]) C inX1 tyX1 tyX1_ok nmX1 0 rfl rfl 2 (by decide) tfl_X1_19 rfl rfl (by decide +kernel) rfl rfl (Nat.le_of_ble_eq_true rfl) rfl dX1_init_23 rfl ?_
  refine y_aload (q := 27) C dX1_init_26 rfl rfl ?_
  refine y_bipush (q := 29) (v := nI 6) C dX1_init_27 (by decide) rfl ?_
  refine y_newI (q := 31) (n := 6) C tac_int dX1_init_29 (by decide) (by decide) (by decide) (by decide) rfl (fun q3 => ?_)
  refine y_putF (q := 34) (Cn := RX1) (F := TX1) (N := 4) (ci := 1) (v := .ref q3) (ty := .array .int) (ws' := [(h0, .inr (1, [.int (nI 0), .ref q1, .ref q2, .ref q3])), (q1, .inl (cI, 24, .inl (fun _ => 0))), (q2, .inl (cI, 576, .inl (fun _ => 0))), (q3, .inl (cI, 6, .inl (fun _ => 0)))]) C inX1 tyX1 tyX1_ok nmX1 0 rfl rfl 3 (by decide) tfl_X1_22 rfl rfl (by decide +kernel) rfl rfl (Nat.le_of_ble_eq_true rfl) rfl dX1_init_31 rfl ?_
  exact y_ret C dX1_init_34 (q1, q2, q3) trivial rfl
abbrev rmX3_init : Room := { frames := 1, cells := 2, slots := 288, locals := 12 }
set_option maxRecDepth 100000 in
set_option maxHeartbeats 4000000 in
theorem c_X3_init (h0 : Nat) : YM l D cI cZ yX3_init cX3_init rmX3_init 2 288 h0 (.inr (3, [.int 0, .null, .null])) (Nat × Nat) (fun u => True) (fun u => match u with
    | (q1, q2) => [(h0, .inr (3, [.int (nI 0), .ref q1, .ref q2])), (q1, .inl (cI, 144, .inl (fun _ => 0))), (q2, .inl (cI, 144, .inl (fun _ => 0)))]) := by
  refine y_start (own := RX3) (by decide) rfl rfl ?_
  intro p e s m args below meth c A C
  refine y_aload (q := 1) C dX3_init_0 rfl rfl ?_
  refine y_obj (q := 4) C tml_X3_3 tim_Obj tco_Obj dX3_init_1 (by decide) (by decide) rfl ?_
  refine y_aload (q := 5) C dX3_init_4 rfl rfl ?_
  refine y_iconst (q := 6) (v := nI 0) C dX3_init_5 (by decide) rfl ?_
  refine y_put (q := 9) (Cn := RX3) (F := TX3) (N := 3) (ci := 3) (v := .int (nI 0)) (ty := .int) (ws' := [(h0, .inr (3, [.int (nI 0), .null, .null]))]) C inX3 tyX3 tyX3_ok nmX3 0 rfl rfl 0 (by decide) tfl_X3_9 rfl rfl (by decide +kernel) rfl rfl (Nat.le_of_ble_eq_true rfl) rfl dX3_init_6 rfl ?_
  refine y_aload (q := 10) C dX3_init_9 rfl rfl ?_
  refine y_sipush (q := 13) (v := nI 144) C dX3_init_10 (by decide) rfl ?_
  refine y_newI (q := 15) (n := 144) C tac_int dX3_init_13 (by decide) (by decide) (by decide) (by decide) rfl (fun q1 => ?_)
  refine y_putF (q := 18) (Cn := RX3) (F := TX3) (N := 3) (ci := 3) (v := .ref q1) (ty := .array .int) (ws' := [(h0, .inr (3, [.int (nI 0), .ref q1, .null])), (q1, .inl (cI, 144, .inl (fun _ => 0)))]) C inX3 tyX3 tyX3_ok nmX3 0 rfl rfl 1 (by decide) tfl_X3_15 rfl rfl (by decide +kernel) rfl rfl (Nat.le_of_ble_eq_true rfl) rfl dX3_init_15 rfl ?_
  refine y_aload (q := 19) C dX3_init_18 rfl rfl ?_
  refine y_sipush (q := 22) (v := nI 144) C dX3_init_19 (by decide) rfl ?_
  refine y_newI (q := 24) (n := 144) C tac_int dX3_init_22 (by decide) (by decide) (by decide) (by decide) rfl (fun q2 => ?_)
  refine y_putF (q := 27) (Cn := RX3) (F := TX3) (N := 3) (ci := 3) (v := .ref q2) (ty := .array .int) (ws' := [(h0, .inr (3, [.int (nI 0), .ref q1, .ref q2])), (q1, .inl (cI, 144, .inl (fun _ => 0))), (q2, .inl (cI, 144, .inl (fun _ => 0)))]) C inX3 tyX3 tyX3_ok nmX3 0 rfl rfl 2 (by decide) tfl_X3_19 rfl rfl (by decide +kernel) rfl rfl (Nat.le_of_ble_eq_true rfl) rfl dX3_init_24 rfl ?_
  exact y_ret C dX3_init_27 (q1, q2) trivial rfl
abbrev rmX4_init : Room := { frames := 1, cells := 2, slots := 2185, locals := 12 }
set_option maxRecDepth 100000 in
set_option maxHeartbeats 4000000 in
theorem c_X4_init (h0 : Nat) : YM l D cI cZ yX4_init cX4_init rmX4_init 2 2185 h0 (.inr (4, [.int 0, .int 0, .int 0, .null, .null])) (Nat × Nat) (fun u => True) (fun u => match u with
    | (q1, q2) => [(h0, .inr (4, [.int (nI 0), .int (nI 0), .int (nI 0), .ref q1, .ref q2])), (q1, .inl (cI, 16, .inl (fun _ => 0))), (q2, .inl (cI, 2169, .inl (fun _ => 0)))]) := by
  refine y_start (own := RX4) (by decide) rfl rfl ?_
  intro p e s m args below meth c A C
  refine y_aload (q := 1) C dX4_init_0 rfl rfl ?_
  refine y_obj (q := 4) C tml_X4_5 tim_Obj tco_Obj dX4_init_1 (by decide) (by decide) rfl ?_
  refine y_aload (q := 5) C dX4_init_4 rfl rfl ?_
  refine y_iconst (q := 6) (v := nI 0) C dX4_init_5 (by decide) rfl ?_
  refine y_put (q := 9) (Cn := RX4) (F := TX4) (N := 5) (ci := 4) (v := .int (nI 0)) (ty := .int) (ws' := [(h0, .inr (4, [.int (nI 0), .int 0, .int 0, .null, .null]))]) C inX4 tyX4 tyX4_ok nmX4 0 rfl rfl 0 (by decide) tfl_X4_11 rfl rfl (by decide +kernel) rfl rfl (Nat.le_of_ble_eq_true rfl) rfl dX4_init_6 rfl ?_
  refine y_aload (q := 10) C dX4_init_9 rfl rfl ?_
  refine y_iconst (q := 11) (v := nI 0) C dX4_init_10 (by decide) rfl ?_
  refine y_put (q := 14) (Cn := RX4) (F := TX4) (N := 5) (ci := 4) (v := .int (nI 0)) (ty := .int) (ws' := [(h0, .inr (4, [.int (nI 0), .int (nI 0), .int 0, .null, .null]))]) C inX4 tyX4 tyX4_ok nmX4 0 rfl rfl 1 (by decide) tfl_X4_15 rfl rfl (by decide +kernel) rfl rfl (Nat.le_of_ble_eq_true rfl) rfl dX4_init_11 rfl ?_
  refine y_aload (q := 15) C dX4_init_14 rfl rfl ?_
  refine y_iconst (q := 16) (v := nI 0) C dX4_init_15 (by decide) rfl ?_
  refine y_put (q := 19) (Cn := RX4) (F := TX4) (N := 5) (ci := 4) (v := .int (nI 0)) (ty := .int) (ws' := [(h0, .inr (4, [.int (nI 0), .int (nI 0), .int (nI 0), .null, .null]))]) C inX4 tyX4 tyX4_ok nmX4 0 rfl rfl 2 (by decide) tfl_X4_18 rfl rfl (by decide +kernel) rfl rfl (Nat.le_of_ble_eq_true rfl) rfl dX4_init_16 rfl ?_
  refine y_aload (q := 20) C dX4_init_19 rfl rfl ?_
  refine y_bipush (q := 22) (v := nI 16) C dX4_init_20 (by decide) rfl ?_
  refine y_newI (q := 24) (n := 16) C tac_int dX4_init_22 (by decide) (by decide) (by decide) (by decide) rfl (fun q1 => ?_)
  refine y_putF (q := 27) (Cn := RX4) (F := TX4) (N := 5) (ci := 4) (v := .ref q1) (ty := .array .int) (ws' := [(h0, .inr (4, [.int (nI 0), .int (nI 0), .int (nI 0), .ref q1, .null])), (q1, .inl (cI, 16, .inl (fun _ => 0)))]) C inX4 tyX4 tyX4_ok nmX4 0 rfl rfl 3 (by decide) tfl_X4_21 rfl rfl (by decide +kernel) rfl rfl (Nat.le_of_ble_eq_true rfl) rfl dX4_init_24 rfl ?_
  refine y_aload (q := 28) C dX4_init_27 rfl rfl ?_
  refine y_sipush (q := 31) (v := nI 2169) C dX4_init_28 (by decide) rfl ?_
  refine y_newI (q := 33) (n := 2169) C tac_int dX4_init_31 (by decide) (by decide) (by decide) (by decide) rfl (fun q2 => ?_)
  refine y_putF (q := 36) (Cn := RX4) (F := TX4) (N := 5) (ci := 4) (v := .ref q2) (ty := .array .int) (ws' := [(h0, .inr (4, [.int (nI 0), .int (nI 0), .int (nI 0), .ref q1, .ref q2])), (q1, .inl (cI, 16, .inl (fun _ => 0))), (q2, .inl (cI, 2169, .inl (fun _ => 0)))]) C inX4 tyX4 tyX4_ok nmX4 0 rfl rfl 4 (by decide) tfl_X4_25 rfl rfl (by decide +kernel) rfl rfl (Nat.le_of_ble_eq_true rfl) rfl dX4_init_33 rfl ?_
  exact y_ret C dX4_init_36 (q1, q2) trivial rfl
abbrev rmX5_init : Room := { frames := 1, cells := 5, slots := 60, locals := 12 }
set_option maxRecDepth 100000 in
set_option maxHeartbeats 4000000 in
theorem c_X5_init (h0 : Nat) : YM l D cI cZ yX5_init cX5_init rmX5_init 5 60 h0 (.inr (5, [.int 0, .null, .null, .null, .null, .null])) (Nat × Nat × Nat × Nat × Nat) (fun u => True) (fun u => match u with
    | (q1, q2, q3, q4, q5) => [(h0, .inr (5, [.int (nI 0), .ref q1, .ref q2, .ref q3, .ref q4, .ref q5])), (q1, .inl (cZ, 12, .inl (fun _ => 0))), (q2, .inl (cI, 12, .inl (fun _ => 0))), (q3, .inl (cI, 12, .inl (fun _ => 0))), (q4, .inl (cI, 12, .inl (fun _ => 0))), (q5, .inl (cI, 12, .inl (fun _ => 0)))]) := by
  refine y_start (own := RX5) (by decide) rfl rfl ?_
  intro p e s m args below meth c A C
  refine y_aload (q := 1) C dX5_init_0 rfl rfl ?_
  refine y_obj (q := 4) C tml_X5_3 tim_Obj tco_Obj dX5_init_1 (by decide) (by decide) rfl ?_
  refine y_aload (q := 5) C dX5_init_4 rfl rfl ?_
  refine y_iconst (q := 6) (v := nI 0) C dX5_init_5 (by decide) rfl ?_
  refine y_put (q := 9) (Cn := RX5) (F := TX5) (N := 6) (ci := 5) (v := .int (nI 0)) (ty := .int) (ws' := [(h0, .inr (5, [.int (nI 0), .null, .null, .null, .null, .null]))]) C inX5 tyX5 tyX5_ok nmX5 0 rfl rfl 0 (by decide) tfl_X5_9 rfl rfl (by decide +kernel) rfl rfl (Nat.le_of_ble_eq_true rfl) rfl dX5_init_6 rfl ?_
  refine y_aload (q := 10) C dX5_init_9 rfl rfl ?_
  refine y_bipush (q := 12) (v := nI 12) C dX5_init_10 (by decide) rfl ?_
  refine y_newZ (q := 14) (n := 12) C tac_boolean dX5_init_12 (by decide) (by decide) (by decide) (by decide) rfl (fun q1 => ?_)
  refine y_putF (q := 17) (Cn := RX5) (F := TX5) (N := 6) (ci := 5) (v := .ref q1) (ty := .array .boolean) (ws' := [(h0, .inr (5, [.int (nI 0), .ref q1, .null, .null, .null, .null])), (q1, .inl (cZ, 12, .inl (fun _ => 0)))]) C inX5 tyX5 tyX5_ok nmX5 0 rfl rfl 1 (by decide) tfl_X5_15 rfl rfl (by decide +kernel) rfl rfl (Nat.le_of_ble_eq_true rfl) rfl dX5_init_14 rfl ?_
  refine y_aload (q := 18) C dX5_init_17 rfl rfl ?_
  refine y_bipush (q := 20) (v := nI 12) C dX5_init_18 (by decide) rfl ?_
  refine y_newI (q := 22) (n := 12) C tac_int dX5_init_20 (by decide) (by decide) (by decide) (by decide) rfl (fun q2 => ?_)
  refine y_putF (q := 25) (Cn := RX5) (F := TX5) (N := 6) (ci := 5) (v := .ref q2) (ty := .array .int) (ws' := [(h0, .inr (5, [.int (nI 0), .ref q1, .ref q2, .null, .null, .null])), (q1, .inl (cZ, 12, .inl (fun _ => 0))), (q2, .inl (cI, 12, .inl (fun _ => 0)))]) C inX5 tyX5 tyX5_ok nmX5 0 rfl rfl 2 (by decide) tfl_X5_19 rfl rfl (by decide +kernel) rfl rfl (Nat.le_of_ble_eq_true rfl) rfl dX5_init_22 rfl ?_
  refine y_aload (q := 26) C dX5_init_25 rfl rfl ?_
  refine y_bipush (q := 28) (v := nI 12) C dX5_init_26 (by decide) rfl ?_
  refine y_newI (q := 30) (n := 12) C tac_int dX5_init_28 (by decide) (by decide) (by decide) (by decide) rfl (fun q3 => ?_)
  refine y_putF (q := 33) (Cn := RX5) (F := TX5) (N := 6) (ci := 5) (v := .ref q3) (ty := .array .int) (ws' := [(h0, .inr (5, [.int (nI 0), .ref q1, .ref q2, .ref q3, .null, .null])), (q1, .inl (cZ, 12, .inl (fun _ => 0))), (q2, .inl (cI, 12, .inl (fun _ => 0))), (q3, .inl (cI, 12, .inl (fun _ => 0)))]) C inX5 tyX5 tyX5_ok nmX5 0 rfl rfl 3 (by decide) tfl_X5_23 rfl rfl (by decide +kernel) rfl rfl (Nat.le_of_ble_eq_true rfl) rfl dX5_init_30 rfl ?_
  refine y_aload (q := 34) C dX5_init_33 rfl rfl ?_
  refine y_bipush (q := 36) (v := nI 12) C dX5_init_34 (by decide) rfl ?_
  refine y_newI (q := 38) (n := 12) C tac_int dX5_init_36 (by decide) (by decide) (by decide) (by decide) rfl (fun q4 => ?_)
  refine y_putF (q := 41) (Cn := RX5) (F := TX5) (N := 6) (ci := 5) (v := .ref q4) (ty := .array .int) (ws' := [(h0, .inr (5, [.int (nI 0), .ref q1, .ref q2, .ref q3, .ref q4, .null])), (q1, .inl (cZ, 12, .inl (fun _ => 0))), (q2, .inl (cI, 12, .inl (fun _ => 0))), (q3, .inl (cI, 12, .inl (fun _ => 0))), (q4, .inl (cI, 12, .inl (fun _ => 0)))]) C inX5 tyX5 tyX5_ok nmX5 0 rfl rfl 4 (by decide) tfl_X5_26 rfl rfl (by decide +kernel) rfl rfl (Nat.le_of_ble_eq_true rfl) rfl dX5_init_38 rfl ?_
  refine y_aload (q := 42) C dX5_init_41 rfl rfl ?_
  refine y_bipush (q := 44) (v := nI 12) C dX5_init_42 (by decide) rfl ?_
  refine y_newI (q := 46) (n := 12) C tac_int dX5_init_44 (by decide) (by decide) (by decide) (by decide) rfl (fun q5 => ?_)
  refine y_putF (q := 49) (Cn := RX5) (F := TX5) (N := 6) (ci := 5) (v := .ref q5) (ty := .array .int) (ws' := [(h0, .inr (5, [.int (nI 0), .ref q1, .ref q2, .ref q3, .ref q4, .ref q5])), (q1, .inl (cZ, 12, .inl (fun _ => 0))), (q2, .inl (cI, 12, .inl (fun _ => 0))), (q3, .inl (cI, 12, .inl (fun _ => 0))), (q4, .inl (cI, 12, .inl (fun _ => 0))), (q5, .inl (cI, 12, .inl (fun _ => 0)))]) C inX5 tyX5 tyX5_ok nmX5 0 rfl rfl 5 (by decide) tfl_X5_29 rfl rfl (by decide +kernel) rfl rfl (Nat.le_of_ble_eq_true rfl) rfl dX5_init_46 rfl ?_
  exact y_ret C dX5_init_49 (q1, q2, q3, q4, q5) trivial rfl
abbrev rmX6_init : Room := { frames := 1, cells := 2, slots := 120, locals := 12 }
set_option maxRecDepth 100000 in
set_option maxHeartbeats 4000000 in
theorem c_X6_init (h0 : Nat) : YM l D cI cZ yX6_init cX6_init rmX6_init 2 120 h0 (.inr (6, [.int 0, .int 0, .int 0, .null, .null])) (Nat × Nat) (fun u => True) (fun u => match u with
    | (q1, q2) => [(h0, .inr (6, [.int (nI 0), .int (nI 0), .int (nI 1), .ref q1, .ref q2])), (q1, .inl (cI, 60, .inl (fun _ => 0))), (q2, .inl (cI, 60, .inl (fun _ => 0)))]) := by
  refine y_start (own := RX6) (by decide) rfl rfl ?_
  intro p e s m args below meth c A C
  refine y_aload (q := 1) C dX6_init_0 rfl rfl ?_
  refine y_obj (q := 4) C tml_X6_3 tim_Obj tco_Obj dX6_init_1 (by decide) (by decide) rfl ?_
  refine y_aload (q := 5) C dX6_init_4 rfl rfl ?_
  refine y_iconst (q := 6) (v := nI 0) C dX6_init_5 (by decide) rfl ?_
  refine y_put (q := 9) (Cn := RX6) (F := TX6) (N := 5) (ci := 6) (v := .int (nI 0)) (ty := .int) (ws' := [(h0, .inr (6, [.int (nI 0), .int 0, .int 0, .null, .null]))]) C inX6 tyX6 tyX6_ok nmX6 0 rfl rfl 0 (by decide) tfl_X6_9 rfl rfl (by decide +kernel) rfl rfl (Nat.le_of_ble_eq_true rfl) rfl dX6_init_6 rfl ?_
  refine y_aload (q := 10) C dX6_init_9 rfl rfl ?_
  refine y_iconst (q := 11) (v := nI 0) C dX6_init_10 (by decide) rfl ?_
  refine y_put (q := 14) (Cn := RX6) (F := TX6) (N := 5) (ci := 6) (v := .int (nI 0)) (ty := .int) (ws' := [(h0, .inr (6, [.int (nI 0), .int (nI 0), .int 0, .null, .null]))]) C inX6 tyX6 tyX6_ok nmX6 0 rfl rfl 1 (by decide) tfl_X6_15 rfl rfl (by decide +kernel) rfl rfl (Nat.le_of_ble_eq_true rfl) rfl dX6_init_11 rfl ?_
  refine y_aload (q := 15) C dX6_init_14 rfl rfl ?_
  refine y_iconst (q := 16) (v := nI 1) C dX6_init_15 (by decide) rfl ?_
  refine y_put (q := 19) (Cn := RX6) (F := TX6) (N := 5) (ci := 6) (v := .int (nI 1)) (ty := .int) (ws' := [(h0, .inr (6, [.int (nI 0), .int (nI 0), .int (nI 1), .null, .null]))]) C inX6 tyX6 tyX6_ok nmX6 0 rfl rfl 2 (by decide) tfl_X6_18 rfl rfl (by decide +kernel) rfl rfl (Nat.le_of_ble_eq_true rfl) rfl dX6_init_16 rfl ?_
  refine y_aload (q := 20) C dX6_init_19 rfl rfl ?_
  refine y_bipush (q := 22) (v := nI 60) C dX6_init_20 (by decide) rfl ?_
  refine y_newI (q := 24) (n := 60) C tac_int dX6_init_22 (by decide) (by decide) (by decide) (by decide) rfl (fun q1 => ?_)
  refine y_putF (q := 27) (Cn := RX6) (F := TX6) (N := 5) (ci := 6) (v := .ref q1) (ty := .array .int) (ws' := [(h0, .inr (6, [.int (nI 0), .int (nI 0), .int (nI 1), .ref q1, .null])), (q1, .inl (cI, 60, .inl (fun _ => 0)))]) C inX6 tyX6 tyX6_ok nmX6 0 rfl rfl 3 (by decide) tfl_X6_21 rfl rfl (by decide +kernel) rfl rfl (Nat.le_of_ble_eq_true rfl) rfl dX6_init_24 rfl ?_
  refine y_aload (q := 28) C dX6_init_27 rfl rfl ?_
  refine y_bipush (q := 30) (v := nI 60) C dX6_init_28 (by decide) rfl ?_
  refine y_newI (q := 32) (n := 60) C tac_int dX6_init_30 (by decide) (by decide) (by decide) (by decide) rfl (fun q2 => ?_)
  refine y_putF (q := 35) (Cn := RX6) (F := TX6) (N := 5) (ci := 6) (v := .ref q2) (ty := .array .int) (ws' := [(h0, .inr (6, [.int (nI 0), .int (nI 0), .int (nI 1), .ref q1, .ref q2])), (q1, .inl (cI, 60, .inl (fun _ => 0))), (q2, .inl (cI, 60, .inl (fun _ => 0)))]) C inX6 tyX6 tyX6_ok nmX6 0 rfl rfl 4 (by decide) tfl_X6_25 rfl rfl (by decide +kernel) rfl rfl (Nat.le_of_ble_eq_true rfl) rfl dX6_init_32 rfl ?_
  exact y_ret C dX6_init_35 (q1, q2) trivial rfl
abbrev rmX8_init : Room := { frames := 1, cells := 10, slots := 3136, locals := 12 }
set_option maxRecDepth 100000 in
set_option maxHeartbeats 4000000 in
theorem c_X8_init (h0 : Nat) : YM l D cI cZ yX8_init cX8_init rmX8_init 10 3136 h0 (.inr (8, [.int 0, .int 0, .null, .null, .null, .int 0, .null, .int 0, .null, .null, .int 0, .int 0, .int 0, .null, .null, .int 0, .null, .null, .int 0, .int 0])) (Nat × Nat × Nat × Nat × Nat × Nat × Nat × Nat × Nat × Nat) (fun u => True) (fun u => match u with
    | (q1, q2, q3, q4, q5, q6, q7, q8, q9, q10) => [(h0, .inr (8, [.int 0, .int (nI 1), .ref q1, .ref q2, .ref q3, .int 0, .ref q4, .int 0, .ref q5, .ref q6, .int 0, .int (nI 1), .int 0, .ref q7, .ref q8, .int 0, .ref q9, .ref q10, .int 0, .int 0])), (q1, .inl (cI, 6, .inl (fun _ => 0))), (q2, .inl (cI, 24, .inl (fun _ => 0))), (q3, .inl (cI, 6, .inl (fun _ => 0))), (q4, .inl (cI, 60, .inl (fun _ => 0))), (q5, .inl (cI, 24, .inl (fun _ => 0))), (q6, .inl (cI, 576, .inl (fun _ => 0))), (q7, .inl (cI, 60, .inl (fun _ => 0))), (q8, .inl (cI, 60, .inl (fun _ => 0))), (q9, .inl (cI, 16, .inl (fun _ => 0))), (q10, .inl (cI, 2304, .inl (fun _ => 0)))]) := by
  refine y_start (own := RX8) (by decide) rfl rfl ?_
  intro p e s m args below meth c A C
  refine y_aload (q := 1) C dX8_init_0 rfl rfl ?_
  refine y_obj (q := 4) C tml_X8_1 tim_Obj tco_Obj dX8_init_1 (by decide) (by decide) rfl ?_
  refine y_aload (q := 5) C dX8_init_4 rfl rfl ?_
  refine y_iconst (q := 6) (v := nI 1) C dX8_init_5 (by decide) rfl ?_
  refine y_put (q := 9) (Cn := RX8) (F := TX8) (N := 20) (ci := 8) (v := .int (nI 1)) (ty := .int) (ws' := [(h0, .inr (8, [.int 0, .int (nI 1), .null, .null, .null, .int 0, .null, .int 0, .null, .null, .int 0, .int 0, .int 0, .null, .null, .int 0, .null, .null, .int 0, .int 0]))]) C inX8 tyX8 tyX8_ok nmX8 0 rfl rfl 1 (by decide) tfl_X8_7 rfl rfl (by decide +kernel) rfl rfl (Nat.le_of_ble_eq_true rfl) rfl dX8_init_6 rfl ?_
  refine y_aload (q := 10) C dX8_init_9 rfl rfl ?_
  refine y_bipush (q := 12) (v := nI 6) C dX8_init_10 (by decide) rfl ?_
  refine y_newI (q := 14) (n := 6) C tac_int dX8_init_12 (by decide) (by decide) (by decide) (by decide) rfl (fun q1 => ?_)
  refine y_putF (q := 17) (Cn := RX8) (F := TX8) (N := 20) (ci := 8) (v := .ref q1) (ty := .array .int) (ws' := [(h0, .inr (8, [.int 0, .int (nI 1), .ref q1, .null, .null, .int 0, .null, .int 0, .null, .null, .int 0, .int 0, .int 0, .null, .null, .int 0, .null, .null, .int 0, .int 0])), (q1, .inl (cI, 6, .inl (fun _ => 0)))]) C inX8 tyX8 tyX8_ok nmX8 0 rfl rfl 2 (by decide) tfl_X8_13 rfl rfl (by decide +kernel) rfl rfl (Nat.le_of_ble_eq_true rfl) rfl dX8_init_14 rfl ?_
  refine y_aload (q := 18) C dX8_init_17 rfl rfl ?_
  refine y_bipush (q := 20) (v := nI 24) C dX8_init_18 (by decide) rfl ?_
  refine y_newI (q := 22) (n := 24) C tac_int dX8_init_20 (by decide) (by decide) (by decide) (by decide) rfl (fun q2 => ?_)
  refine y_putF (q := 25) (Cn := RX8) (F := TX8) (N := 20) (ci := 8) (v := .ref q2) (ty := .array .int) (ws' := [(h0, .inr (8, [.int 0, .int (nI 1), .ref q1, .ref q2, .null, .int 0, .null, .int 0, .null, .null, .int 0, .int 0, .int 0, .null, .null, .int 0, .null, .null, .int 0, .int 0])), (q1, .inl (cI, 6, .inl (fun _ => 0))), (q2, .inl (cI, 24, .inl (fun _ => 0)))]) C inX8 tyX8 tyX8_ok nmX8 0 rfl rfl 3 (by decide) tfl_X8_17 rfl rfl (by decide +kernel) rfl rfl (Nat.le_of_ble_eq_true rfl) rfl dX8_init_22 rfl ?_
  refine y_aload (q := 26) C dX8_init_25 rfl rfl ?_
  refine y_bipush (q := 28) (v := nI 6) C dX8_init_26 (by decide) rfl ?_
  refine y_newI (q := 30) (n := 6) C tac_int dX8_init_28 (by decide) (by decide) (by decide) (by decide) rfl (fun q3 => ?_)
  refine y_putF (q := 33) (Cn := RX8) (F := TX8) (N := 20) (ci := 8) (v := .ref q3) (ty := .array .int) (ws' := [(h0, .inr (8, [.int 0, .int (nI 1), .ref q1, .ref q2, .ref q3, .int 0, .null, .int 0, .null, .null, .int 0, .int 0, .int 0, .null, .null, .int 0, .null, .null, .int 0, .int 0])), (q1, .inl (cI, 6, .inl (fun _ => 0))), (q2, .inl (cI, 24, .inl (fun _ => 0))), (q3, .inl (cI, 6, .inl (fun _ => 0)))]) C inX8 tyX8 tyX8_ok nmX8 0 rfl rfl 4 (by decide) tfl_X8_20 rfl rfl (by decide +kernel) rfl rfl (Nat.le_of_ble_eq_true rfl) rfl dX8_init_30 rfl ?_
  refine y_aload (q := 34) C dX8_init_33 rfl rfl ?_
  refine y_bipush (q := 36) (v := nI 60) C dX8_init_34 (by decide) rfl ?_
  refine y_newI (q := 38) (n := 60) C tac_int dX8_init_36 (by decide) (by decide) (by decide) (by decide) rfl (fun q4 => ?_)
  refine y_putF (q := 41) (Cn := RX8) (F := TX8) (N := 20) (ci := 8) (v := .ref q4) (ty := .array .int) (ws' := [(h0, .inr (8, [.int 0, .int (nI 1), .ref q1, .ref q2, .ref q3, .int 0, .ref q4, .int 0, .null, .null, .int 0, .int 0, .int 0, .null, .null, .int 0, .null, .null, .int 0, .int 0])), (q1, .inl (cI, 6, .inl (fun _ => 0))), (q2, .inl (cI, 24, .inl (fun _ => 0))), (q3, .inl (cI, 6, .inl (fun _ => 0))), (q4, .inl (cI, 60, .inl (fun _ => 0)))]) C inX8 tyX8 tyX8_ok nmX8 0 rfl rfl 6 (by decide) tfl_X8_23 rfl rfl (by decide +kernel) rfl rfl (Nat.le_of_ble_eq_true rfl) rfl dX8_init_38 rfl ?_
  refine y_aload (q := 42) C dX8_init_41 rfl rfl ?_
  refine y_bipush (q := 44) (v := nI 24) C dX8_init_42 (by decide) rfl ?_
  refine y_newI (q := 46) (n := 24) C tac_int dX8_init_44 (by decide) (by decide) (by decide) (by decide) rfl (fun q5 => ?_)
  refine y_putF (q := 49) (Cn := RX8) (F := TX8) (N := 20) (ci := 8) (v := .ref q5) (ty := .array .int) (ws' := [(h0, .inr (8, [.int 0, .int (nI 1), .ref q1, .ref q2, .ref q3, .int 0, .ref q4, .int 0, .ref q5, .null, .int 0, .int 0, .int 0, .null, .null, .int 0, .null, .null, .int 0, .int 0])), (q1, .inl (cI, 6, .inl (fun _ => 0))), (q2, .inl (cI, 24, .inl (fun _ => 0))), (q3, .inl (cI, 6, .inl (fun _ => 0))), (q4, .inl (cI, 60, .inl (fun _ => 0))), (q5, .inl (cI, 24, .inl (fun _ => 0)))]) C inX8 tyX8 tyX8_ok nmX8 0 rfl rfl 8 (by decide) tfl_X8_26 rfl rfl (by decide +kernel) rfl rfl (Nat.le_of_ble_eq_true rfl) rfl dX8_init_46 rfl ?_
  refine y_aload (q := 50) C dX8_init_49 rfl rfl ?_
  refine y_sipush (q := 53) (v := nI 576) C dX8_init_50 (by decide) rfl ?_
  refine y_newI (q := 55) (n := 576) C tac_int dX8_init_53 (by decide) (by decide) (by decide) (by decide) rfl (fun q6 => ?_)
  refine y_putF (q := 58) (Cn := RX8) (F := TX8) (N := 20) (ci := 8) (v := .ref q6) (ty := .array .int) (ws' := [(h0, .inr (8, [.int 0, .int (nI 1), .ref q1, .ref q2, .ref q3, .int 0, .ref q4, .int 0, .ref q5, .ref q6, .int 0, .int 0, .int 0, .null, .null, .int 0, .null, .null, .int 0, .int 0])), (q1, .inl (cI, 6, .inl (fun _ => 0))), (q2, .inl (cI, 24, .inl (fun _ => 0))), (q3, .inl (cI, 6, .inl (fun _ => 0))), (q4, .inl (cI, 60, .inl (fun _ => 0))), (q5, .inl (cI, 24, .inl (fun _ => 0))), (q6, .inl (cI, 576, .inl (fun _ => 0)))]) C inX8 tyX8 tyX8_ok nmX8 0 rfl rfl 9 (by decide) tfl_X8_29 rfl rfl (by decide +kernel) rfl rfl (Nat.le_of_ble_eq_true rfl) rfl dX8_init_55 rfl ?_
  refine y_aload (q := 59) C dX8_init_58 rfl rfl ?_
  refine y_iconst (q := 60) (v := nI 1) C dX8_init_59 (by decide) rfl ?_
  refine y_put (q := 63) (Cn := RX8) (F := TX8) (N := 20) (ci := 8) (v := .int (nI 1)) (ty := .int) (ws' := [(h0, .inr (8, [.int 0, .int (nI 1), .ref q1, .ref q2, .ref q3, .int 0, .ref q4, .int 0, .ref q5, .ref q6, .int 0, .int (nI 1), .int 0, .null, .null, .int 0, .null, .null, .int 0, .int 0])), (q1, .inl (cI, 6, .inl (fun _ => 0))), (q2, .inl (cI, 24, .inl (fun _ => 0))), (q3, .inl (cI, 6, .inl (fun _ => 0))), (q4, .inl (cI, 60, .inl (fun _ => 0))), (q5, .inl (cI, 24, .inl (fun _ => 0))), (q6, .inl (cI, 576, .inl (fun _ => 0)))]) C inX8 tyX8 tyX8_ok nmX8 0 rfl rfl 11 (by decide) tfl_X8_32 rfl rfl (by decide +kernel) rfl rfl (Nat.le_of_ble_eq_true rfl) rfl dX8_init_60 rfl ?_
  refine y_aload (q := 64) C dX8_init_63 rfl rfl ?_
  refine y_bipush (q := 66) (v := nI 60) C dX8_init_64 (by decide) rfl ?_
  refine y_newI (q := 68) (n := 60) C tac_int dX8_init_66 (by decide) (by decide) (by decide) (by decide) rfl (fun q7 => ?_)
  refine y_putF (q := 71) (Cn := RX8) (F := TX8) (N := 20) (ci := 8) (v := .ref q7) (ty := .array .int) (ws' := [(h0, .inr (8, [.int 0, .int (nI 1), .ref q1, .ref q2, .ref q3, .int 0, .ref q4, .int 0, .ref q5, .ref q6, .int 0, .int (nI 1), .int 0, .ref q7, .null, .int 0, .null, .null, .int 0, .int 0])), (q1, .inl (cI, 6, .inl (fun _ => 0))), (q2, .inl (cI, 24, .inl (fun _ => 0))), (q3, .inl (cI, 6, .inl (fun _ => 0))), (q4, .inl (cI, 60, .inl (fun _ => 0))), (q5, .inl (cI, 24, .inl (fun _ => 0))), (q6, .inl (cI, 576, .inl (fun _ => 0))), (q7, .inl (cI, 60, .inl (fun _ => 0)))]) C inX8 tyX8 tyX8_ok nmX8 0 rfl rfl 13 (by decide) tfl_X8_35 rfl rfl (by decide +kernel) rfl rfl (Nat.le_of_ble_eq_true rfl) rfl dX8_init_68 rfl ?_
  refine y_aload (q := 72) C dX8_init_71 rfl rfl ?_
  refine y_bipush (q := 74) (v := nI 60) C dX8_init_72 (by decide) rfl ?_
  refine y_newI (q := 76) (n := 60) C tac_int dX8_init_74 (by decide) (by decide) (by decide) (by decide) rfl (fun q8 => ?_)
  refine y_putF (q := 79) (Cn := RX8) (F := TX8) (N := 20) (ci := 8) (v := .ref q8) (ty := .array .int) (ws' := [(h0, .inr (8, [.int 0, .int (nI 1), .ref q1, .ref q2, .ref q3, .int 0, .ref q4, .int 0, .ref q5, .ref q6, .int 0, .int (nI 1), .int 0, .ref q7, .ref q8, .int 0, .null, .null, .int 0, .int 0])), (q1, .inl (cI, 6, .inl (fun _ => 0))), (q2, .inl (cI, 24, .inl (fun _ => 0))), (q3, .inl (cI, 6, .inl (fun _ => 0))), (q4, .inl (cI, 60, .inl (fun _ => 0))), (q5, .inl (cI, 24, .inl (fun _ => 0))), (q6, .inl (cI, 576, .inl (fun _ => 0))), (q7, .inl (cI, 60, .inl (fun _ => 0))), (q8, .inl (cI, 60, .inl (fun _ => 0)))]) C inX8 tyX8 tyX8_ok nmX8 0 rfl rfl 14 (by decide) tfl_X8_38 rfl rfl (by decide +kernel) rfl rfl (Nat.le_of_ble_eq_true rfl) rfl dX8_init_76 rfl ?_
  refine y_aload (q := 80) C dX8_init_79 rfl rfl ?_
  refine y_bipush (q := 82) (v := nI 16) C dX8_init_80 (by decide) rfl ?_
  refine y_newI (q := 84) (n := 16) C tac_int dX8_init_82 (by decide) (by decide) (by decide) (by decide) rfl (fun q9 => ?_)
  refine y_putF (q := 87) (Cn := RX8) (F := TX8) (N := 20) (ci := 8) (v := .ref q9) (ty := .array .int) (ws' := [(h0, .inr (8, [.int 0, .int (nI 1), .ref q1, .ref q2, .ref q3, .int 0, .ref q4, .int 0, .ref q5, .ref q6, .int 0, .int (nI 1), .int 0, .ref q7, .ref q8, .int 0, .ref q9, .null, .int 0, .int 0])), (q1, .inl (cI, 6, .inl (fun _ => 0))), (q2, .inl (cI, 24, .inl (fun _ => 0))), (q3, .inl (cI, 6, .inl (fun _ => 0))), (q4, .inl (cI, 60, .inl (fun _ => 0))), (q5, .inl (cI, 24, .inl (fun _ => 0))), (q6, .inl (cI, 576, .inl (fun _ => 0))), (q7, .inl (cI, 60, .inl (fun _ => 0))), (q8, .inl (cI, 60, .inl (fun _ => 0))), (q9, .inl (cI, 16, .inl (fun _ => 0)))]) C inX8 tyX8 tyX8_ok nmX8 0 rfl rfl 16 (by decide) tfl_X8_41 rfl rfl (by decide +kernel) rfl rfl (Nat.le_of_ble_eq_true rfl) rfl dX8_init_84 rfl ?_
  refine y_aload (q := 88) C dX8_init_87 rfl rfl ?_
  refine y_sipush (q := 91) (v := nI 2304) C dX8_init_88 (by decide) rfl ?_
  refine y_newI (q := 93) (n := 2304) C tac_int dX8_init_91 (by decide) (by decide) (by decide) (by decide) rfl (fun q10 => ?_)
  refine y_putF (q := 96) (Cn := RX8) (F := TX8) (N := 20) (ci := 8) (v := .ref q10) (ty := .array .int) (ws' := [(h0, .inr (8, [.int 0, .int (nI 1), .ref q1, .ref q2, .ref q3, .int 0, .ref q4, .int 0, .ref q5, .ref q6, .int 0, .int (nI 1), .int 0, .ref q7, .ref q8, .int 0, .ref q9, .ref q10, .int 0, .int 0])), (q1, .inl (cI, 6, .inl (fun _ => 0))), (q2, .inl (cI, 24, .inl (fun _ => 0))), (q3, .inl (cI, 6, .inl (fun _ => 0))), (q4, .inl (cI, 60, .inl (fun _ => 0))), (q5, .inl (cI, 24, .inl (fun _ => 0))), (q6, .inl (cI, 576, .inl (fun _ => 0))), (q7, .inl (cI, 60, .inl (fun _ => 0))), (q8, .inl (cI, 60, .inl (fun _ => 0))), (q9, .inl (cI, 16, .inl (fun _ => 0))), (q10, .inl (cI, 2304, .inl (fun _ => 0)))]) C inX8 tyX8 tyX8_ok nmX8 0 rfl rfl 17 (by decide) tfl_X8_44 rfl rfl (by decide +kernel) rfl rfl (Nat.le_of_ble_eq_true rfl) rfl dX8_init_93 rfl ?_
  exact y_ret C dX8_init_96 (q1, q2, q3, q4, q5, q6, q7, q8, q9, q10) trivial rfl
abbrev rmX2_init : Room := { frames := 1, cells := 4, slots := 42, locals := 23 }
set_option maxRecDepth 100000 in
set_option maxHeartbeats 4000000 in
theorem c_X2_init (h0 : Nat) : YM l D cI cZ yX2_init cX2_init rmX2_init 4 42 h0 (.inr (2, [.int 0, .int 0, .null, .null, .null, .null])) (Nat × Nat × Nat × Nat × (Nat → Int32) × (Nat → Int32)) (fun u => match u with
    | (q1, q2, q3, q4, g1, g2) => (∀ j, j < 6 → g1 j = nI 1) ∧ (∀ j, j < 6 → g2 j = nI 1)) (fun u => match u with
    | (q1, q2, q3, q4, g1, g2) => [(h0, .inr (2, [.int (nI 0), .int (nI 1), .ref q1, .ref q2, .ref q3, .ref q4])), (q3, .inl (cI, 24, .inl (fun _ => 0))), (q4, .inl (cI, 6, .inl (fun _ => 0))), (q1, .inl (cI, 6, .inl (g1))), (q2, .inl (cI, 6, .inl (g2)))]) := by
  refine y_start (own := RX2) (by decide) rfl rfl ?_
  intro p e s m args below meth c A C
  refine y_aload (q := 1) C dX2_init_0 rfl rfl ?_
  refine y_obj (q := 4) C tml_X2_3 tim_Obj tco_Obj dX2_init_1 (by decide) (by decide) rfl ?_
  refine y_aload (q := 5) C dX2_init_4 rfl rfl ?_
  refine y_iconst (q := 6) (v := nI 0) C dX2_init_5 (by decide) rfl ?_
  refine y_put (q := 9) (Cn := RX2) (F := TX2) (N := 6) (ci := 2) (v := .int (nI 0)) (ty := .int) (ws' := [(h0, .inr (2, [.int (nI 0), .int 0, .null, .null, .null, .null]))]) C inX2 tyX2 tyX2_ok nmX2 0 rfl rfl 0 (by decide) tfl_X2_9 rfl rfl (by decide +kernel) rfl rfl (Nat.le_of_ble_eq_true rfl) rfl dX2_init_6 rfl ?_
  refine y_aload (q := 10) C dX2_init_9 rfl rfl ?_
  refine y_iconst (q := 11) (v := nI 1) C dX2_init_10 (by decide) rfl ?_
  refine y_put (q := 14) (Cn := RX2) (F := TX2) (N := 6) (ci := 2) (v := .int (nI 1)) (ty := .int) (ws' := [(h0, .inr (2, [.int (nI 0), .int (nI 1), .null, .null, .null, .null]))]) C inX2 tyX2 tyX2_ok nmX2 0 rfl rfl 1 (by decide) tfl_X2_15 rfl rfl (by decide +kernel) rfl rfl (Nat.le_of_ble_eq_true rfl) rfl dX2_init_11 rfl ?_
  refine y_aload (q := 15) C dX2_init_14 rfl rfl ?_
  refine y_bipush (q := 17) (v := nI 6) C dX2_init_15 (by decide) rfl ?_
  refine y_newI (q := 19) (n := 6) C tac_int dX2_init_17 (by decide) (by decide) (by decide) (by decide) rfl (fun q1 => ?_)
  refine y_putF (q := 22) (Cn := RX2) (F := TX2) (N := 6) (ci := 2) (v := .ref q1) (ty := .array .int) (ws' := [(h0, .inr (2, [.int (nI 0), .int (nI 1), .ref q1, .null, .null, .null])), (q1, .inl (cI, 6, .inl (fun _ => 0)))]) C inX2 tyX2 tyX2_ok nmX2 0 rfl rfl 2 (by decide) tfl_X2_18 rfl rfl (by decide +kernel) rfl rfl (Nat.le_of_ble_eq_true rfl) rfl dX2_init_19 rfl ?_
  refine y_aload (q := 23) C dX2_init_22 rfl rfl ?_
  refine y_bipush (q := 25) (v := nI 6) C dX2_init_23 (by decide) rfl ?_
  refine y_newI (q := 27) (n := 6) C tac_int dX2_init_25 (by decide) (by decide) (by decide) (by decide) rfl (fun q2 => ?_)
  refine y_putF (q := 30) (Cn := RX2) (F := TX2) (N := 6) (ci := 2) (v := .ref q2) (ty := .array .int) (ws' := [(h0, .inr (2, [.int (nI 0), .int (nI 1), .ref q1, .ref q2, .null, .null])), (q1, .inl (cI, 6, .inl (fun _ => 0))), (q2, .inl (cI, 6, .inl (fun _ => 0)))]) C inX2 tyX2 tyX2_ok nmX2 0 rfl rfl 3 (by decide) tfl_X2_22 rfl rfl (by decide +kernel) rfl rfl (Nat.le_of_ble_eq_true rfl) rfl dX2_init_27 rfl ?_
  refine y_aload (q := 31) C dX2_init_30 rfl rfl ?_
  refine y_bipush (q := 33) (v := nI 24) C dX2_init_31 (by decide) rfl ?_
  refine y_newI (q := 35) (n := 24) C tac_int dX2_init_33 (by decide) (by decide) (by decide) (by decide) rfl (fun q3 => ?_)
  refine y_putF (q := 38) (Cn := RX2) (F := TX2) (N := 6) (ci := 2) (v := .ref q3) (ty := .array .int) (ws' := [(h0, .inr (2, [.int (nI 0), .int (nI 1), .ref q1, .ref q2, .ref q3, .null])), (q1, .inl (cI, 6, .inl (fun _ => 0))), (q2, .inl (cI, 6, .inl (fun _ => 0))), (q3, .inl (cI, 24, .inl (fun _ => 0)))]) C inX2 tyX2 tyX2_ok nmX2 0 rfl rfl 4 (by decide) tfl_X2_25 rfl rfl (by decide +kernel) rfl rfl (Nat.le_of_ble_eq_true rfl) rfl dX2_init_35 rfl ?_
  refine y_aload (q := 39) C dX2_init_38 rfl rfl ?_
  refine y_bipush (q := 41) (v := nI 6) C dX2_init_39 (by decide) rfl ?_
  refine y_newI (q := 43) (n := 6) C tac_int dX2_init_41 (by decide) (by decide) (by decide) (by decide) rfl (fun q4 => ?_)
  refine y_putF (q := 46) (Cn := RX2) (F := TX2) (N := 6) (ci := 2) (v := .ref q4) (ty := .array .int) (ws' := [(h0, .inr (2, [.int (nI 0), .int (nI 1), .ref q1, .ref q2, .ref q3, .ref q4])), (q1, .inl (cI, 6, .inl (fun _ => 0))), (q2, .inl (cI, 6, .inl (fun _ => 0))), (q3, .inl (cI, 24, .inl (fun _ => 0))), (q4, .inl (cI, 6, .inl (fun _ => 0)))]) C inX2 tyX2 tyX2_ok nmX2 0 rfl rfl 5 (by decide) tfl_X2_28 rfl rfl (by decide +kernel) rfl rfl (Nat.le_of_ble_eq_true rfl) rfl dX2_init_43 rfl ?_
  refine y_aload (q := 47) C dX2_init_46 rfl rfl ?_
  refine y_get (q := 50) (Cn := RX2) (F := TX2) (N := 6) (ci := 2) (v := .ref q1) C inX2 0 rfl rfl 2 (by decide) tfl_X2_18 rfl rfl dX2_init_47 rfl ?_
  refine y_iconst (q := 51) (v := nI 1) C dX2_init_50 (by decide) rfl ?_
  refine y_fill (q := 54) (wr := [(h0, .inr (2, [.int (nI 0), .int (nI 1), .ref q1, .ref q2, .ref q3, .ref q4])), (q2, .inl (cI, 6, .inl (fun _ => 0))), (q3, .inl (cI, 24, .inl (fun _ => 0))), (q4, .inl (cI, 6, .inl (fun _ => 0)))]) (rest := []) C [0, 2, 3, 4] 1 rfl rfl rfl (by decide) tml_X2_31 (by decide) (by decide) (by decide) (Nat.le_of_ble_eq_true rfl) dX2_init_51 rfl (fun g1 hg1 => ?_)
  refine y_aload (q := 55) C dX2_init_54 rfl rfl ?_
  refine y_get (q := 58) (Cn := RX2) (F := TX2) (N := 6) (ci := 2) (v := .ref q2) C inX2 0 rfl rfl 3 (by decide) tfl_X2_22 rfl rfl dX2_init_55 rfl ?_
  refine y_iconst (q := 59) (v := nI 1) C dX2_init_58 (by decide) rfl ?_
  refine y_fill (q := 62) (wr := [(h0, .inr (2, [.int (nI 0), .int (nI 1), .ref q1, .ref q2, .ref q3, .ref q4])), (q3, .inl (cI, 24, .inl (fun _ => 0))), (q4, .inl (cI, 6, .inl (fun _ => 0))), (q1, .inl (cI, 6, .inl (g1)))]) (rest := []) C [0, 2, 3, 4] 1 rfl rfl rfl (by decide) tml_X2_31 (by decide) (by decide) (by decide) (Nat.le_of_ble_eq_true rfl) dX2_init_59 rfl (fun g2 hg2 => ?_)
  exact y_ret C dX2_init_62 (q1, q2, q3, q4, g1, g2) ⟨hg1, hg2⟩ rfl
/-- the state behind the class's constructor -/
def P0X (g1 g2 : Nat → Int32) : St := fun j => match j with
  | 0 => g1
  | 1 => g2
  | 21 => fun _ => nI 1
  | 26 => fun _ => nI 1
  | 20 | 22 | 23 | 24 | 25 => fun _ => nI 0
  | _ => fun _ => 0
def T0X : St := fun j => match j with
  | 28 | 29 | 30 | 27 => fun _ => nI 0
  | _ => fun _ => 0
abbrev rmX7_init : Room := { frames := 2, cells := 27, slots := 3620, locals := 43 }
set_option maxRecDepth 100000 in
set_option maxHeartbeats 4000000 in
theorem c_X7_init (h0 : Nat) : YM l D cI cZ yX7_init cX7_init rmX7_init 27 3620 h0 (.inr (7, [.null, .null, .null, .null, .null, .null, .null])) ((Nat → Nat) × (Nat → Int32) × (Nat → Int32)) (fun u => u.1 0 = h0 ∧ (∀ j, j < 6 → u.2.1 j = nI 1) ∧ (∀ j, j < 6 → u.2.2 j = nI 1)) (fun u => wX u.1 cI cZ (P0X u.2.1 u.2.2) T0X) := by
  refine y_start (own := RX7) (by decide) rfl rfl ?_
  intro p e s m args below meth c A C
  refine y_aload (q := 1) C dX7_init_0 rfl rfl ?_
  refine y_obj (q := 4) C tml_X7_1 tim_Obj tco_Obj dX7_init_1 (by decide) (by decide) rfl ?_
  refine y_aload (q := 5) C dX7_init_4 rfl rfl ?_
  refine y_new (q := 8) (Cn := RX2) (F := TX2) (N := 6) (ci := 2) (fs := [.int 0, .int 0, .null, .null, .null, .null]) C inX2 tyX2 tyX2_ok tcl_X7_7 tins_X2 tini_X2 rfl (fun j hj => by rcases (show j = 0 ∨ j = 1 ∨ j = 2 ∨ j = 3 ∨ j = 4 ∨ j = 5 by omega) with rfl | rfl | rfl | rfl | rfl | rfl <;> rfl) (by decide) (by decide) dX7_init_5 rfl (fun q1 => ?_)
  refine y_dup (q := 9) C dX7_init_8 rfl rfl ?_
  refine y_call (q := 12) (wr := [(h0, .inr (7, [.null, .null, .null, .null, .null, .null, .null]))]) (rest := [.ref q1, .ref h0]) C (c_X2_init q1) [0] 1 rfl rfl rfl (by decide) tco_X2_init tini_X2 tml_X7_9 tim_X2_init rfl (by decide +kernel) rfl rfl (by decide) (by decide) (by decide) (Nat.le_of_ble_eq_true rfl) dX7_init_9 rfl (fun u2 hu2 => ?_)
  obtain ⟨q1_2, q2_2, q3_2, q4_2, g1_2, g2_2⟩ := u2
  refine y_putF (q := 15) (Cn := RX7) (F := TX7) (N := 7) (ci := 7) (v := .ref q1) (ty := .object "KnobBench$Knobs") (ws' := [(h0, .inr (7, [.ref q1, .null, .null, .null, .null, .null, .null])), (q1, .inr (2, [.int (nI 0), .int (nI 1), .ref q1_2, .ref q2_2, .ref q3_2, .ref q4_2])), (q3_2, .inl (cI, 24, .inl (fun _ => 0))), (q4_2, .inl (cI, 6, .inl (fun _ => 0))), (q1_2, .inl (cI, 6, .inl (g1_2))), (q2_2, .inl (cI, 6, .inl (g2_2)))]) C inX7 tyX7 tyX7_ok nmX7 0 rfl rfl 0 (by decide) tfl_X7_10 rfl rfl (by decide +kernel) rfl rfl (Nat.le_of_ble_eq_true rfl) rfl dX7_init_12 rfl ?_
  refine y_aload (q := 16) C dX7_init_15 rfl rfl ?_
  refine y_new (q := 19) (Cn := RX5) (F := TX5) (N := 6) (ci := 5) (fs := [.int 0, .null, .null, .null, .null, .null]) C inX5 tyX5 tyX5_ok tcl_X7_16 tins_X5 tini_X5 rfl (fun j hj => by rcases (show j = 0 ∨ j = 1 ∨ j = 2 ∨ j = 3 ∨ j = 4 ∨ j = 5 by omega) with rfl | rfl | rfl | rfl | rfl | rfl <;> rfl) (by decide) (by decide) dX7_init_16 rfl (fun q2 => ?_)
  refine y_dup (q := 20) C dX7_init_19 rfl rfl ?_
  refine y_call (q := 23) (wr := [(h0, .inr (7, [.ref q1, .null, .null, .null, .null, .null, .null])), (q1, .inr (2, [.int (nI 0), .int (nI 1), .ref q1_2, .ref q2_2, .ref q3_2, .ref q4_2])), (q3_2, .inl (cI, 24, .inl (fun _ => 0))), (q4_2, .inl (cI, 6, .inl (fun _ => 0))), (q1_2, .inl (cI, 6, .inl (g1_2))), (q2_2, .inl (cI, 6, .inl (g2_2)))]) (rest := [.ref q2, .ref h0]) C (c_X5_init q2) [0, 1, 2, 3, 4, 5] 6 rfl rfl rfl (by decide) tco_X5_init tini_X5 tml_X7_18 tim_X5_init rfl (by decide +kernel) rfl rfl (by decide) (by decide) (by decide) (Nat.le_of_ble_eq_true rfl) dX7_init_20 rfl (fun u5 hu5 => ?_)
  obtain ⟨q1_5, q2_5, q3_5, q4_5, q5_5⟩ := u5
  refine y_putF (q := 26) (Cn := RX7) (F := TX7) (N := 7) (ci := 7) (v := .ref q2) (ty := .object "KnobBench$Rules") (ws' := [(h0, .inr (7, [.ref q1, .ref q2, .null, .null, .null, .null, .null])), (q1, .inr (2, [.int (nI 0), .int (nI 1), .ref q1_2, .ref q2_2, .ref q3_2, .ref q4_2])), (q3_2, .inl (cI, 24, .inl (fun _ => 0))), (q4_2, .inl (cI, 6, .inl (fun _ => 0))), (q1_2, .inl (cI, 6, .inl (g1_2))), (q2_2, .inl (cI, 6, .inl (g2_2))), (q2, .inr (5, [.int (nI 0), .ref q1_5, .ref q2_5, .ref q3_5, .ref q4_5, .ref q5_5])), (q1_5, .inl (cZ, 12, .inl (fun _ => 0))), (q2_5, .inl (cI, 12, .inl (fun _ => 0))), (q3_5, .inl (cI, 12, .inl (fun _ => 0))), (q4_5, .inl (cI, 12, .inl (fun _ => 0))), (q5_5, .inl (cI, 12, .inl (fun _ => 0)))]) C inX7 tyX7 tyX7_ok nmX7 0 rfl rfl 1 (by decide) tfl_X7_19 rfl rfl (by decide +kernel) rfl rfl (Nat.le_of_ble_eq_true rfl) rfl dX7_init_23 rfl ?_
  refine y_aload (q := 27) C dX7_init_26 rfl rfl ?_
  refine y_new (q := 30) (Cn := RX1) (F := TX1) (N := 4) (ci := 1) (fs := [.int 0, .null, .null, .null]) C inX1 tyX1 tyX1_ok tcl_X7_23 tins_X1 tini_X1 rfl (fun j hj => by rcases (show j = 0 ∨ j = 1 ∨ j = 2 ∨ j = 3 by omega) with rfl | rfl | rfl | rfl <;> rfl) (by decide) (by decide) dX7_init_27 rfl (fun q3 => ?_)
  refine y_dup (q := 31) C dX7_init_30 rfl rfl ?_
  refine y_call (q := 34) (wr := [(h0, .inr (7, [.ref q1, .ref q2, .null, .null, .null, .null, .null])), (q1, .inr (2, [.int (nI 0), .int (nI 1), .ref q1_2, .ref q2_2, .ref q3_2, .ref q4_2])), (q3_2, .inl (cI, 24, .inl (fun _ => 0))), (q4_2, .inl (cI, 6, .inl (fun _ => 0))), (q1_2, .inl (cI, 6, .inl (g1_2))), (q2_2, .inl (cI, 6, .inl (g2_2))), (q2, .inr (5, [.int (nI 0), .ref q1_5, .ref q2_5, .ref q3_5, .ref q4_5, .ref q5_5])), (q1_5, .inl (cZ, 12, .inl (fun _ => 0))), (q2_5, .inl (cI, 12, .inl (fun _ => 0))), (q3_5, .inl (cI, 12, .inl (fun _ => 0))), (q4_5, .inl (cI, 12, .inl (fun _ => 0))), (q5_5, .inl (cI, 12, .inl (fun _ => 0)))]) (rest := [.ref q3, .ref h0]) C (c_X1_init q3) [0, 1, 2, 3, 4, 5, 6, 7, 8, 9, 10, 11] 12 rfl rfl rfl (by decide) tco_X1_init tini_X1 tml_X7_25 tim_X1_init rfl (by decide +kernel) rfl rfl (by decide) (by decide) (by decide) (Nat.le_of_ble_eq_true rfl) dX7_init_31 rfl (fun u1 hu1 => ?_)
  obtain ⟨q1_1, q2_1, q3_1⟩ := u1
  refine y_putF (q := 37) (Cn := RX7) (F := TX7) (N := 7) (ci := 7) (v := .ref q3) (ty := .object "KnobBench$Effects") (ws' := [(h0, .inr (7, [.ref q1, .ref q2, .ref q3, .null, .null, .null, .null])), (q1, .inr (2, [.int (nI 0), .int (nI 1), .ref q1_2, .ref q2_2, .ref q3_2, .ref q4_2])), (q3_2, .inl (cI, 24, .inl (fun _ => 0))), (q4_2, .inl (cI, 6, .inl (fun _ => 0))), (q1_2, .inl (cI, 6, .inl (g1_2))), (q2_2, .inl (cI, 6, .inl (g2_2))), (q2, .inr (5, [.int (nI 0), .ref q1_5, .ref q2_5, .ref q3_5, .ref q4_5, .ref q5_5])), (q1_5, .inl (cZ, 12, .inl (fun _ => 0))), (q2_5, .inl (cI, 12, .inl (fun _ => 0))), (q3_5, .inl (cI, 12, .inl (fun _ => 0))), (q4_5, .inl (cI, 12, .inl (fun _ => 0))), (q5_5, .inl (cI, 12, .inl (fun _ => 0))), (q3, .inr (1, [.int (nI 0), .ref q1_1, .ref q2_1, .ref q3_1])), (q1_1, .inl (cI, 24, .inl (fun _ => 0))), (q2_1, .inl (cI, 576, .inl (fun _ => 0))), (q3_1, .inl (cI, 6, .inl (fun _ => 0)))]) C inX7 tyX7 tyX7_ok nmX7 0 rfl rfl 2 (by decide) tfl_X7_26 rfl rfl (by decide +kernel) rfl rfl (Nat.le_of_ble_eq_true rfl) rfl dX7_init_34 rfl ?_
  refine y_aload (q := 38) C dX7_init_37 rfl rfl ?_
  refine y_new (q := 41) (Cn := RX6) (F := TX6) (N := 5) (ci := 6) (fs := [.int 0, .int 0, .int 0, .null, .null]) C inX6 tyX6 tyX6_ok tcl_X7_30 tins_X6 tini_X6 rfl (fun j hj => by rcases (show j = 0 ∨ j = 1 ∨ j = 2 ∨ j = 3 ∨ j = 4 by omega) with rfl | rfl | rfl | rfl | rfl <;> rfl) (by decide) (by decide) dX7_init_38 rfl (fun q4 => ?_)
  refine y_dup (q := 42) C dX7_init_41 rfl rfl ?_
  refine y_call (q := 45) (wr := [(h0, .inr (7, [.ref q1, .ref q2, .ref q3, .null, .null, .null, .null])), (q1, .inr (2, [.int (nI 0), .int (nI 1), .ref q1_2, .ref q2_2, .ref q3_2, .ref q4_2])), (q3_2, .inl (cI, 24, .inl (fun _ => 0))), (q4_2, .inl (cI, 6, .inl (fun _ => 0))), (q1_2, .inl (cI, 6, .inl (g1_2))), (q2_2, .inl (cI, 6, .inl (g2_2))), (q2, .inr (5, [.int (nI 0), .ref q1_5, .ref q2_5, .ref q3_5, .ref q4_5, .ref q5_5])), (q1_5, .inl (cZ, 12, .inl (fun _ => 0))), (q2_5, .inl (cI, 12, .inl (fun _ => 0))), (q3_5, .inl (cI, 12, .inl (fun _ => 0))), (q4_5, .inl (cI, 12, .inl (fun _ => 0))), (q5_5, .inl (cI, 12, .inl (fun _ => 0))), (q3, .inr (1, [.int (nI 0), .ref q1_1, .ref q2_1, .ref q3_1])), (q1_1, .inl (cI, 24, .inl (fun _ => 0))), (q2_1, .inl (cI, 576, .inl (fun _ => 0))), (q3_1, .inl (cI, 6, .inl (fun _ => 0)))]) (rest := [.ref q4, .ref h0]) C (c_X6_init q4) [0, 1, 2, 3, 4, 5, 6, 7, 8, 9, 10, 11, 12, 13, 14, 15] 16 rfl rfl rfl (by decide) tco_X6_init tini_X6 tml_X7_32 tim_X6_init rfl (by decide +kernel) rfl rfl (by decide) (by decide) (by decide) (Nat.le_of_ble_eq_true rfl) dX7_init_42 rfl (fun u6 hu6 => ?_)
  obtain ⟨q1_6, q2_6⟩ := u6
  refine y_putF (q := 48) (Cn := RX7) (F := TX7) (N := 7) (ci := 7) (v := .ref q4) (ty := .object "KnobBench$Trials") (ws' := [(h0, .inr (7, [.ref q1, .ref q2, .ref q3, .ref q4, .null, .null, .null])), (q1, .inr (2, [.int (nI 0), .int (nI 1), .ref q1_2, .ref q2_2, .ref q3_2, .ref q4_2])), (q3_2, .inl (cI, 24, .inl (fun _ => 0))), (q4_2, .inl (cI, 6, .inl (fun _ => 0))), (q1_2, .inl (cI, 6, .inl (g1_2))), (q2_2, .inl (cI, 6, .inl (g2_2))), (q2, .inr (5, [.int (nI 0), .ref q1_5, .ref q2_5, .ref q3_5, .ref q4_5, .ref q5_5])), (q1_5, .inl (cZ, 12, .inl (fun _ => 0))), (q2_5, .inl (cI, 12, .inl (fun _ => 0))), (q3_5, .inl (cI, 12, .inl (fun _ => 0))), (q4_5, .inl (cI, 12, .inl (fun _ => 0))), (q5_5, .inl (cI, 12, .inl (fun _ => 0))), (q3, .inr (1, [.int (nI 0), .ref q1_1, .ref q2_1, .ref q3_1])), (q1_1, .inl (cI, 24, .inl (fun _ => 0))), (q2_1, .inl (cI, 576, .inl (fun _ => 0))), (q3_1, .inl (cI, 6, .inl (fun _ => 0))), (q4, .inr (6, [.int (nI 0), .int (nI 0), .int (nI 1), .ref q1_6, .ref q2_6])), (q1_6, .inl (cI, 60, .inl (fun _ => 0))), (q2_6, .inl (cI, 60, .inl (fun _ => 0)))]) C inX7 tyX7 tyX7_ok nmX7 0 rfl rfl 3 (by decide) tfl_X7_33 rfl rfl (by decide +kernel) rfl rfl (Nat.le_of_ble_eq_true rfl) rfl dX7_init_45 rfl ?_
  refine y_aload (q := 49) C dX7_init_48 rfl rfl ?_
  refine y_new (q := 52) (Cn := RX3) (F := TX3) (N := 3) (ci := 3) (fs := [.int 0, .null, .null]) C inX3 tyX3 tyX3_ok tcl_X7_37 tins_X3 tini_X3 rfl (fun j hj => by rcases (show j = 0 ∨ j = 1 ∨ j = 2 by omega) with rfl | rfl | rfl <;> rfl) (by decide) (by decide) dX7_init_49 rfl (fun q5 => ?_)
  refine y_dup (q := 53) C dX7_init_52 rfl rfl ?_
  refine y_call (q := 56) (wr := [(h0, .inr (7, [.ref q1, .ref q2, .ref q3, .ref q4, .null, .null, .null])), (q1, .inr (2, [.int (nI 0), .int (nI 1), .ref q1_2, .ref q2_2, .ref q3_2, .ref q4_2])), (q3_2, .inl (cI, 24, .inl (fun _ => 0))), (q4_2, .inl (cI, 6, .inl (fun _ => 0))), (q1_2, .inl (cI, 6, .inl (g1_2))), (q2_2, .inl (cI, 6, .inl (g2_2))), (q2, .inr (5, [.int (nI 0), .ref q1_5, .ref q2_5, .ref q3_5, .ref q4_5, .ref q5_5])), (q1_5, .inl (cZ, 12, .inl (fun _ => 0))), (q2_5, .inl (cI, 12, .inl (fun _ => 0))), (q3_5, .inl (cI, 12, .inl (fun _ => 0))), (q4_5, .inl (cI, 12, .inl (fun _ => 0))), (q5_5, .inl (cI, 12, .inl (fun _ => 0))), (q3, .inr (1, [.int (nI 0), .ref q1_1, .ref q2_1, .ref q3_1])), (q1_1, .inl (cI, 24, .inl (fun _ => 0))), (q2_1, .inl (cI, 576, .inl (fun _ => 0))), (q3_1, .inl (cI, 6, .inl (fun _ => 0))), (q4, .inr (6, [.int (nI 0), .int (nI 0), .int (nI 1), .ref q1_6, .ref q2_6])), (q1_6, .inl (cI, 60, .inl (fun _ => 0))), (q2_6, .inl (cI, 60, .inl (fun _ => 0)))]) (rest := [.ref q5, .ref h0]) C (c_X3_init q5) [0, 1, 2, 3, 4, 5, 6, 7, 8, 9, 10, 11, 12, 13, 14, 15, 16, 17, 18] 19 rfl rfl rfl (by decide) tco_X3_init tini_X3 tml_X7_39 tim_X3_init rfl (by decide +kernel) rfl rfl (by decide) (by decide) (by decide) (Nat.le_of_ble_eq_true rfl) dX7_init_53 rfl (fun u3 hu3 => ?_)
  obtain ⟨q1_3, q2_3⟩ := u3
  refine y_putF (q := 59) (Cn := RX7) (F := TX7) (N := 7) (ci := 7) (v := .ref q5) (ty := .object "KnobBench$Open") (ws' := [(h0, .inr (7, [.ref q1, .ref q2, .ref q3, .ref q4, .ref q5, .null, .null])), (q1, .inr (2, [.int (nI 0), .int (nI 1), .ref q1_2, .ref q2_2, .ref q3_2, .ref q4_2])), (q3_2, .inl (cI, 24, .inl (fun _ => 0))), (q4_2, .inl (cI, 6, .inl (fun _ => 0))), (q1_2, .inl (cI, 6, .inl (g1_2))), (q2_2, .inl (cI, 6, .inl (g2_2))), (q2, .inr (5, [.int (nI 0), .ref q1_5, .ref q2_5, .ref q3_5, .ref q4_5, .ref q5_5])), (q1_5, .inl (cZ, 12, .inl (fun _ => 0))), (q2_5, .inl (cI, 12, .inl (fun _ => 0))), (q3_5, .inl (cI, 12, .inl (fun _ => 0))), (q4_5, .inl (cI, 12, .inl (fun _ => 0))), (q5_5, .inl (cI, 12, .inl (fun _ => 0))), (q3, .inr (1, [.int (nI 0), .ref q1_1, .ref q2_1, .ref q3_1])), (q1_1, .inl (cI, 24, .inl (fun _ => 0))), (q2_1, .inl (cI, 576, .inl (fun _ => 0))), (q3_1, .inl (cI, 6, .inl (fun _ => 0))), (q4, .inr (6, [.int (nI 0), .int (nI 0), .int (nI 1), .ref q1_6, .ref q2_6])), (q1_6, .inl (cI, 60, .inl (fun _ => 0))), (q2_6, .inl (cI, 60, .inl (fun _ => 0))), (q5, .inr (3, [.int (nI 0), .ref q1_3, .ref q2_3])), (q1_3, .inl (cI, 144, .inl (fun _ => 0))), (q2_3, .inl (cI, 144, .inl (fun _ => 0)))]) C inX7 tyX7 tyX7_ok nmX7 0 rfl rfl 4 (by decide) tfl_X7_40 rfl rfl (by decide +kernel) rfl rfl (Nat.le_of_ble_eq_true rfl) rfl dX7_init_56 rfl ?_
  refine y_aload (q := 60) C dX7_init_59 rfl rfl ?_
  refine y_new (q := 63) (Cn := RX0) (F := TX0) (N := 2) (ci := 0) (fs := [.null, .null]) C inX0 tyX0 tyX0_ok tcl_X7_44 tins_X0 tini_X0 rfl (fun j hj => by rcases (show j = 0 ∨ j = 1 by omega) with rfl | rfl <;> rfl) (by decide) (by decide) dX7_init_60 rfl (fun q6 => ?_)
  refine y_dup (q := 64) C dX7_init_63 rfl rfl ?_
  refine y_call (q := 67) (wr := [(h0, .inr (7, [.ref q1, .ref q2, .ref q3, .ref q4, .ref q5, .null, .null])), (q1, .inr (2, [.int (nI 0), .int (nI 1), .ref q1_2, .ref q2_2, .ref q3_2, .ref q4_2])), (q3_2, .inl (cI, 24, .inl (fun _ => 0))), (q4_2, .inl (cI, 6, .inl (fun _ => 0))), (q1_2, .inl (cI, 6, .inl (g1_2))), (q2_2, .inl (cI, 6, .inl (g2_2))), (q2, .inr (5, [.int (nI 0), .ref q1_5, .ref q2_5, .ref q3_5, .ref q4_5, .ref q5_5])), (q1_5, .inl (cZ, 12, .inl (fun _ => 0))), (q2_5, .inl (cI, 12, .inl (fun _ => 0))), (q3_5, .inl (cI, 12, .inl (fun _ => 0))), (q4_5, .inl (cI, 12, .inl (fun _ => 0))), (q5_5, .inl (cI, 12, .inl (fun _ => 0))), (q3, .inr (1, [.int (nI 0), .ref q1_1, .ref q2_1, .ref q3_1])), (q1_1, .inl (cI, 24, .inl (fun _ => 0))), (q2_1, .inl (cI, 576, .inl (fun _ => 0))), (q3_1, .inl (cI, 6, .inl (fun _ => 0))), (q4, .inr (6, [.int (nI 0), .int (nI 0), .int (nI 1), .ref q1_6, .ref q2_6])), (q1_6, .inl (cI, 60, .inl (fun _ => 0))), (q2_6, .inl (cI, 60, .inl (fun _ => 0))), (q5, .inr (3, [.int (nI 0), .ref q1_3, .ref q2_3])), (q1_3, .inl (cI, 144, .inl (fun _ => 0))), (q2_3, .inl (cI, 144, .inl (fun _ => 0)))]) (rest := [.ref q6, .ref h0]) C (c_X0_init q6) [0, 1, 2, 3, 4, 5, 6, 7, 8, 9, 10, 11, 12, 13, 14, 15, 16, 17, 18, 19, 20, 21] 22 rfl rfl rfl (by decide) tco_X0_init tini_X0 tml_X7_46 tim_X0_init rfl (by decide +kernel) rfl rfl (by decide) (by decide) (by decide) (Nat.le_of_ble_eq_true rfl) dX7_init_64 rfl (fun u0 hu0 => ?_)
  obtain ⟨q1_0, q2_0⟩ := u0
  refine y_putF (q := 70) (Cn := RX7) (F := TX7) (N := 7) (ci := 7) (v := .ref q6) (ty := .object "KnobBench$Bounds") (ws' := [(h0, .inr (7, [.ref q1, .ref q2, .ref q3, .ref q4, .ref q5, .ref q6, .null])), (q1, .inr (2, [.int (nI 0), .int (nI 1), .ref q1_2, .ref q2_2, .ref q3_2, .ref q4_2])), (q3_2, .inl (cI, 24, .inl (fun _ => 0))), (q4_2, .inl (cI, 6, .inl (fun _ => 0))), (q1_2, .inl (cI, 6, .inl (g1_2))), (q2_2, .inl (cI, 6, .inl (g2_2))), (q2, .inr (5, [.int (nI 0), .ref q1_5, .ref q2_5, .ref q3_5, .ref q4_5, .ref q5_5])), (q1_5, .inl (cZ, 12, .inl (fun _ => 0))), (q2_5, .inl (cI, 12, .inl (fun _ => 0))), (q3_5, .inl (cI, 12, .inl (fun _ => 0))), (q4_5, .inl (cI, 12, .inl (fun _ => 0))), (q5_5, .inl (cI, 12, .inl (fun _ => 0))), (q3, .inr (1, [.int (nI 0), .ref q1_1, .ref q2_1, .ref q3_1])), (q1_1, .inl (cI, 24, .inl (fun _ => 0))), (q2_1, .inl (cI, 576, .inl (fun _ => 0))), (q3_1, .inl (cI, 6, .inl (fun _ => 0))), (q4, .inr (6, [.int (nI 0), .int (nI 0), .int (nI 1), .ref q1_6, .ref q2_6])), (q1_6, .inl (cI, 60, .inl (fun _ => 0))), (q2_6, .inl (cI, 60, .inl (fun _ => 0))), (q5, .inr (3, [.int (nI 0), .ref q1_3, .ref q2_3])), (q1_3, .inl (cI, 144, .inl (fun _ => 0))), (q2_3, .inl (cI, 144, .inl (fun _ => 0))), (q6, .inr (0, [.ref q1_0, .ref q2_0])), (q1_0, .inl (cI, 144, .inl (fun _ => 0))), (q2_0, .inl (cI, 144, .inl (fun _ => 0)))]) C inX7 tyX7 tyX7_ok nmX7 0 rfl rfl 5 (by decide) tfl_X7_47 rfl rfl (by decide +kernel) rfl rfl (Nat.le_of_ble_eq_true rfl) rfl dX7_init_67 rfl ?_
  refine y_aload (q := 71) C dX7_init_70 rfl rfl ?_
  refine y_new (q := 74) (Cn := RX4) (F := TX4) (N := 5) (ci := 4) (fs := [.int 0, .int 0, .int 0, .null, .null]) C inX4 tyX4 tyX4_ok tcl_X7_51 tins_X4 tini_X4 rfl (fun j hj => by rcases (show j = 0 ∨ j = 1 ∨ j = 2 ∨ j = 3 ∨ j = 4 by omega) with rfl | rfl | rfl | rfl | rfl <;> rfl) (by decide) (by decide) dX7_init_71 rfl (fun q7 => ?_)
  refine y_dup (q := 75) C dX7_init_74 rfl rfl ?_
  refine y_call (q := 78) (wr := [(h0, .inr (7, [.ref q1, .ref q2, .ref q3, .ref q4, .ref q5, .ref q6, .null])), (q1, .inr (2, [.int (nI 0), .int (nI 1), .ref q1_2, .ref q2_2, .ref q3_2, .ref q4_2])), (q3_2, .inl (cI, 24, .inl (fun _ => 0))), (q4_2, .inl (cI, 6, .inl (fun _ => 0))), (q1_2, .inl (cI, 6, .inl (g1_2))), (q2_2, .inl (cI, 6, .inl (g2_2))), (q2, .inr (5, [.int (nI 0), .ref q1_5, .ref q2_5, .ref q3_5, .ref q4_5, .ref q5_5])), (q1_5, .inl (cZ, 12, .inl (fun _ => 0))), (q2_5, .inl (cI, 12, .inl (fun _ => 0))), (q3_5, .inl (cI, 12, .inl (fun _ => 0))), (q4_5, .inl (cI, 12, .inl (fun _ => 0))), (q5_5, .inl (cI, 12, .inl (fun _ => 0))), (q3, .inr (1, [.int (nI 0), .ref q1_1, .ref q2_1, .ref q3_1])), (q1_1, .inl (cI, 24, .inl (fun _ => 0))), (q2_1, .inl (cI, 576, .inl (fun _ => 0))), (q3_1, .inl (cI, 6, .inl (fun _ => 0))), (q4, .inr (6, [.int (nI 0), .int (nI 0), .int (nI 1), .ref q1_6, .ref q2_6])), (q1_6, .inl (cI, 60, .inl (fun _ => 0))), (q2_6, .inl (cI, 60, .inl (fun _ => 0))), (q5, .inr (3, [.int (nI 0), .ref q1_3, .ref q2_3])), (q1_3, .inl (cI, 144, .inl (fun _ => 0))), (q2_3, .inl (cI, 144, .inl (fun _ => 0))), (q6, .inr (0, [.ref q1_0, .ref q2_0])), (q1_0, .inl (cI, 144, .inl (fun _ => 0))), (q2_0, .inl (cI, 144, .inl (fun _ => 0)))]) (rest := [.ref q7, .ref h0]) C (c_X4_init q7) [0, 1, 2, 3, 4, 5, 6, 7, 8, 9, 10, 11, 12, 13, 14, 15, 16, 17, 18, 19, 20, 21, 22, 23, 24] 25 rfl rfl rfl (by decide) tco_X4_init tini_X4 tml_X7_53 tim_X4_init rfl (by decide +kernel) rfl rfl (by decide) (by decide) (by decide) (Nat.le_of_ble_eq_true rfl) dX7_init_75 rfl (fun u4 hu4 => ?_)
  obtain ⟨q1_4, q2_4⟩ := u4
  refine y_putF (q := 81) (Cn := RX7) (F := TX7) (N := 7) (ci := 7) (v := .ref q7) (ty := .object "KnobBench$Ranks") (ws' := [(h0, .inr (7, [.ref q1, .ref q2, .ref q3, .ref q4, .ref q5, .ref q6, .ref q7])), (q1, .inr (2, [.int (nI 0), .int (nI 1), .ref q1_2, .ref q2_2, .ref q3_2, .ref q4_2])), (q3_2, .inl (cI, 24, .inl (fun _ => 0))), (q4_2, .inl (cI, 6, .inl (fun _ => 0))), (q1_2, .inl (cI, 6, .inl (g1_2))), (q2_2, .inl (cI, 6, .inl (g2_2))), (q2, .inr (5, [.int (nI 0), .ref q1_5, .ref q2_5, .ref q3_5, .ref q4_5, .ref q5_5])), (q1_5, .inl (cZ, 12, .inl (fun _ => 0))), (q2_5, .inl (cI, 12, .inl (fun _ => 0))), (q3_5, .inl (cI, 12, .inl (fun _ => 0))), (q4_5, .inl (cI, 12, .inl (fun _ => 0))), (q5_5, .inl (cI, 12, .inl (fun _ => 0))), (q3, .inr (1, [.int (nI 0), .ref q1_1, .ref q2_1, .ref q3_1])), (q1_1, .inl (cI, 24, .inl (fun _ => 0))), (q2_1, .inl (cI, 576, .inl (fun _ => 0))), (q3_1, .inl (cI, 6, .inl (fun _ => 0))), (q4, .inr (6, [.int (nI 0), .int (nI 0), .int (nI 1), .ref q1_6, .ref q2_6])), (q1_6, .inl (cI, 60, .inl (fun _ => 0))), (q2_6, .inl (cI, 60, .inl (fun _ => 0))), (q5, .inr (3, [.int (nI 0), .ref q1_3, .ref q2_3])), (q1_3, .inl (cI, 144, .inl (fun _ => 0))), (q2_3, .inl (cI, 144, .inl (fun _ => 0))), (q6, .inr (0, [.ref q1_0, .ref q2_0])), (q1_0, .inl (cI, 144, .inl (fun _ => 0))), (q2_0, .inl (cI, 144, .inl (fun _ => 0))), (q7, .inr (4, [.int (nI 0), .int (nI 0), .int (nI 0), .ref q1_4, .ref q2_4])), (q1_4, .inl (cI, 16, .inl (fun _ => 0))), (q2_4, .inl (cI, 2169, .inl (fun _ => 0)))]) C inX7 tyX7 tyX7_ok nmX7 0 rfl rfl 6 (by decide) tfl_X7_54 rfl rfl (by decide +kernel) rfl rfl (Nat.le_of_ble_eq_true rfl) rfl dX7_init_78 rfl ?_
  exact y_retp C dX7_init_81 (fun k => [h0, q1, q2, q3, q4, q5, q6, q7, q1_2, q2_2, q3_2, q4_2, q1_5, q2_5, q3_5, q4_5, q5_5, q1_1, q2_1, q3_1, q1_6, q2_6, q1_3, q2_3, q1_0, q2_0, q1_4, q2_4].getD k 0, g1_2, g2_2) ⟨rfl, hu2.1, hu2.2⟩ [0, 1, 6, 12, 16, 19, 22, 25, 4, 5, 2, 3, 7, 8, 9, 10, 11, 13, 14, 15, 17, 18, 20, 21, 23, 24, 26, 27] (by decide) rfl rfl
end CTORS
