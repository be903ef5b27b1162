section LAWLOOP
variable {p : Program} {l : Launch} {e : Env} {s : State} {m : MethodId} {below : List Frame} {meth : Method} {c : Code} {D : va_G} {cI cZ : ClassId} {ad bd : Nat → Nat} {b L : Nat} {xs : Nat → Int32}
theorem law_switch (hL : L ≤ 4096) (C : LC p s m c D cI cZ ad bd b L xs) {i j : Nat} (hi : i + 8 ≤ L) (hj : j < 32) (K : ∀ P T N U, okX P → rel P (cX N) → LW p l e s m below meth c D cI cZ ad bd b (lw_Z below #[Value.ref b] s) 1168 [(0, .ref b), (1, .ref (ad 0)), (2, .ref (bd 0)), (3, .int (nI i))] [] P T N U) {P T N U : St} (ok : okX P) (h : rel P (cX N)) : LW p l e s m below meth c D cI cZ ad bd b (lw_Z below #[Value.ref b] s) 33 [(0, .ref b), (1, .ref (ad 0)), (2, .ref (bd 0)), (3, .int (nI i))] [.int (nI j)] P T N U := by
  have hL2 : L < 2 ^ 31 := by omega
  by_cases q : j < 28
  · rcases (show j = 0 ∨ j = 1 ∨ j = 2 ∨ j = 3 ∨ j = 4 ∨ j = 5 ∨ j = 6 ∨ j = 7 ∨ j = 8 ∨ j = 9 ∨ j = 10 ∨ j = 11 ∨ j = 12 ∨ j = 13 ∨ j = 14 ∨ j = 15 ∨ j = 16 ∨ j = 17 ∨ j = 18 ∨ j = 19 ∨ j = 20 ∨ j = 21 ∨ j = 22 ∨ j = 23 ∨ j = 24 ∨ j = 25 ∨ j = 26 ∨ j = 27 by omega) with rfl | rfl | rfl | rfl | rfl | rfl | rfl | rfl | rfl | rfl | rfl | rfl | rfl | rfl | rfl | rfl | rfl | rfl | rfl | rfl | rfl | rfl | rfl | rfl | rfl | rfl | rfl | rfl
    · exact l_tableIn (tgt := 160) (off := 127) C dL_law_33 (by decide) (by decide) (by decide) (by decide) (law_k0 C hi hL2 K ok h)
    · exact l_tableIn (tgt := 183) (off := 150) C dL_law_33 (by decide) (by decide) (by decide) (by decide) (law_k1 C hi hL2 K ok h)
    · exact l_tableIn (tgt := 226) (off := 193) C dL_law_33 (by decide) (by decide) (by decide) (by decide) (law_k2 C hi hL2 K ok h)
    · exact l_tableIn (tgt := 259) (off := 226) C dL_law_33 (by decide) (by decide) (by decide) (by decide) (law_k3 C hi hL2 K ok h)
    · exact l_tableIn (tgt := 338) (off := 305) C dL_law_33 (by decide) (by decide) (by decide) (by decide) (law_k4 C hi hL2 K ok h)
    · exact l_tableIn (tgt := 351) (off := 318) C dL_law_33 (by decide) (by decide) (by decide) (by decide) (law_k5 C hi hL2 K ok h)
    · exact l_tableIn (tgt := 414) (off := 381) C dL_law_33 (by decide) (by decide) (by decide) (by decide) (law_k6 C hi hL2 K ok h)
    · exact l_tableIn (tgt := 437) (off := 404) C dL_law_33 (by decide) (by decide) (by decide) (by decide) (law_k7 C hi hL2 K ok h)
    · exact l_tableIn (tgt := 460) (off := 427) C dL_law_33 (by decide) (by decide) (by decide) (by decide) (law_k8 C hi hL2 K ok h)
    · exact l_tableIn (tgt := 483) (off := 450) C dL_law_33 (by decide) (by decide) (by decide) (by decide) (law_k9 C hi hL2 K ok h)
    · exact l_tableIn (tgt := 526) (off := 493) C dL_law_33 (by decide) (by decide) (by decide) (by decide) (law_k10 C hi hL2 K ok h)
    · exact l_tableIn (tgt := 559) (off := 526) C dL_law_33 (by decide) (by decide) (by decide) (by decide) (law_k11 C hi hL2 K ok h)
    · exact l_tableIn (tgt := 582) (off := 549) C dL_law_33 (by decide) (by decide) (by decide) (by decide) (law_k12 C hi hL2 K ok h)
    · exact l_tableIn (tgt := 595) (off := 562) C dL_law_33 (by decide) (by decide) (by decide) (by decide) (law_k13 C hi hL2 K ok h)
    · exact l_tableIn (tgt := 618) (off := 585) C dL_law_33 (by decide) (by decide) (by decide) (by decide) (law_k14 C hi hL2 K ok h)
    · exact l_tableIn (tgt := 641) (off := 608) C dL_law_33 (by decide) (by decide) (by decide) (by decide) (law_k15 C hi hL2 K ok h)
    · exact l_tableIn (tgt := 664) (off := 631) C dL_law_33 (by decide) (by decide) (by decide) (by decide) (law_k16 C hi hL2 K ok h)
    · exact l_tableIn (tgt := 697) (off := 664) C dL_law_33 (by decide) (by decide) (by decide) (by decide) (law_k17 C hi hL2 K ok h)
    · exact l_tableIn (tgt := 710) (off := 677) C dL_law_33 (by decide) (by decide) (by decide) (by decide) (law_k18 C hi hL2 K ok h)
    · exact l_tableIn (tgt := 743) (off := 710) C dL_law_33 (by decide) (by decide) (by decide) (by decide) (law_k19 C hi hL2 K ok h)
    · exact l_tableIn (tgt := 766) (off := 733) C dL_law_33 (by decide) (by decide) (by decide) (by decide) (law_k20 C hi hL2 K ok h)
    · exact l_tableIn (tgt := 789) (off := 756) C dL_law_33 (by decide) (by decide) (by decide) (by decide) (law_k21 C hi hL2 K ok h)
    · exact l_tableIn (tgt := 842) (off := 809) C dL_law_33 (by decide) (by decide) (by decide) (by decide) (law_k22 C hi hL2 K ok h)
    · exact l_tableIn (tgt := 929) (off := 896) C dL_law_33 (by decide) (by decide) (by decide) (by decide) (law_k23 C hi hL2 K ok h)
    · exact l_tableIn (tgt := 1016) (off := 983) C dL_law_33 (by decide) (by decide) (by decide) (by decide) (law_k24 C hi hL2 K ok h)
    · exact l_tableIn (tgt := 1059) (off := 1026) C dL_law_33 (by decide) (by decide) (by decide) (by decide) (law_k25 C hi hL2 K ok h)
    · exact l_tableIn (tgt := 1112) (off := 1079) C dL_law_33 (by decide) (by decide) (by decide) (by decide) (law_k26 C hi hL2 K ok h)
    · exact l_tableIn (tgt := 1145) (off := 1112) C dL_law_33 (by decide) (by decide) (by decide) (by decide) (law_k27 C hi hL2 K ok h)
  · exact l_tableOut (tgt := 1168) C dL_law_33 (Or.inr (by rw [nI_toInt (by omega)]; omega)) (by decide) (K P T N U ok h)
theorem law_loop (hL : L ≤ 4096) (C : LC p s m c D cI cZ ad bd b L xs) (hr : meth.sig.returnType = ret) (hlocks : meth.locks = false) : ∀ (f i : Nat) (P T N U : St), okX P → rel P (cX N) → i ≤ L + 8 → L + 8 - i < f → LW p l e s m below meth c D cI cZ ad bd b (lw_Z below #[Value.ref b] s) 18 [(0, .ref b), (1, .ref (ad 0)), (2, .ref (bd 0)), (3, .int (nI i))] [] P T N U := by
  intro f
  induction f with
  | zero => intro i P T N U _ _ _ hf; exact absurd hf (Nat.not_lt_zero _)
  | succ f ih =>
    intro i P T N U ok h hi hf
    refine l_iload_n (q := 19) C dL_law_18 rfl 3 rfl rfl ?_
    refine l_aload_n (q := 20) C dL_law_19 rfl 0 rfl rfl ?_
    refine l_slen (q := 21) C dL_law_20 rfl ?_
    refine l_bipush (q := 23) (v := nI 8) C dL_law_21 (by decide) rfl ?_
    refine l_isub (q := 24) C dL_law_23 rfl ?_
    have e1 := pk_sub_toInt (a := L) (b := 8) (by omega) (by decide)
    have e2 := nI_toInt (n := i) (by omega)
    refine l_icmp_gt (q := 27) (tgt := 1174) C dL_law_24 (by decide) rfl (fun g => ?_) (fun g => ?_)
    · refine l_iconst (q := 1175) (v := 1) C dL_law_1174 (by decide) rfl ?_
      exact fun H locs ls h1 h2 hS hl => va_forget (fun q hq => hS.2.2 q hq) (lw_ret C.1.1 C.1.2.1 hr hlocks dL_law_1175)
    · have hi8 : i + 8 ≤ L := by rw [fa_lt, e1, e2] at g; omega
      refine l_aload_n (q := 28) C dL_law_27 rfl 0 rfl rfl ?_
      refine l_iload_n (q := 29) C dL_law_28 rfl 3 rfl rfl ?_
      refine l_sld (q := 30) C (by omega) (by omega) dL_law_29 rfl ?_
      refine l_bipush (q := 32) (v := nI 31) C dL_law_30 (by decide) rfl ?_
      refine l_iand (q := 33) C dL_law_32 rfl ?_
      obtain ⟨j, hj, ej⟩ := pk_andE (xs i) (m := nI 31) 5 (by decide)
      rw [ej]
      refine law_switch hL C hi8 hj (fun P T N U ok h => ?_) ok h
      refine l_iinc (q := 1171) (j := 3) (v := nI (i + 8)) (lv' := [(0, .ref b), (1, .ref (ad 0)), (2, .ref (bd 0)), (3, .int (nI (i + 8)))]) C dL_law_1168 rfl (by rw [show Int32.ofInt 8 = nI 8 by decide, nI_add]) (by decide) rfl rfl rfl ?_
      exact l_goto (tgt := 18) C dL_law_1171 (by decide) (ih (i + 8) P T N U ok h (by omega) (by omega))
end LAWLOOP
