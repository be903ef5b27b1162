section REFB
variable {l : Launch} {D : va_G} {ad : Nat → Nat} {cI cZ : ClassId} {A : Nat → Prop}

set_option maxRecDepth 100000 in
set_option maxHeartbeats 4000000 in
theorem c_X8_knob (hD : ∀ P T, va_D A (wN ad cI cZ P T)) {P T : St} (ok : okN P) (v : Int32) : XMI l D (tyz cI cZ) (wN ad cI cZ) A yX8_knob cX8_knob 3 (some .int) rmX8_knob [.ref (ad 0), .int v] P T (fun r P' _ => r = Fknob P v ∧ (inR v (nI 2) (nI 4) ∧ knOK P v → addN P (cl v) P') ∧ (¬ (inR v (nI 2) (nI 4) ∧ knOK P v) → P' = P)) := by
  have okc := okN_c ok
  have hk6 := okc_kn6 okc
  have hS144 := okc_S144 okc
  have hS1 := okc_S1 okc
  have hnr := okc_nr12 okc
  have hnt := okc_nt60 okc
  have hnz := okc_nz50 okc
  have hsd := okc_sdb okc
  have okk := okC_K okc
  refine x_start_i (lv := [(0, .ref (ad 0)), (1, .int v)]) (own := RX8) (by decide) rfl hD (Nat.le_of_ble_eq_true rfl) rfl ?_
  intro p e s m args below meth c C
  refine x_iload_n (q := 1) C dX8_knob_0 rfl 1 rfl rfl ?_
  refine x_i2l (q := 2) C dX8_knob_1 rfl ?_
  refine x_ldc2 (q := 5) C tk_X8_58 dX8_knob_2 rfl ?_
  refine x_ldc2 (q := 8) C tk_X8_60 dX8_knob_5 rfl ?_
  refine x_Sf (q := 11) (As := [.long v.toInt64, .long ((2)), .long ((4))]) (rest := []) C (c_X8_in hD v.toInt64 ((2)) ((4)) ) xs_X8_in tst_X8_in tml_X8_50 (by decide) rfl rfl (Nat.le_of_ble_eq_true rfl) dX8_knob_8 rfl ?_
  refine x_tope (bI (inR v (nI 2) (nI 4))) (bI_congr (inL_i (a := (nI 2)) (b := (nI 4)) (by decide) (by decide))) ?_
  refine x_if_ne_b (q := 14) (tgt := 16) C dX8_knob_11 (by decide) rfl (fun c11 => ?_) (fun c11 => ?_)
  · have hw11 := c11
    obtain ⟨v2, hv2a, hv2, rfl⟩ := inR_nat2 (b := 2) (n := 4) (by decide) (by decide) c11
    have hm : nS P * v2 < 2 ^ 31 := Nat.lt_of_le_of_lt (Nat.mul_le_mul hS144 hv2) (by decide)
    refine x_aload_n (q := 17) C dX8_knob_16 rfl 0 rfl rfl ?_
    refine xg_X8_knobs (q := 20) C tfl_X8_47 dX8_knob_17 rfl ?_
    refine x_topn (kn P) (okc_kn (P := P) okc) ?_
    refine x_bipush (q := 22) (v := nI 6) C dX8_knob_20 (by decide) rfl ?_
    refine x_icmp_eq_n (q := 25) (tgt := 37) C dX8_knob_22 (by omega) (by omega) (by decide) rfl (fun c22 => ?_) (fun c22 => ?_)
    · have hno : ¬ knOK P (nI v2) := by rw [knOK, okc_kn okc, okc_S okc, pk_mul, nI_ltI (by omega) (by decide), nI_leI hm (by decide)]; omega
      refine x_bipush (q := 39) (v := (-3)) C dX8_knob_37 (by decide) rfl ?_
      exact x_iret C dX8_knob_39 ⟨by rw [Fknob, if_pos hw11, if_neg hno], fun h => absurd h.2 hno, fun _ => rfl⟩
    · refine x_aload_n (q := 26) C dX8_knob_25 rfl 0 rfl rfl ?_
      refine xg_X8_settings (q := 29) C tfl_X8_7 dX8_knob_26 rfl ?_
      refine x_topn (nS P) (okc_S (P := P) okc) ?_
      refine x_iload_n (q := 30) C dX8_knob_29 rfl 1 rfl rfl ?_
      refine x_imul_n (q := 31) C dX8_knob_30 rfl ?_
      refine x_sipush (q := 34) (v := nI 144) C dX8_knob_31 (by decide) rfl ?_
      refine x_icmp_le_n (q := 37) (tgt := 40) C dX8_knob_34 hm (by decide) (by decide) rfl (fun c34 => ?_) (fun c34 => ?_)
      · have hyes : knOK P (nI v2) := by rw [knOK, okc_kn okc, okc_S okc, pk_mul, nI_ltI (by omega) (by decide), nI_leI hm (by decide)]; omega
        refine x_aload_n (q := 41) C dX8_knob_40 rfl 0 rfl rfl ?_
        refine xg_X8_many (q := 44) C tfl_X8_13 dX8_knob_41 rfl ?_
        refine x_aload_n (q := 45) C dX8_knob_44 rfl 0 rfl rfl ?_
        refine xg_X8_knobs (q := 48) C tfl_X8_47 dX8_knob_45 rfl ?_
        refine x_topn (kn P) (okc_kn (P := P) okc) ?_
        refine x_iload_n (q := 49) C dX8_knob_48 rfl 1 rfl rfl ?_
        refine xs_N1 (q := 50) C (by omega) dX8_knob_49 rfl ?_
        refine x_iconst (q := 51) (v := nI 0) C dX8_knob_50 (by decide) rfl ?_
        refine x_istore_n (q := 52) (lv' := [(0, .ref (ad 0)), (1, .int (nI v2)), (2, .int (nI 0))]) C dX8_knob_51 rfl (by decide) rfl rfl rfl ?_
        have L52 : ∀ (f1 : Nat) (j : Nat) (Pq : St), (j ≤ 4) → (∀ a, a ≠ 2 → Pq a = (st1 P 0 (kn P) (nI v2)) a) → (∀ i, Pq 2 i = if kn P * 4 ≤ i ∧ i < kn P * 4 + j then nI (i - kn P * 4) else P 2 i) → 4 - j < f1 → XW p l e rmX8_knob s m args below meth c D (wN ad cI cZ) A 3 (MQ below (XPI D (tyz cI cZ) (wN ad cI cZ) A (fun r P' _ => r = Fknob P (nI v2) ∧ (inR (nI v2) (nI 2) (nI 4) ∧ knOK P (nI v2) → addN P (cl (nI v2)) P') ∧ (¬ (inR (nI v2) (nI 2) (nI 4) ∧ knOK P (nI v2)) → P' = P))) args s 0 0 A) 52 [(0, .ref (ad 0)), (1, .int (nI v2)), (2, .int (nI j))] [] Pq T := by
          intro f1
          induction f1 with
          | zero => intro j Pq hj hq hq2 hm; exact absurd hm (Nat.not_lt_zero _)
          | succ f1 ih52 =>
            intro j Pq hj hq hq2 hm52
            refine x_iload_n (q := 53) C dX8_knob_52 rfl 2 rfl rfl ?_
            refine x_iconst (q := 54) (v := nI 4) C dX8_knob_53 (by decide) rfl ?_
            refine x_icmp_ge_n (q := 57) (tgt := 77) C dX8_knob_54 (by omega) (by omega) (by decide) rfl (fun c54 => ?_) (fun c54 => ?_)
            · refine x_aload_n (q := 78) C dX8_knob_77 rfl 0 rfl rfl ?_
              refine x_dup (q := 79) C dX8_knob_78 rfl rfl ?_
              refine xg_X8_knobs (q := 82) C tfl_X8_47 dX8_knob_79 rfl ?_
              refine x_topn (kn P) (by rw [hq 20 (by decide)]; exact okc_kn (P := P) okc) ?_
              refine x_iconst (q := 83) (v := nI 1) C dX8_knob_82 (by decide) rfl ?_
              refine x_iadd_n (q := 84) C dX8_knob_83 rfl ?_
              refine xp_X8_knobs (q := 87) C tfl_X8_47 dX8_knob_84 rfl ?_
              refine x_aload_n (q := 88) C dX8_knob_87 rfl 0 rfl rfl ?_
              refine x_dup (q := 89) C dX8_knob_88 rfl rfl ?_
              refine xg_X8_settings (q := 92) C tfl_X8_7 dX8_knob_89 rfl ?_
              refine x_topn (nS P) (by rw [st1_ne (by decide), hq 21 (by decide)]; exact okc_S (P := P) okc) ?_
              refine x_iload_n (q := 93) C dX8_knob_92 rfl 1 rfl rfl ?_
              refine x_imul_n (q := 94) C dX8_knob_93 rfl ?_
              refine xp_X8_settings (q := 97) C tfl_X8_7 dX8_knob_94 rfl ?_
              refine x_aload_n (q := 98) C dX8_knob_97 rfl 0 rfl rfl ?_
              refine x_iconst (q := 99) (v := nI 0) C dX8_knob_98 (by decide) rfl ?_
              refine xp_X8_trials (q := 102) C tfl_X8_62 dX8_knob_99 rfl ?_
              refine x_aload_n (q := 103) C dX8_knob_102 rfl 0 rfl rfl ?_
              refine xg_X8_knobs (q := 106) C tfl_X8_47 dX8_knob_103 rfl ?_
              refine x_topn (kn P + 1) (by rw [st1_ne (by decide), st1_ne (by decide)]; exact st1_at) ?_
              refine x_iconst (q := 107) (v := nI 1) C dX8_knob_106 (by decide) rfl ?_
              refine x_isub_n (q := 108) C dX8_knob_107 (by omega) rfl ?_
              refine x_topn (kn P) (by rw [Nat.add_sub_cancel]) ?_
              exact x_iret C dX8_knob_108 ⟨by rw [Fknob, if_pos hw11, if_pos hyes, okc_kn okc], fun _ => by rw [cl_nI (by omega)]; exact ⟨by rw [st1_ne (by decide), st1_ne (by decide), st1_eq, hq 20 (by decide)]; rfl, by rw [st1_ne (by decide), st1_eq, st1_ne (by decide), hq 21 (by decide)]; rfl, by rw [st1_ne (by decide), st1_ne (by decide), st1_ne (by decide), hq 0 (by decide)]; exact st1_eq, by rw [st1_eq, st1_ne (by decide), st1_ne (by decide), hq 24 (by decide)]; rfl, fun i => by rw [st1_ne (by decide), st1_ne (by decide), st1_ne (by decide), hq2, show j = 4 by omega], fun j h0 h2 h3 h4 h5 => by rw [st1_ne h5, st1_ne h4, st1_ne h3, hq j h2, st1_ne h0]⟩, fun h => absurd ⟨hw11, hyes⟩ h⟩
            · refine x_aload_n (q := 58) C dX8_knob_57 rfl 0 rfl rfl ?_
              refine xg_X8_places (q := 61) C tfl_X8_17 dX8_knob_58 rfl ?_
              refine x_iconst (q := 62) (v := nI 4) C dX8_knob_61 (by decide) rfl ?_
              refine x_aload_n (q := 63) C dX8_knob_62 rfl 0 rfl rfl ?_
              refine xg_X8_knobs (q := 66) C tfl_X8_47 dX8_knob_63 rfl ?_
              refine x_topn (kn P) (by rw [hq 20 (by decide)]; exact okc_kn (P := P) okc) ?_
              refine x_imul_n (q := 67) C dX8_knob_66 rfl ?_
              refine x_iload_n (q := 68) C dX8_knob_67 rfl 2 rfl rfl ?_
              refine x_iadd_n (q := 69) C dX8_knob_68 rfl ?_
              refine x_topn (kn P * 4 + j) (by rw [Nat.mul_comm]) ?_
              refine x_iload_n (q := 70) C dX8_knob_69 rfl 2 rfl rfl ?_
              refine xs_N2 (q := 71) C (by omega) dX8_knob_70 rfl ?_
              refine x_iinc (q := 74) (v := nI (j + 1)) (lv' := [(0, .ref (ad 0)), (1, .int (nI v2)), (2, .int (nI (j + 1)))]) C dX8_knob_71 2 rfl (nI_add j 1) (by decide) rfl rfl rfl ?_
              refine x_goto (tgt := 52) C dX8_knob_74 (by decide) ?_
              exact ih52 (j + 1) _ (by omega) (fun a h => by rw [st1_ne h]; exact hq a h) (fun i => by rw [st1_eq]; by_cases h : i = kn P * 4 + j <;> simp only [upd, h, if_true, if_false, hq2] <;> (first | (rw [if_pos (by omega)]; congr 1; omega) | (split <;> (first | (rw [if_pos (by omega)]; done) | (rw [if_neg (by omega)]; done))))) (by omega)
        exact L52 _ 0 _ (Nat.zero_le _) (fun _ _ => rfl) (fun i => by rw [if_neg (by omega)]; rfl) (Nat.lt_succ_self _)
      · have hno : ¬ knOK P (nI v2) := by rw [knOK, okc_kn okc, okc_S okc, pk_mul, nI_ltI (by omega) (by decide), nI_leI hm (by decide)]; omega
        refine x_bipush (q := 39) (v := (-3)) C dX8_knob_37 (by decide) rfl ?_
        exact x_iret C dX8_knob_39 ⟨by rw [Fknob, if_pos hw11, if_neg hno], fun h => absurd h.2 hno, fun _ => rfl⟩
  · refine x_iconst (q := 15) (v := (-1)) C dX8_knob_14 (by decide) rfl ?_
    exact x_iret C dX8_knob_15 ⟨if_f c11, fun h => absurd h.1 c11, fun _ => rfl⟩

set_option maxRecDepth 100000 in
set_option maxHeartbeats 4000000 in
theorem c_X8_place (hD : ∀ P T, va_D A (wN ad cI cZ P T)) {P T : St} (ok : okN P) (k v p0 : Int32) : XMI l D (tyz cI cZ) (wN ad cI cZ) A yX8_place cX8_place 5 (some .int) rmX8_place [.ref (ad 0), .int k, .int v, .int p0] P T (fun r P' _ => r = Fplace P k v p0 ∧ P' = Gplace P k v p0) := by
  have okc := okN_c ok
  have hk6 := okc_kn6 okc
  have hS144 := okc_S144 okc
  have hS1 := okc_S1 okc
  have hnr := okc_nr12 okc
  have hnt := okc_nt60 okc
  have hnz := okc_nz50 okc
  have hsd := okc_sdb okc
  have okk := okC_K okc
  refine x_start_i (lv := [(0, .ref (ad 0)), (1, .int k), (2, .int v), (3, .int p0)]) (own := RX8) (by decide) rfl hD (Nat.le_of_ble_eq_true rfl) rfl ?_
  intro p e s m args below meth c C
  refine x_aload_n (q := 1) C dX8_place_0 rfl 0 rfl rfl ?_
  refine x_iload_n (q := 2) C dX8_place_1 rfl 1 rfl rfl ?_
  refine x_iload_n (q := 3) C dX8_place_2 rfl 2 rfl rfl ?_
  refine x_Vf (q := 6) (As := [.int k, .int v]) (rest := []) C (c_X8_isValue hD ok k v ) xs_X8_isValue tim_X8_isValue tsel_X8_isValue tml_X8_65 (by decide) 0 rfl (ci := 8) rfl rfl rfl (Nat.le_of_ble_eq_true rfl) dX8_place_3 rfl ?_
  refine x_if_eq_b (q := 9) (tgt := 23) C dX8_place_6 (by decide) rfl (fun c6 => ?_) (fun c6 => ?_)
  · refine x_sipush (q := 26) (v := (-1000)) C dX8_place_23 (by decide) rfl ?_
    exact x_iret C dX8_place_26 ⟨if_f (fun h => by first | exact c6 h.1 | exact c20 h.2), if_f (fun h => by first | exact c6 h.1 | exact c20 h.2)⟩
  · have hV6 := c6
    obtain ⟨a, b, ha, hb, rfl, rfl⟩ := isV_nat okc c6
    have hza := okc_sz2 okc ha
    refine x_iload_n (q := 10) C dX8_place_9 rfl 3 rfl rfl ?_
    refine x_i2l (q := 11) C dX8_place_10 rfl ?_
    refine x_ldc2 (q := 14) C tk_X8_69 dX8_place_11 rfl ?_
    refine x_ldc2 (q := 17) C tk_X8_71 dX8_place_14 rfl ?_
    refine x_Sf (q := 20) (As := [.long p0.toInt64, .long ((-100)), .long ((100))]) (rest := []) C (c_X8_in hD p0.toInt64 ((-100)) ((100)) ) xs_X8_in tst_X8_in tml_X8_50 (by decide) rfl rfl (Nat.le_of_ble_eq_true rfl) dX8_place_17 rfl ?_
    refine x_tope (bI (inR p0 (-100) (nI 100))) (bI_congr (inL_i (a := (-100)) (b := (nI 100)) (by decide) (by decide))) ?_
    refine x_if_ne_b (q := 23) (tgt := 27) C dX8_place_20 (by decide) rfl (fun c20 => ?_) (fun c20 => ?_)
    · refine x_aload_n (q := 28) C dX8_place_27 rfl 0 rfl rfl ?_
      refine xg_X8_places (q := 31) C tfl_X8_17 dX8_place_28 rfl ?_
      refine x_iconst (q := 32) (v := nI 4) C dX8_place_31 (by decide) rfl ?_
      refine x_iload_n (q := 33) C dX8_place_32 rfl 1 rfl rfl ?_
      refine x_imul_n (q := 34) C dX8_place_33 rfl ?_
      refine x_iload_n (q := 35) C dX8_place_34 rfl 2 rfl rfl ?_
      refine x_iadd_n (q := 36) C dX8_place_35 rfl ?_
      refine x_topn (a * 4 + b) (by rw [Nat.mul_comm]) ?_
      refine xa_N2 (q := 37) C (by omega) dX8_place_36 rfl ?_
      refine x_istore (q := 39) (lv' := [(0, .ref (ad 0)), (1, .int (nI a)), (2, .int (nI b)), (3, .int p0), (4, .int (P 2 (a * 4 + b)))]) C dX8_place_37 (by decide) rfl rfl rfl ?_
      refine x_aload_n (q := 40) C dX8_place_39 rfl 0 rfl rfl ?_
      refine xg_X8_places (q := 43) C tfl_X8_17 dX8_place_40 rfl ?_
      refine x_iconst (q := 44) (v := nI 4) C dX8_place_43 (by decide) rfl ?_
      refine x_iload_n (q := 45) C dX8_place_44 rfl 1 rfl rfl ?_
      refine x_imul_n (q := 46) C dX8_place_45 rfl ?_
      refine x_iload_n (q := 47) C dX8_place_46 rfl 2 rfl rfl ?_
      refine x_iadd_n (q := 48) C dX8_place_47 rfl ?_
      refine x_topn (a * 4 + b) (by rw [Nat.mul_comm]) ?_
      refine x_iload_n (q := 49) C dX8_place_48 rfl 3 rfl rfl ?_
      refine xs_N2 (q := 50) C (by omega) dX8_place_49 rfl ?_
      refine x_iload (q := 52) C dX8_place_50 4 rfl rfl ?_
      exact x_iret C dX8_place_52 ⟨by rw [Fplace, if_pos ⟨hV6, c20⟩, cl_nI (by omega), cl_nI (by omega)], by rw [Gplace, if_pos ⟨hV6, c20⟩, cl_nI (by omega), cl_nI (by omega)]⟩
    · refine x_sipush (q := 26) (v := (-1000)) C dX8_place_23 (by decide) rfl ?_
      exact x_iret C dX8_place_26 ⟨if_f (fun h => by first | exact c6 h.1 | exact c20 h.2), if_f (fun h => by first | exact c6 h.1 | exact c20 h.2)⟩

set_option maxRecDepth 100000 in
set_option maxHeartbeats 4000000 in
theorem c_X8_steep (hD : ∀ P T, va_D A (wN ad cI cZ P T)) {P T : St} (ok : okN P) (k x : Int32) : XMI l D (tyz cI cZ) (wN ad cI cZ) A yX8_steep cX8_steep 4 (some .int) rmX8_steep [.ref (ad 0), .int k, .int x] P T (fun r P' _ => r = Fsteep P k x ∧ P' = Gsteep P k x) := by
  have okc := okN_c ok
  have hk6 := okc_kn6 okc
  have hS144 := okc_S144 okc
  have hS1 := okc_S1 okc
  have hnr := okc_nr12 okc
  have hnt := okc_nt60 okc
  have hnz := okc_nz50 okc
  have hsd := okc_sdb okc
  have okk := okC_K okc
  refine x_start_i (lv := [(0, .ref (ad 0)), (1, .int k), (2, .int x)]) (own := RX8) (by decide) rfl hD (Nat.le_of_ble_eq_true rfl) rfl ?_
  intro p e s m args below meth c C
  refine x_aload_n (q := 1) C dX8_steep_0 rfl 0 rfl rfl ?_
  refine x_iload_n (q := 2) C dX8_steep_1 rfl 1 rfl rfl ?_
  refine x_Vf (q := 5) (As := [.int k]) (rest := []) C (c_X8_isKnob hD ok k ) xs_X8_isKnob tim_X8_isKnob tsel_X8_isKnob tml_X8_54 (by decide) 0 rfl (ci := 8) rfl rfl rfl (Nat.le_of_ble_eq_true rfl) dX8_steep_2 rfl ?_
  refine x_if_eq_b (q := 8) (tgt := 20) C dX8_steep_5 (by decide) rfl (fun c5 => ?_) (fun c5 => ?_)
  · refine x_iconst (q := 21) (v := (-1)) C dX8_steep_20 (by decide) rfl ?_
    exact x_iret C dX8_steep_21 ⟨if_f (fun h => by first | exact c5 h.1 | exact c17 h.2), if_f (fun h => by first | exact c5 h.1 | exact c17 h.2)⟩
  · have hK5 := c5
    obtain ⟨a, ha, rfl⟩ := isK_nat okc c5
    refine x_iload_n (q := 9) C dX8_steep_8 rfl 2 rfl rfl ?_
    refine x_i2l (q := 10) C dX8_steep_9 rfl ?_
    refine x_lconst (q := 11) (v := 0) C dX8_steep_10 (by decide) rfl ?_
    refine x_ldc2 (q := 14) C tk_X8_71 dX8_steep_11 rfl ?_
    refine x_Sf (q := 17) (As := [.long x.toInt64, .long 0, .long ((100))]) (rest := []) C (c_X8_in hD x.toInt64 0 ((100)) ) xs_X8_in tst_X8_in tml_X8_50 (by decide) rfl rfl (Nat.le_of_ble_eq_true rfl) dX8_steep_14 rfl ?_
    refine x_tope (bI (inR x (nI 0) (nI 100))) (bI_congr (inL_i (a := (nI 0)) (b := (nI 100)) (by decide) (by decide))) ?_
    refine x_if_ne_b (q := 20) (tgt := 22) C dX8_steep_17 (by decide) rfl (fun c17 => ?_) (fun c17 => ?_)
    · refine x_aload_n (q := 23) C dX8_steep_22 rfl 0 rfl rfl ?_
      refine xg_X8_steeps (q := 26) C tfl_X8_20 dX8_steep_23 rfl ?_
      refine x_iload_n (q := 27) C dX8_steep_26 rfl 1 rfl rfl ?_
      refine xa_N3 (q := 28) C (by omega) dX8_steep_27 rfl ?_
      refine x_istore_n (q := 29) (lv' := [(0, .ref (ad 0)), (1, .int (nI a)), (2, .int x), (3, .int (P 3 a))]) C dX8_steep_28 rfl (by decide) rfl rfl rfl ?_
      refine x_aload_n (q := 30) C dX8_steep_29 rfl 0 rfl rfl ?_
      refine xg_X8_steeps (q := 33) C tfl_X8_20 dX8_steep_30 rfl ?_
      refine x_iload_n (q := 34) C dX8_steep_33 rfl 1 rfl rfl ?_
      refine x_iload_n (q := 35) C dX8_steep_34 rfl 2 rfl rfl ?_
      refine xs_N3 (q := 36) C (by omega) dX8_steep_35 rfl ?_
      refine x_iload_n (q := 37) C dX8_steep_36 rfl 3 rfl rfl ?_
      exact x_iret C dX8_steep_37 ⟨by rw [Fsteep, if_pos ⟨hK5, c17⟩, cl_nI (by omega)], by rw [Gsteep, if_pos ⟨hK5, c17⟩, cl_nI (by omega)]⟩
    · refine x_iconst (q := 21) (v := (-1)) C dX8_steep_20 (by decide) rfl ?_
      exact x_iret C dX8_steep_21 ⟨if_f (fun h => by first | exact c5 h.1 | exact c17 h.2), if_f (fun h => by first | exact c5 h.1 | exact c17 h.2)⟩

set_option maxRecDepth 100000 in
set_option maxHeartbeats 4000000 in
theorem c_X8_rule (hD : ∀ P T, va_D A (wN ad cI cZ P T)) {P T : St} (ok : okN P) (nb a v b x : Int32) (hnb : nb = 0 ∨ nb = 1) : XMI l D (tyz cI cZ) (wN ad cI cZ) A yX8_rule cX8_rule 7 (some .int) rmX8_rule [.ref (ad 0), .int nb, .int a, .int v, .int b, .int x] P T (fun r P' _ => r = Frule P a v b x ∧ P' = GruleN P nb a v b x) := by
  have okc := okN_c ok
  have hk6 := okc_kn6 okc
  have hS144 := okc_S144 okc
  have hS1 := okc_S1 okc
  have hnr := okc_nr12 okc
  have hnt := okc_nt60 okc
  have hnz := okc_nz50 okc
  have hsd := okc_sdb okc
  have okk := okC_K okc
  refine x_start_i (lv := [(0, .ref (ad 0)), (1, .int nb), (2, .int a), (3, .int v), (4, .int b), (5, .int x)]) (own := RX8) (by decide) rfl hD (Nat.le_of_ble_eq_true rfl) rfl ?_
  intro p e s m args below meth c C
  refine x_aload_n (q := 1) C dX8_rule_0 rfl 0 rfl rfl ?_
  refine x_iload_n (q := 2) C dX8_rule_1 rfl 2 rfl rfl ?_
  refine x_iload_n (q := 3) C dX8_rule_2 rfl 3 rfl rfl ?_
  refine x_Vf (q := 6) (As := [.int a, .int v]) (rest := []) C (c_X8_isValue hD ok a v ) xs_X8_isValue tim_X8_isValue tsel_X8_isValue tml_X8_65 (by decide) 0 rfl (ci := 8) rfl rfl rfl (Nat.le_of_ble_eq_true rfl) dX8_rule_3 rfl ?_
  refine x_if_eq_b (q := 9) (tgt := 26) C dX8_rule_6 (by decide) rfl (fun c6 => ?_) (fun c6 => ?_)
  · refine x_iconst (q := 27) (v := (-1)) C dX8_rule_26 (by decide) rfl ?_
    exact x_iret C dX8_rule_27 ⟨if_f (fun h => by first | exact c6 h.1 | exact c17 h.2.1 | exact h.2.2 c23), if_f (fun h => by first | exact c6 h.1 | exact c17 h.2.1 | exact h.2.2 c23)⟩
  · refine x_aload_n (q := 10) C dX8_rule_9 rfl 0 rfl rfl ?_
    refine x_iload (q := 12) C dX8_rule_10 4 rfl rfl ?_
    refine x_iload (q := 14) C dX8_rule_12 5 rfl rfl ?_
    refine x_Vf (q := 17) (As := [.int b, .int x]) (rest := []) C (c_X8_isValue hD ok b x ) xs_X8_isValue tim_X8_isValue tsel_X8_isValue tml_X8_65 (by decide) 0 rfl (ci := 8) rfl rfl rfl (Nat.le_of_ble_eq_true rfl) dX8_rule_14 rfl ?_
    refine x_if_eq_b (q := 20) (tgt := 26) C dX8_rule_17 (by decide) rfl (fun c17 => ?_) (fun c17 => ?_)
    · refine x_iconst (q := 27) (v := (-1)) C dX8_rule_26 (by decide) rfl ?_
      exact x_iret C dX8_rule_27 ⟨if_f (fun h => by first | exact c6 h.1 | exact c17 h.2.1 | exact h.2.2 c23), if_f (fun h => by first | exact c6 h.1 | exact c17 h.2.1 | exact h.2.2 c23)⟩
    · refine x_iload_n (q := 21) C dX8_rule_20 rfl 2 rfl rfl ?_
      refine x_iload (q := 23) C dX8_rule_21 4 rfl rfl ?_
      refine x_icmp_ne (q := 26) (tgt := 28) C dX8_rule_23 (by decide) rfl (fun c23 => ?_) (fun c23 => ?_)
      · refine x_aload_n (q := 29) C dX8_rule_28 rfl 0 rfl rfl ?_
        refine xg_X8_rules (q := 32) C tfl_X8_73 dX8_rule_29 rfl ?_
        refine x_topn (nr P) (okc_nr (P := P) okc) ?_
        refine x_bipush (q := 34) (v := nI 12) C dX8_rule_32 (by decide) rfl ?_
        refine x_icmp_ne_n (q := 37) (tgt := 40) C dX8_rule_34 (by omega) (by omega) (by decide) rfl (fun c34 => ?_) (fun c34 => ?_)
        · refine x_iconst (q := 41) (v := nI 5) C dX8_rule_40 (by decide) rfl ?_
          refine x_aload_n (q := 42) C dX8_rule_41 rfl 0 rfl rfl ?_
          refine xg_X8_rules (q := 45) C tfl_X8_73 dX8_rule_42 rfl ?_
          refine x_topn (nr P) (okc_nr (P := P) okc) ?_
          refine x_imul_n (q := 46) C dX8_rule_45 rfl ?_
          refine x_istore (q := 48) (lv' := [(0, .ref (ad 0)), (1, .int nb), (2, .int a), (3, .int v), (4, .int b), (5, .int x), (6, .int (nI (5 * (nr P))))]) C dX8_rule_46 (by decide) rfl rfl rfl ?_
          refine x_aload_n (q := 49) C dX8_rule_48 rfl 0 rfl rfl ?_
          refine xg_X8_ruleOf (q := 52) C tfl_X8_23 dX8_rule_49 rfl ?_
          refine x_iload (q := 54) C dX8_rule_52 6 rfl rfl ?_
          refine x_iload_n (q := 55) C dX8_rule_54 rfl 1 rfl rfl ?_
          refine x_if_eq (q := 58) (tgt := 62) C dX8_rule_55 (by decide) rfl (fun c55 => ?_) (fun c55 => ?_)
          · refine x_iconst (q := 63) (v := nI 0) C dX8_rule_62 (by decide) rfl ?_
            refine x_tope (nb) (by rw [c55]; rfl) ?_
            refine xs_N4 (q := 64) C (by omega) dX8_rule_63 rfl ?_
            refine x_aload_n (q := 65) C dX8_rule_64 rfl 0 rfl rfl ?_
            refine xg_X8_ruleOf (q := 68) C tfl_X8_23 dX8_rule_65 rfl ?_
            refine x_iload (q := 70) C dX8_rule_68 6 rfl rfl ?_
            refine x_iconst (q := 71) (v := nI 1) C dX8_rule_70 (by decide) rfl ?_
            refine x_iadd_n (q := 72) C dX8_rule_71 rfl ?_
            refine x_iload_n (q := 73) C dX8_rule_72 rfl 2 rfl rfl ?_
            refine xs_N4 (q := 74) C (by omega) dX8_rule_73 rfl ?_
            refine x_aload_n (q := 75) C dX8_rule_74 rfl 0 rfl rfl ?_
            refine xg_X8_ruleOf (q := 78) C tfl_X8_23 dX8_rule_75 rfl ?_
            refine x_iload (q := 80) C dX8_rule_78 6 rfl rfl ?_
            refine x_iconst (q := 81) (v := nI 2) C dX8_rule_80 (by decide) rfl ?_
            refine x_iadd_n (q := 82) C dX8_rule_81 rfl ?_
            refine x_iload_n (q := 83) C dX8_rule_82 rfl 3 rfl rfl ?_
            refine xs_N4 (q := 84) C (by omega) dX8_rule_83 rfl ?_
            refine x_aload_n (q := 85) C dX8_rule_84 rfl 0 rfl rfl ?_
            refine xg_X8_ruleOf (q := 88) C tfl_X8_23 dX8_rule_85 rfl ?_
            refine x_iload (q := 90) C dX8_rule_88 6 rfl rfl ?_
            refine x_iconst (q := 91) (v := nI 3) C dX8_rule_90 (by decide) rfl ?_
            refine x_iadd_n (q := 92) C dX8_rule_91 rfl ?_
            refine x_iload (q := 94) C dX8_rule_92 4 rfl rfl ?_
            refine xs_N4 (q := 95) C (by omega) dX8_rule_94 rfl ?_
            refine x_aload_n (q := 96) C dX8_rule_95 rfl 0 rfl rfl ?_
            refine xg_X8_ruleOf (q := 99) C tfl_X8_23 dX8_rule_96 rfl ?_
            refine x_iload (q := 101) C dX8_rule_99 6 rfl rfl ?_
            refine x_iconst (q := 102) (v := nI 4) C dX8_rule_101 (by decide) rfl ?_
            refine x_iadd_n (q := 103) C dX8_rule_102 rfl ?_
            refine x_iload (q := 105) C dX8_rule_103 5 rfl rfl ?_
            refine xs_N4 (q := 106) C (by omega) dX8_rule_105 rfl ?_
            refine x_aload_n (q := 107) C dX8_rule_106 rfl 0 rfl rfl ?_
            refine x_dup (q := 108) C dX8_rule_107 rfl rfl ?_
            refine xg_X8_rules (q := 111) C tfl_X8_73 dX8_rule_108 rfl ?_
            refine x_topn (nr P) (okc_nr (P := P) okc) ?_
            refine x_iconst (q := 112) (v := nI 1) C dX8_rule_111 (by decide) rfl ?_
            refine x_iadd_n (q := 113) C dX8_rule_112 rfl ?_
            refine xp_X8_rules (q := 116) C tfl_X8_73 dX8_rule_113 rfl ?_
            refine x_aload_n (q := 117) C dX8_rule_116 rfl 0 rfl rfl ?_
            refine xg_X8_rules (q := 120) C tfl_X8_73 dX8_rule_117 rfl ?_
            refine x_tope (nI (nr P + 1)) st1_at ?_
            exact x_iret C dX8_rule_120 ⟨by rw [Frule, if_pos ⟨c6, c17, c23⟩, if_neg (fun h => c34 ((le12 okc).mp h))], by rw [GruleN, if_pos ⟨c6, c17, c23⟩, if_neg (fun h => c34 ((le12 okc).mp h))]; rfl⟩
          · refine x_iconst (q := 59) (v := nI 1) C dX8_rule_58 (by decide) rfl ?_
            refine x_tope (nb) (hnb.elim (fun h => absurd h c55) (fun h => by rw [h]; rfl)) ?_
            refine x_goto (tgt := 63) C dX8_rule_59 (by decide) ?_
            refine xs_N4 (q := 64) C (by omega) dX8_rule_63 rfl ?_
            refine x_aload_n (q := 65) C dX8_rule_64 rfl 0 rfl rfl ?_
            refine xg_X8_ruleOf (q := 68) C tfl_X8_23 dX8_rule_65 rfl ?_
            refine x_iload (q := 70) C dX8_rule_68 6 rfl rfl ?_
            refine x_iconst (q := 71) (v := nI 1) C dX8_rule_70 (by decide) rfl ?_
            refine x_iadd_n (q := 72) C dX8_rule_71 rfl ?_
            refine x_iload_n (q := 73) C dX8_rule_72 rfl 2 rfl rfl ?_
            refine xs_N4 (q := 74) C (by omega) dX8_rule_73 rfl ?_
            refine x_aload_n (q := 75) C dX8_rule_74 rfl 0 rfl rfl ?_
            refine xg_X8_ruleOf (q := 78) C tfl_X8_23 dX8_rule_75 rfl ?_
            refine x_iload (q := 80) C dX8_rule_78 6 rfl rfl ?_
            refine x_iconst (q := 81) (v := nI 2) C dX8_rule_80 (by decide) rfl ?_
            refine x_iadd_n (q := 82) C dX8_rule_81 rfl ?_
            refine x_iload_n (q := 83) C dX8_rule_82 rfl 3 rfl rfl ?_
            refine xs_N4 (q := 84) C (by omega) dX8_rule_83 rfl ?_
            refine x_aload_n (q := 85) C dX8_rule_84 rfl 0 rfl rfl ?_
            refine xg_X8_ruleOf (q := 88) C tfl_X8_23 dX8_rule_85 rfl ?_
            refine x_iload (q := 90) C dX8_rule_88 6 rfl rfl ?_
            refine x_iconst (q := 91) (v := nI 3) C dX8_rule_90 (by decide) rfl ?_
            refine x_iadd_n (q := 92) C dX8_rule_91 rfl ?_
            refine x_iload (q := 94) C dX8_rule_92 4 rfl rfl ?_
            refine xs_N4 (q := 95) C (by omega) dX8_rule_94 rfl ?_
            refine x_aload_n (q := 96) C dX8_rule_95 rfl 0 rfl rfl ?_
            refine xg_X8_ruleOf (q := 99) C tfl_X8_23 dX8_rule_96 rfl ?_
            refine x_iload (q := 101) C dX8_rule_99 6 rfl rfl ?_
            refine x_iconst (q := 102) (v := nI 4) C dX8_rule_101 (by decide) rfl ?_
            refine x_iadd_n (q := 103) C dX8_rule_102 rfl ?_
            refine x_iload (q := 105) C dX8_rule_103 5 rfl rfl ?_
            refine xs_N4 (q := 106) C (by omega) dX8_rule_105 rfl ?_
            refine x_aload_n (q := 107) C dX8_rule_106 rfl 0 rfl rfl ?_
            refine x_dup (q := 108) C dX8_rule_107 rfl rfl ?_
            refine xg_X8_rules (q := 111) C tfl_X8_73 dX8_rule_108 rfl ?_
            refine x_topn (nr P) (okc_nr (P := P) okc) ?_
            refine x_iconst (q := 112) (v := nI 1) C dX8_rule_111 (by decide) rfl ?_
            refine x_iadd_n (q := 113) C dX8_rule_112 rfl ?_
            refine xp_X8_rules (q := 116) C tfl_X8_73 dX8_rule_113 rfl ?_
            refine x_aload_n (q := 117) C dX8_rule_116 rfl 0 rfl rfl ?_
            refine xg_X8_rules (q := 120) C tfl_X8_73 dX8_rule_117 rfl ?_
            refine x_tope (nI (nr P + 1)) st1_at ?_
            exact x_iret C dX8_rule_120 ⟨by rw [Frule, if_pos ⟨c6, c17, c23⟩, if_neg (fun h => c34 ((le12 okc).mp h))], by rw [GruleN, if_pos ⟨c6, c17, c23⟩, if_neg (fun h => c34 ((le12 okc).mp h))]; rfl⟩
        · refine x_bipush (q := 39) (v := (-3)) C dX8_rule_37 (by decide) rfl ?_
          exact x_iret C dX8_rule_39 ⟨by rw [Frule, if_pos ⟨c6, c17, c23⟩, if_pos ((le12 okc).mpr c34)], by rw [GruleN, if_pos ⟨c6, c17, c23⟩, if_pos ((le12 okc).mpr c34)]⟩
      · refine x_iconst (q := 27) (v := (-1)) C dX8_rule_26 (by decide) rfl ?_
        exact x_iret C dX8_rule_27 ⟨if_f (fun h => by first | exact c6 h.1 | exact c17 h.2.1 | exact h.2.2 c23), if_f (fun h => by first | exact c6 h.1 | exact c17 h.2.1 | exact h.2.2 c23)⟩

set_option maxRecDepth 100000 in
set_option maxHeartbeats 4000000 in
theorem c_X8_noRule (hD : ∀ P T, va_D A (wN ad cI cZ P T)) {P T : St} (ok : okN P) : XMI l D (tyz cI cZ) (wN ad cI cZ) A yX8_noRule cX8_noRule 1 (some .int) rmX8_noRule [.ref (ad 0)] P T (fun r P' _ => r = FnoRule P ∧ P' = GnoRule P) := by
  have okc := okN_c ok
  have hk6 := okc_kn6 okc
  have hS144 := okc_S144 okc
  have hS1 := okc_S1 okc
  have hnr := okc_nr12 okc
  have hnt := okc_nt60 okc
  have hnz := okc_nz50 okc
  have hsd := okc_sdb okc
  have okk := okC_K okc
  refine x_start_i (lv := [(0, .ref (ad 0))]) (own := RX8) (by decide) rfl hD (Nat.le_of_ble_eq_true rfl) rfl ?_
  intro p e s m args below meth c C
  refine x_aload_n (q := 1) C dX8_noRule_0 rfl 0 rfl rfl ?_
  refine xg_X8_rules (q := 4) C tfl_X8_73 dX8_noRule_1 rfl ?_
  refine x_topn (nr P) (okc_nr (P := P) okc) ?_
  refine x_if_ne_n (q := 7) (tgt := 10) C dX8_noRule_4 (by omega) (by decide) rfl (fun c4 => ?_) (fun c4 => ?_)
  · refine x_aload_n (q := 11) C dX8_noRule_10 rfl 0 rfl rfl ?_
    refine x_dup (q := 12) C dX8_noRule_11 rfl rfl ?_
    refine xg_X8_rules (q := 15) C tfl_X8_73 dX8_noRule_12 rfl ?_
    refine x_topn (nr P) (okc_nr (P := P) okc) ?_
    refine x_iconst (q := 16) (v := nI 1) C dX8_noRule_15 (by decide) rfl ?_
    refine x_isub_n (q := 17) C dX8_noRule_16 (by omega) rfl ?_
    refine xp_X8_rules (q := 20) C tfl_X8_73 dX8_noRule_17 rfl ?_
    refine x_aload_n (q := 21) C dX8_noRule_20 rfl 0 rfl rfl ?_
    refine xg_X8_rules (q := 24) C tfl_X8_73 dX8_noRule_21 rfl ?_
    refine x_tope (nI (nr P - 1)) st1_at ?_
    exact x_iret C dX8_noRule_24 ⟨if_f c4, if_f c4⟩
  · refine x_bipush (q := 9) (v := (-2)) C dX8_noRule_7 (by decide) rfl ?_
    exact x_iret C dX8_noRule_9 ⟨if_t c4, if_t c4⟩

set_option maxRecDepth 100000 in
set_option maxHeartbeats 4000000 in
theorem c_X8_effect (hD : ∀ P T, va_D A (wN ad cI cZ P T)) {P T : St} (ok : okN P) (a v b x e0 : Int32) : XMI l D (tyz cI cZ) (wN ad cI cZ) A yX8_effect cX8_effect 9 (some .int) rmX8_effect [.ref (ad 0), .int a, .int v, .int b, .int x, .int e0] P T (fun r P' _ => r = Feff P a v b x e0 ∧ P' = Geff P a v b x e0) := by
  have okc := okN_c ok
  have hk6 := okc_kn6 okc
  have hS144 := okc_S144 okc
  have hS1 := okc_S1 okc
  have hnr := okc_nr12 okc
  have hnt := okc_nt60 okc
  have hnz := okc_nz50 okc
  have hsd := okc_sdb okc
  have okk := okC_K okc
  refine x_start_i (lv := [(0, .ref (ad 0)), (1, .int a), (2, .int v), (3, .int b), (4, .int x), (5, .int e0)]) (own := RX8) (by decide) rfl hD (Nat.le_of_ble_eq_true rfl) rfl ?_
  intro p e s m args below meth c C
  refine x_aload_n (q := 1) C dX8_effect_0 rfl 0 rfl rfl ?_
  refine x_iload_n (q := 2) C dX8_effect_1 rfl 1 rfl rfl ?_
  refine x_iload_n (q := 3) C dX8_effect_2 rfl 2 rfl rfl ?_
  refine x_Vf (q := 6) (As := [.int a, .int v]) (rest := []) C (c_X8_isValue hD ok a v ) xs_X8_isValue tim_X8_isValue tsel_X8_isValue tml_X8_65 (by decide) 0 rfl (ci := 8) rfl rfl rfl (Nat.le_of_ble_eq_true rfl) dX8_effect_3 rfl ?_
  refine x_if_eq_b (q := 9) (tgt := 48) C dX8_effect_6 (by decide) rfl (fun c6 => ?_) (fun c6 => ?_)
  · refine x_iconst (q := 49) (v := nI 0) C dX8_effect_48 (by decide) rfl ?_
    refine x_istore (q := 51) (lv' := [(0, .ref (ad 0)), (1, .int a), (2, .int v), (3, .int b), (4, .int x), (5, .int e0), (6, .int (nI 0))]) C dX8_effect_49 (by decide) rfl rfl rfl ?_
    refine x_iload (q := 53) C dX8_effect_51 6 rfl rfl ?_
    refine x_if_ne_n (q := 56) (tgt := 60) C dX8_effect_53 (by decide) (by decide) rfl (fun h => absurd h (by decide)) (fun _ => ?_)
    refine x_sipush (q := 59) (v := (-10000)) C dX8_effect_56 (by decide) rfl ?_
    exact x_iret C dX8_effect_59 (by first | exact ⟨if_f (fun h => c6 h.1), if_f (fun h => c6 h.1)⟩ | exact ⟨if_f (fun h => c21 h.2), if_f (fun h => c21 h.2)⟩ | exact ⟨by rw [Feff, if_pos ⟨hV6, c21⟩, if_neg c26, if_neg (fun h => by first | exact Int32.not_lt.mpr c31 h.2 | exact c41 h.1)], by rw [Geff, if_pos ⟨hV6, c21⟩, if_neg c26, if_neg (fun h => by first | exact Int32.not_lt.mpr c31 h.2 | exact c41 h.1)]⟩)
  · have hV6 := c6
    obtain ⟨a1, v1, ha1, hv1, rfl, rfl⟩ := isV_nat okc c6
    have hza1 := okc_sz2 okc ha1
    refine x_iload (q := 11) C dX8_effect_9 5 rfl rfl ?_
    refine x_i2l (q := 12) C dX8_effect_11 rfl ?_
    refine x_ldc2 (q := 15) C tk_X8_76 dX8_effect_12 rfl ?_
    refine x_ldc2 (q := 18) C tk_X8_78 dX8_effect_15 rfl ?_
    refine x_Sf (q := 21) (As := [.long e0.toInt64, .long ((-1000)), .long ((1000))]) (rest := []) C (c_X8_in hD e0.toInt64 ((-1000)) ((1000)) ) xs_X8_in tst_X8_in tml_X8_50 (by decide) rfl rfl (Nat.le_of_ble_eq_true rfl) dX8_effect_18 rfl ?_
    refine x_tope (bI (inR e0 (-1000) (nI 1000))) (bI_congr (inL_i (a := (-1000)) (b := (nI 1000)) (by decide) (by decide))) ?_
    refine x_if_eq_b (q := 24) (tgt := 48) C dX8_effect_21 (by decide) rfl (fun c21 => ?_) (fun c21 => ?_)
    · refine x_iconst (q := 49) (v := nI 0) C dX8_effect_48 (by decide) rfl ?_
      refine x_istore (q := 51) (lv' := [(0, .ref (ad 0)), (1, .int (nI a1)), (2, .int (nI v1)), (3, .int b), (4, .int x), (5, .int e0), (6, .int (nI 0))]) C dX8_effect_49 (by decide) rfl rfl rfl ?_
      refine x_iload (q := 53) C dX8_effect_51 6 rfl rfl ?_
      refine x_if_ne_n (q := 56) (tgt := 60) C dX8_effect_53 (by decide) (by decide) rfl (fun h => absurd h (by decide)) (fun _ => ?_)
      refine x_sipush (q := 59) (v := (-10000)) C dX8_effect_56 (by decide) rfl ?_
      exact x_iret C dX8_effect_59 (by first | exact ⟨if_f (fun h => c6 h.1), if_f (fun h => c6 h.1)⟩ | exact ⟨if_f (fun h => c21 h.2), if_f (fun h => c21 h.2)⟩ | exact ⟨by rw [Feff, if_pos ⟨hV6, c21⟩, if_neg c26, if_neg (fun h => by first | exact Int32.not_lt.mpr c31 h.2 | exact c41 h.1)], by rw [Geff, if_pos ⟨hV6, c21⟩, if_neg c26, if_neg (fun h => by first | exact Int32.not_lt.mpr c31 h.2 | exact c41 h.1)]⟩)
    · refine x_iload_n (q := 25) C dX8_effect_24 rfl 3 rfl rfl ?_
      refine x_iconst (q := 26) (v := (-1)) C dX8_effect_25 (by decide) rfl ?_
      refine x_icmp_eq (q := 29) (tgt := 44) C dX8_effect_26 (by decide) rfl (fun c26 => ?_) (fun c26 => ?_)
      · refine x_iconst (q := 45) (v := nI 1) C dX8_effect_44 (by decide) rfl ?_
        refine x_goto (tgt := 49) C dX8_effect_45 (by decide) ?_
        refine x_istore (q := 51) (lv' := [(0, .ref (ad 0)), (1, .int (nI a1)), (2, .int (nI v1)), (3, .int b), (4, .int x), (5, .int e0), (6, .int (nI 1))]) C dX8_effect_49 (by decide) rfl rfl rfl ?_
        refine x_iload (q := 53) C dX8_effect_51 6 rfl rfl ?_
        refine x_if_ne_n (q := 56) (tgt := 60) C dX8_effect_53 (by decide) (by decide) rfl (fun _ => ?_) (fun h => absurd h (by decide))
        refine x_iload_n (q := 61) C dX8_effect_60 rfl 3 rfl rfl ?_
        refine x_iconst (q := 62) (v := (-1)) C dX8_effect_61 (by decide) rfl ?_
        refine x_icmp_ne (q := 65) (tgt := 92) C dX8_effect_62 (by decide) rfl (fun c62 => ?_) (fun c62 => ?_)
        · exact absurd c26 c62
        · refine x_aload_n (q := 66) C dX8_effect_65 rfl 0 rfl rfl ?_
          refine xg_X8_single (q := 69) C tfl_X8_26 dX8_effect_66 rfl ?_
          refine x_iconst (q := 70) (v := nI 4) C dX8_effect_69 (by decide) rfl ?_
          refine x_iload_n (q := 71) C dX8_effect_70 rfl 1 rfl rfl ?_
          refine x_imul_n (q := 72) C dX8_effect_71 rfl ?_
          refine x_iload_n (q := 73) C dX8_effect_72 rfl 2 rfl rfl ?_
          refine x_iadd_n (q := 74) C dX8_effect_73 rfl ?_
          refine x_topn (a1 * 4 + v1) (by rw [Nat.mul_comm]) ?_
          refine xa_N5 (q := 75) C (by omega) dX8_effect_74 rfl ?_
          refine x_istore (q := 77) (lv' := [(0, .ref (ad 0)), (1, .int (nI a1)), (2, .int (nI v1)), (3, .int b), (4, .int x), (5, .int e0), (6, .int (nI 1)), (7, .int (P 9 (a1 * 4 + v1)))]) C dX8_effect_75 (by decide) rfl rfl rfl ?_
          refine x_aload_n (q := 78) C dX8_effect_77 rfl 0 rfl rfl ?_
          refine xg_X8_single (q := 81) C tfl_X8_26 dX8_effect_78 rfl ?_
          refine x_iconst (q := 82) (v := nI 4) C dX8_effect_81 (by decide) rfl ?_
          refine x_iload_n (q := 83) C dX8_effect_82 rfl 1 rfl rfl ?_
          refine x_imul_n (q := 84) C dX8_effect_83 rfl ?_
          refine x_iload_n (q := 85) C dX8_effect_84 rfl 2 rfl rfl ?_
          refine x_iadd_n (q := 86) C dX8_effect_85 rfl ?_
          refine x_topn (a1 * 4 + v1) (by rw [Nat.mul_comm]) ?_
          refine x_iload (q := 88) C dX8_effect_86 5 rfl rfl ?_
          refine xs_N5 (q := 89) C (by omega) dX8_effect_88 rfl ?_
          refine x_iload (q := 91) C dX8_effect_89 7 rfl rfl ?_
          exact x_iret C dX8_effect_91 ⟨by rw [Feff, if_pos ⟨hV6, c21⟩, if_pos c26, cl_nI (by omega), cl_nI (by omega)], by rw [Geff, if_pos ⟨hV6, c21⟩, if_pos c26, cl_nI (by omega), cl_nI (by omega)]⟩
      · refine x_iload_n (q := 30) C dX8_effect_29 rfl 3 rfl rfl ?_
        refine x_iload_n (q := 31) C dX8_effect_30 rfl 1 rfl rfl ?_
        refine x_icmp_le (q := 34) (tgt := 48) C dX8_effect_31 (by decide) rfl (fun c31 => ?_) (fun c31 => ?_)
        · refine x_iconst (q := 49) (v := nI 0) C dX8_effect_48 (by decide) rfl ?_
          refine x_istore (q := 51) (lv' := [(0, .ref (ad 0)), (1, .int (nI a1)), (2, .int (nI v1)), (3, .int b), (4, .int x), (5, .int e0), (6, .int (nI 0))]) C dX8_effect_49 (by decide) rfl rfl rfl ?_
          refine x_iload (q := 53) C dX8_effect_51 6 rfl rfl ?_
          refine x_if_ne_n (q := 56) (tgt := 60) C dX8_effect_53 (by decide) (by decide) rfl (fun h => absurd h (by decide)) (fun _ => ?_)
          refine x_sipush (q := 59) (v := (-10000)) C dX8_effect_56 (by decide) rfl ?_
          exact x_iret C dX8_effect_59 (by first | exact ⟨if_f (fun h => c6 h.1), if_f (fun h => c6 h.1)⟩ | exact ⟨if_f (fun h => c21 h.2), if_f (fun h => c21 h.2)⟩ | exact ⟨by rw [Feff, if_pos ⟨hV6, c21⟩, if_neg c26, if_neg (fun h => by first | exact Int32.not_lt.mpr c31 h.2 | exact c41 h.1)], by rw [Geff, if_pos ⟨hV6, c21⟩, if_neg c26, if_neg (fun h => by first | exact Int32.not_lt.mpr c31 h.2 | exact c41 h.1)]⟩)
        · refine x_aload_n (q := 35) C dX8_effect_34 rfl 0 rfl rfl ?_
          refine x_iload_n (q := 36) C dX8_effect_35 rfl 3 rfl rfl ?_
          refine x_iload (q := 38) C dX8_effect_36 4 rfl rfl ?_
          refine x_Vf (q := 41) (As := [.int b, .int x]) (rest := []) C (c_X8_isValue hD ok b x ) xs_X8_isValue tim_X8_isValue tsel_X8_isValue tml_X8_65 (by decide) 0 rfl (ci := 8) rfl rfl rfl (Nat.le_of_ble_eq_true rfl) dX8_effect_38 rfl ?_
          refine x_if_eq_b (q := 44) (tgt := 48) C dX8_effect_41 (by decide) rfl (fun c41 => ?_) (fun c41 => ?_)
          · refine x_iconst (q := 49) (v := nI 0) C dX8_effect_48 (by decide) rfl ?_
            refine x_istore (q := 51) (lv' := [(0, .ref (ad 0)), (1, .int (nI a1)), (2, .int (nI v1)), (3, .int b), (4, .int x), (5, .int e0), (6, .int (nI 0))]) C dX8_effect_49 (by decide) rfl rfl rfl ?_
            refine x_iload (q := 53) C dX8_effect_51 6 rfl rfl ?_
            refine x_if_ne_n (q := 56) (tgt := 60) C dX8_effect_53 (by decide) (by decide) rfl (fun h => absurd h (by decide)) (fun _ => ?_)
            refine x_sipush (q := 59) (v := (-10000)) C dX8_effect_56 (by decide) rfl ?_
            exact x_iret C dX8_effect_59 (by first | exact ⟨if_f (fun h => c6 h.1), if_f (fun h => c6 h.1)⟩ | exact ⟨if_f (fun h => c21 h.2), if_f (fun h => c21 h.2)⟩ | exact ⟨by rw [Feff, if_pos ⟨hV6, c21⟩, if_neg c26, if_neg (fun h => by first | exact Int32.not_lt.mpr c31 h.2 | exact c41 h.1)], by rw [Geff, if_pos ⟨hV6, c21⟩, if_neg c26, if_neg (fun h => by first | exact Int32.not_lt.mpr c31 h.2 | exact c41 h.1)]⟩)
          · have hV41 := c41
            obtain ⟨b1, x1, hb1, hx1, rfl, rfl⟩ := isV_nat okc c41
            have hzb1 := okc_sz2 okc hb1
            refine x_iconst (q := 45) (v := nI 1) C dX8_effect_44 (by decide) rfl ?_
            refine x_goto (tgt := 49) C dX8_effect_45 (by decide) ?_
            refine x_istore (q := 51) (lv' := [(0, .ref (ad 0)), (1, .int (nI a1)), (2, .int (nI v1)), (3, .int (nI b1)), (4, .int (nI x1)), (5, .int e0), (6, .int (nI 1))]) C dX8_effect_49 (by decide) rfl rfl rfl ?_
            refine x_iload (q := 53) C dX8_effect_51 6 rfl rfl ?_
            refine x_if_ne_n (q := 56) (tgt := 60) C dX8_effect_53 (by decide) (by decide) rfl (fun _ => ?_) (fun h => absurd h (by decide))
            refine x_iload_n (q := 61) C dX8_effect_60 rfl 3 rfl rfl ?_
            refine x_iconst (q := 62) (v := (-1)) C dX8_effect_61 (by decide) rfl ?_
            refine x_icmp_ne (q := 65) (tgt := 92) C dX8_effect_62 (by decide) rfl (fun c62 => ?_) (fun c62 => ?_)
            · refine x_bipush (q := 94) (v := nI 24) C dX8_effect_92 (by decide) rfl ?_
              refine x_iconst (q := 95) (v := nI 4) C dX8_effect_94 (by decide) rfl ?_
              refine x_iload_n (q := 96) C dX8_effect_95 rfl 1 rfl rfl ?_
              refine x_imul_n (q := 97) C dX8_effect_96 rfl ?_
              refine x_iload_n (q := 98) C dX8_effect_97 rfl 2 rfl rfl ?_
              refine x_iadd_n (q := 99) C dX8_effect_98 rfl ?_
              refine x_imul_n (q := 100) C dX8_effect_99 rfl ?_
              refine x_iconst (q := 101) (v := nI 4) C dX8_effect_100 (by decide) rfl ?_
              refine x_iload_n (q := 102) C dX8_effect_101 rfl 3 rfl rfl ?_
              refine x_imul_n (q := 103) C dX8_effect_102 rfl ?_
              refine x_iadd_n (q := 104) C dX8_effect_103 rfl ?_
              refine x_iload (q := 106) C dX8_effect_104 4 rfl rfl ?_
              refine x_iadd_n (q := 107) C dX8_effect_106 rfl ?_
              refine x_topn ((a1 * 4 + v1) * 24 + (b1 * 4 + x1)) (by rw [Nat.mul_comm 24, Nat.mul_comm 4, Nat.mul_comm 4, Nat.add_assoc]) ?_
              refine x_istore (q := 109) (lv' := [(0, .ref (ad 0)), (1, .int (nI a1)), (2, .int (nI v1)), (3, .int (nI b1)), (4, .int (nI x1)), (5, .int e0), (6, .int (nI 1)), (7, .int (nI ((a1 * 4 + v1) * 24 + (b1 * 4 + x1))))]) C dX8_effect_107 (by decide) rfl rfl rfl ?_
              refine x_aload_n (q := 110) C dX8_effect_109 rfl 0 rfl rfl ?_
              refine xg_X8_joints (q := 113) C tfl_X8_29 dX8_effect_110 rfl ?_
              refine x_iload (q := 115) C dX8_effect_113 7 rfl rfl ?_
              refine xa_N6 (q := 116) C (by omega) dX8_effect_115 rfl ?_
              refine x_istore (q := 118) (lv' := [(0, .ref (ad 0)), (1, .int (nI a1)), (2, .int (nI v1)), (3, .int (nI b1)), (4, .int (nI x1)), (5, .int e0), (6, .int (nI 1)), (7, .int (nI ((a1 * 4 + v1) * 24 + (b1 * 4 + x1)))), (8, .int (P 10 ((a1 * 4 + v1) * 24 + (b1 * 4 + x1))))]) C dX8_effect_116 (by decide) rfl rfl rfl ?_
              refine x_aload_n (q := 119) C dX8_effect_118 rfl 0 rfl rfl ?_
              refine xg_X8_joints (q := 122) C tfl_X8_29 dX8_effect_119 rfl ?_
              refine x_iload (q := 124) C dX8_effect_122 7 rfl rfl ?_
              refine x_iload (q := 126) C dX8_effect_124 5 rfl rfl ?_
              refine xs_N6 (q := 127) C (by omega) dX8_effect_126 rfl ?_
              refine x_iload (q := 129) C dX8_effect_127 8 rfl rfl ?_
              exact x_iret C dX8_effect_129 ⟨by rw [Feff, if_pos ⟨hV6, c21⟩, if_neg c26, if_pos ⟨hV41, fa_of_nle c31⟩, cl_nI (by omega), cl_nI (by omega), cl_nI (by omega), cl_nI (by omega)], by rw [Geff, if_pos ⟨hV6, c21⟩, if_neg c26, if_pos ⟨hV41, fa_of_nle c31⟩, cl_nI (by omega), cl_nI (by omega), cl_nI (by omega), cl_nI (by omega)]⟩
            · exact absurd c62 c26

set_option maxRecDepth 100000 in
set_option maxHeartbeats 4000000 in
theorem c_X8_base (hD : ∀ P T, va_D A (wN ad cI cZ P T)) {P T : St} (x : Int32) : XMI l D (tyz cI cZ) (wN ad cI cZ) A yX8_base cX8_base 3 (some .int) rmX8_base [.ref (ad 0), .int x] P T (fun r P' _ => r = Fbase P x ∧ P' = Gbase P x) := by
  refine x_start_i (lv := [(0, .ref (ad 0)), (1, .int x)]) (own := RX8) (by decide) rfl hD (Nat.le_of_ble_eq_true rfl) rfl ?_
  intro p e s m args below meth c C
  refine x_iload_n (q := 1) C dX8_base_0 rfl 1 rfl rfl ?_
  refine x_i2l (q := 2) C dX8_base_1 rfl ?_
  refine x_ldc2 (q := 5) C tk_X8_76 dX8_base_2 rfl ?_
  refine x_ldc2 (q := 8) C tk_X8_78 dX8_base_5 rfl ?_
  refine x_Sf (q := 11) (As := [.long x.toInt64, .long ((-1000)), .long ((1000))]) (rest := []) C (c_X8_in hD x.toInt64 ((-1000)) ((1000)) ) xs_X8_in tst_X8_in tml_X8_50 (by decide) rfl rfl (Nat.le_of_ble_eq_true rfl) dX8_base_8 rfl ?_
  refine x_tope (bI (inR x (-1000) (nI 1000))) (bI_congr (inL_i (a := (-1000)) (b := (nI 1000)) (by decide) (by decide))) ?_
  refine x_if_ne_b (q := 14) (tgt := 18) C dX8_base_11 (by decide) rfl (fun c11 => ?_) (fun c11 => ?_)
  · refine x_aload_n (q := 19) C dX8_base_18 rfl 0 rfl rfl ?_
    refine xg_X8_base (q := 22) C tfl_X8_80 dX8_base_19 rfl ?_
    refine x_istore_n (q := 23) (lv' := [(0, .ref (ad 0)), (1, .int x), (2, .int (P 23 0))]) C dX8_base_22 rfl (by decide) rfl rfl rfl ?_
    refine x_aload_n (q := 24) C dX8_base_23 rfl 0 rfl rfl ?_
    refine x_iload_n (q := 25) C dX8_base_24 rfl 1 rfl rfl ?_
    refine xp_X8_base (q := 28) C tfl_X8_80 dX8_base_25 rfl ?_
    refine x_iload_n (q := 29) C dX8_base_28 rfl 2 rfl rfl ?_
    exact x_iret C dX8_base_29 ⟨if_t c11, if_t c11⟩
  · refine x_sipush (q := 17) (v := (-10000)) C dX8_base_14 (by decide) rfl ?_
    exact x_iret C dX8_base_17 ⟨if_f c11, if_f c11⟩

set_option maxRecDepth 100000 in
set_option maxHeartbeats 4000000 in
theorem c_X8_noise (hD : ∀ P T, va_D A (wN ad cI cZ P T)) {P T : St} (x : Int32) : XMI l D (tyz cI cZ) (wN ad cI cZ) A yX8_noise cX8_noise 3 (some .int) rmX8_noise [.ref (ad 0), .int x] P T (fun r P' _ => r = Fnoise P x ∧ P' = Gnoise P x) := by
  refine x_start_i (lv := [(0, .ref (ad 0)), (1, .int x)]) (own := RX8) (by decide) rfl hD (Nat.le_of_ble_eq_true rfl) rfl ?_
  intro p e s m args below meth c C
  refine x_iload_n (q := 1) C dX8_noise_0 rfl 1 rfl rfl ?_
  refine x_i2l (q := 2) C dX8_noise_1 rfl ?_
  refine x_lconst (q := 3) (v := 0) C dX8_noise_2 (by decide) rfl ?_
  refine x_ldc2 (q := 6) C tk_X8_83 dX8_noise_3 rfl ?_
  refine x_Sf (q := 9) (As := [.long x.toInt64, .long 0, .long ((50))]) (rest := []) C (c_X8_in hD x.toInt64 0 ((50)) ) xs_X8_in tst_X8_in tml_X8_50 (by decide) rfl rfl (Nat.le_of_ble_eq_true rfl) dX8_noise_6 rfl ?_
  refine x_tope (bI (inR x (nI 0) (nI 50))) (bI_congr (inL_i (a := (nI 0)) (b := (nI 50)) (by decide) (by decide))) ?_
  refine x_if_ne_b (q := 12) (tgt := 14) C dX8_noise_9 (by decide) rfl (fun c9 => ?_) (fun c9 => ?_)
  · refine x_aload_n (q := 15) C dX8_noise_14 rfl 0 rfl rfl ?_
    refine xg_X8_z (q := 18) C tfl_X8_85 dX8_noise_15 rfl ?_
    refine x_istore_n (q := 19) (lv' := [(0, .ref (ad 0)), (1, .int x), (2, .int (P 25 0))]) C dX8_noise_18 rfl (by decide) rfl rfl rfl ?_
    refine x_aload_n (q := 20) C dX8_noise_19 rfl 0 rfl rfl ?_
    refine x_iload_n (q := 21) C dX8_noise_20 rfl 1 rfl rfl ?_
    refine xp_X8_z (q := 24) C tfl_X8_85 dX8_noise_21 rfl ?_
    refine x_iload_n (q := 25) C dX8_noise_24 rfl 2 rfl rfl ?_
    exact x_iret C dX8_noise_25 ⟨if_t c9, if_t c9⟩
  · refine x_iconst (q := 13) (v := (-1)) C dX8_noise_12 (by decide) rfl ?_
    exact x_iret C dX8_noise_13 ⟨if_f c9, if_f c9⟩

set_option maxRecDepth 100000 in
set_option maxHeartbeats 4000000 in
theorem c_X8_seed (hD : ∀ P T, va_D A (wN ad cI cZ P T)) {P T : St} (x : Int32) : XMI l D (tyz cI cZ) (wN ad cI cZ) A yX8_seed cX8_seed 2 (some .int) rmX8_seed [.ref (ad 0), .int x] P T (fun r P' _ => r = Fseed x ∧ P' = Gseed P x) := by
  refine x_start_i (lv := [(0, .ref (ad 0)), (1, .int x)]) (own := RX8) (by decide) rfl hD (Nat.le_of_ble_eq_true rfl) rfl ?_
  intro p e s m args below meth c C
  refine x_iload_n (q := 1) C dX8_seed_0 rfl 1 rfl rfl ?_
  refine x_i2l (q := 2) C dX8_seed_1 rfl ?_
  refine x_lconst (q := 3) (v := 0) C dX8_seed_2 (by decide) rfl ?_
  refine x_ldc2 (q := 6) C tk_X8_88 dX8_seed_3 rfl ?_
  refine x_Sf (q := 9) (As := [.long x.toInt64, .long 0, .long ((1073741823))]) (rest := []) C (c_X8_in hD x.toInt64 0 ((1073741823)) ) xs_X8_in tst_X8_in tml_X8_50 (by decide) rfl rfl (Nat.le_of_ble_eq_true rfl) dX8_seed_6 rfl ?_
  refine x_tope (bI (inR x (nI 0) (nI 1073741823))) (bI_congr (inL_i (a := (nI 0)) (b := (nI 1073741823)) (by decide) (by decide))) ?_
  refine x_if_ne_b (q := 12) (tgt := 14) C dX8_seed_9 (by decide) rfl (fun c9 => ?_) (fun c9 => ?_)
  · refine x_aload_n (q := 15) C dX8_seed_14 rfl 0 rfl rfl ?_
    refine x_iload_n (q := 16) C dX8_seed_15 rfl 1 rfl rfl ?_
    refine xp_X8_seed (q := 19) C tfl_X8_32 dX8_seed_16 rfl ?_
    refine x_iconst (q := 20) (v := nI 0) C dX8_seed_19 (by decide) rfl ?_
    exact x_iret C dX8_seed_20 ⟨if_t c9, if_t c9⟩
  · refine x_iconst (q := 13) (v := (-1)) C dX8_seed_12 (by decide) rfl ?_
    exact x_iret C dX8_seed_13 ⟨if_f c9, if_f c9⟩

set_option maxRecDepth 100000 in
set_option maxHeartbeats 4000000 in
theorem c_X8_with (hD : ∀ P T, va_D A (wN ad cI cZ P T)) {P T : St} (ok : okN P) (x k v : Int32) : XMI l D (tyz cI cZ) (wN ad cI cZ) A yX8_with cX8_with 4 (some .int) rmX8_with [.ref (ad 0), .int x, .int k, .int v] P T (fun r P' _ => r = Fwith P x k v ∧ P' = P) := by
  have okc := okN_c ok
  have hk6 := okc_kn6 okc
  have hS144 := okc_S144 okc
  have hS1 := okc_S1 okc
  have hnr := okc_nr12 okc
  have hnt := okc_nt60 okc
  have hnz := okc_nz50 okc
  have hsd := okc_sdb okc
  have okk := okC_K okc
  refine x_start_i (lv := [(0, .ref (ad 0)), (1, .int x), (2, .int k), (3, .int v)]) (own := RX8) (by decide) rfl hD (Nat.le_of_ble_eq_true rfl) rfl ?_
  intro p e s m args below meth c C
  refine x_aload_n (q := 1) C dX8_with_0 rfl 0 rfl rfl ?_
  refine x_iload_n (q := 2) C dX8_with_1 rfl 1 rfl rfl ?_
  refine x_Vf (q := 5) (As := [.int x]) (rest := []) C (c_X8_isSetting hD ok x ) xs_X8_isSetting tim_X8_isSetting tsel_X8_isSetting tml_X8_98 (by decide) 0 rfl (ci := 8) rfl rfl rfl (Nat.le_of_ble_eq_true rfl) dX8_with_2 rfl ?_
  refine x_if_eq_b (q := 8) (tgt := 27) C dX8_with_5 (by decide) rfl (fun c5 => ?_) (fun c5 => ?_)
  · refine x_iconst (q := 28) (v := (-1)) C dX8_with_27 (by decide) rfl ?_
    exact x_iret C dX8_with_28 ⟨if_f (fun h => by first | exact c5 h.1 | exact c14 h.2), rfl⟩
  · have hS5 := c5
    obtain ⟨x1, hx1, rfl⟩ := isS_nat okc c5
    refine x_aload_n (q := 9) C dX8_with_8 rfl 0 rfl rfl ?_
    refine x_iload_n (q := 10) C dX8_with_9 rfl 2 rfl rfl ?_
    refine x_iload_n (q := 11) C dX8_with_10 rfl 3 rfl rfl ?_
    refine x_Vf (q := 14) (As := [.int k, .int v]) (rest := []) C (c_X8_isValue hD ok k v ) xs_X8_isValue tim_X8_isValue tsel_X8_isValue tml_X8_65 (by decide) 0 rfl (ci := 8) rfl rfl rfl (Nat.le_of_ble_eq_true rfl) dX8_with_11 rfl ?_
    refine x_if_eq_b (q := 17) (tgt := 27) C dX8_with_14 (by decide) rfl (fun c14 => ?_) (fun c14 => ?_)
    · refine x_iconst (q := 28) (v := (-1)) C dX8_with_27 (by decide) rfl ?_
      exact x_iret C dX8_with_28 ⟨if_f (fun h => by first | exact c5 h.1 | exact c14 h.2), rfl⟩
    · have hV14 := c14
      obtain ⟨a, b, ha, hb, rfl, rfl⟩ := isV_nat okc c14
      have hza := okc_sz2 okc ha
      refine x_aload_n (q := 18) C dX8_with_17 rfl 0 rfl rfl ?_
      refine x_iload_n (q := 19) C dX8_with_18 rfl 1 rfl rfl ?_
      refine x_iload_n (q := 20) C dX8_with_19 rfl 2 rfl rfl ?_
      refine x_iload_n (q := 21) C dX8_with_20 rfl 3 rfl rfl ?_
      refine x_Vf (q := 24) (As := [.int (nI x1), .int (nI a), .int (nI b)]) (rest := []) C (c_X8_put hD okk x1 a b (by omega) (by omega)) xs_X8_put tim_X8_put tsel_X8_put tml_X8_101 (by decide) 0 rfl (ci := 8) rfl rfl rfl (Nat.le_of_ble_eq_true rfl) dX8_with_21 rfl ?_
      refine x_goto (tgt := 28) C dX8_with_24 (by decide) ?_
      exact x_iret C dX8_with_28 ⟨by rw [Fwith, if_pos ⟨hS5, hV14⟩, cl_nI (by omega), cl_nI (by omega), cl_nI (by omega)], rfl⟩

set_option maxRecDepth 100000 in
set_option maxHeartbeats 4000000 in
theorem c_X8_value (hD : ∀ P T, va_D A (wN ad cI cZ P T)) {P T : St} (ok : okN P) (x k : Int32) : XMI l D (tyz cI cZ) (wN ad cI cZ) A yX8_value cX8_value 3 (some .int) rmX8_value [.ref (ad 0), .int x, .int k] P T (fun r P' _ => r = Fvalue P x k ∧ P' = P) := by
  have okc := okN_c ok
  have hk6 := okc_kn6 okc
  have hS144 := okc_S144 okc
  have hS1 := okc_S1 okc
  have hnr := okc_nr12 okc
  have hnt := okc_nt60 okc
  have hnz := okc_nz50 okc
  have hsd := okc_sdb okc
  have okk := okC_K okc
  refine x_start_i (lv := [(0, .ref (ad 0)), (1, .int x), (2, .int k)]) (own := RX8) (by decide) rfl hD (Nat.le_of_ble_eq_true rfl) rfl ?_
  intro p e s m args below meth c C
  refine x_aload_n (q := 1) C dX8_value_0 rfl 0 rfl rfl ?_
  refine x_iload_n (q := 2) C dX8_value_1 rfl 1 rfl rfl ?_
  refine x_Vf (q := 5) (As := [.int x]) (rest := []) C (c_X8_isSetting hD ok x ) xs_X8_isSetting tim_X8_isSetting tsel_X8_isSetting tml_X8_98 (by decide) 0 rfl (ci := 8) rfl rfl rfl (Nat.le_of_ble_eq_true rfl) dX8_value_2 rfl ?_
  refine x_if_eq_b (q := 8) (tgt := 25) C dX8_value_5 (by decide) rfl (fun c5 => ?_) (fun c5 => ?_)
  · refine x_iconst (q := 26) (v := (-1)) C dX8_value_25 (by decide) rfl ?_
    exact x_iret C dX8_value_26 ⟨if_f (fun h => by first | exact c5 h.1 | exact c13 h.2), rfl⟩
  · have hS5 := c5
    obtain ⟨x1, hx1, rfl⟩ := isS_nat okc c5
    refine x_aload_n (q := 9) C dX8_value_8 rfl 0 rfl rfl ?_
    refine x_iload_n (q := 10) C dX8_value_9 rfl 2 rfl rfl ?_
    refine x_Vf (q := 13) (As := [.int k]) (rest := []) C (c_X8_isKnob hD ok k ) xs_X8_isKnob tim_X8_isKnob tsel_X8_isKnob tml_X8_54 (by decide) 0 rfl (ci := 8) rfl rfl rfl (Nat.le_of_ble_eq_true rfl) dX8_value_10 rfl ?_
    refine x_if_eq_b (q := 16) (tgt := 25) C dX8_value_13 (by decide) rfl (fun c13 => ?_) (fun c13 => ?_)
    · refine x_iconst (q := 26) (v := (-1)) C dX8_value_25 (by decide) rfl ?_
      exact x_iret C dX8_value_26 ⟨if_f (fun h => by first | exact c5 h.1 | exact c13 h.2), rfl⟩
    · have hK13 := c13
      obtain ⟨a, ha, rfl⟩ := isK_nat okc c13
      refine x_aload_n (q := 17) C dX8_value_16 rfl 0 rfl rfl ?_
      refine x_iload_n (q := 18) C dX8_value_17 rfl 1 rfl rfl ?_
      refine x_iload_n (q := 19) C dX8_value_18 rfl 2 rfl rfl ?_
      refine x_Vf (q := 22) (As := [.int (nI x1), .int (nI a)]) (rest := []) C (c_X8_get hD okk x1 a (by omega) (by omega)) xs_X8_get tim_X8_get tsel_X8_get tml_X8_94 (by decide) 0 rfl (ci := 8) rfl rfl rfl (Nat.le_of_ble_eq_true rfl) dX8_value_19 rfl ?_
      refine x_goto (tgt := 26) C dX8_value_22 (by decide) ?_
      exact x_iret C dX8_value_26 ⟨by rw [Fvalue, if_pos ⟨hS5, hK13⟩, cl_nI (by omega), cl_nI (by omega)], rfl⟩

set_option maxRecDepth 100000 in
set_option maxHeartbeats 4000000 in
theorem c_X8_allowed (hD : ∀ P T, va_D A (wN ad cI cZ P T)) {P T : St} (ok : okN P) (x : Int32) : XMI l D (tyz cI cZ) (wN ad cI cZ) A yX8_allowed cX8_allowed 2 (some .int) rmX8_allowed [.ref (ad 0), .int x] P T (fun r P' _ => r = FallX (cX P) x ∧ P' = P) := by
  have okc := okN_c ok
  have hk6 := okc_kn6 okc
  have hS144 := okc_S144 okc
  have hS1 := okc_S1 okc
  have hnr := okc_nr12 okc
  have hnt := okc_nt60 okc
  have hnz := okc_nz50 okc
  have hsd := okc_sdb okc
  have okk := okC_K okc
  refine x_start_i (lv := [(0, .ref (ad 0)), (1, .int x)]) (own := RX8) (by decide) rfl hD (Nat.le_of_ble_eq_true rfl) rfl ?_
  intro p e s m args below meth c C
  refine x_aload_n (q := 1) C dX8_allowed_0 rfl 0 rfl rfl ?_
  refine x_iload_n (q := 2) C dX8_allowed_1 rfl 1 rfl rfl ?_
  refine x_Vf (q := 5) (As := [.int x]) (rest := []) C (c_X8_isSetting hD ok x ) xs_X8_isSetting tim_X8_isSetting tsel_X8_isSetting tml_X8_98 (by decide) 0 rfl (ci := 8) rfl rfl rfl (Nat.le_of_ble_eq_true rfl) dX8_allowed_2 rfl ?_
  refine x_if_ne_b (q := 8) (tgt := 12) C dX8_allowed_5 (by decide) rfl (fun c5 => ?_) (fun c5 => ?_)
  · have hS5 := c5
    obtain ⟨x1, hx1, rfl⟩ := isS_nat okc c5
    have hS5c : isS (cX P) (nI x1) := hS5
    refine x_aload_n (q := 13) C dX8_allowed_12 rfl 0 rfl rfl ?_
    refine x_iload_n (q := 14) C dX8_allowed_13 rfl 1 rfl rfl ?_
    refine x_Vf (q := 17) (As := [.int (nI x1)]) (rest := []) C (c_X8_isAllowed hD ok x1 (by omega)) xs_X8_isAllowed tim_X8_isAllowed tsel_X8_isAllowed tml_X8_105 (by decide) 0 rfl (ci := 8) rfl rfl rfl (Nat.le_of_ble_eq_true rfl) dX8_allowed_14 rfl ?_
    refine x_if_eq_b (q := 20) (tgt := 24) C dX8_allowed_17 (by decide) rfl (fun c17 => ?_) (fun c17 => ?_)
    · refine x_iconst (q := 25) (v := nI 0) C dX8_allowed_24 (by decide) rfl ?_
      exact x_iret C dX8_allowed_25 ⟨by rw [FallX, if_pos hS5c, cl_nI (by omega)]; exact bI_f c17, rfl⟩
    · refine x_iconst (q := 21) (v := nI 1) C dX8_allowed_20 (by decide) rfl ?_
      refine x_goto (tgt := 25) C dX8_allowed_21 (by decide) ?_
      exact x_iret C dX8_allowed_25 ⟨by rw [FallX, if_pos hS5c, cl_nI (by omega)]; exact bI_t c17, rfl⟩
  · refine x_iconst (q := 9) (v := (-1)) C dX8_allowed_8 (by decide) rfl ?_
    refine x_goto (tgt := 25) C dX8_allowed_9 (by decide) ?_
    exact x_iret C dX8_allowed_25 ⟨if_f c5, rfl⟩

set_option maxRecDepth 100000 in
set_option maxHeartbeats 4000000 in
theorem c_X8_book (hD : ∀ P T, va_D A (wN ad cI cZ P T)) {P T : St} (ok : okN P) : XMI l D (tyz cI cZ) (wN ad cI cZ) A yX8_book cX8_book 3 (some .int) rmX8_book [.ref (ad 0)] P T (fun r P' T' => r = nI (AL P (nS P)).length ∧ P' = P ∧ T' = T) := by
  have okc := okN_c ok
  have hk6 := okc_kn6 okc
  have hS144 := okc_S144 okc
  have hS1 := okc_S1 okc
  have hnr := okc_nr12 okc
  have hnt := okc_nt60 okc
  have hnz := okc_nz50 okc
  have hsd := okc_sdb okc
  have okk := okC_K okc
  refine x_start_i (lv := [(0, .ref (ad 0))]) (own := RX8) (by decide) rfl hD (Nat.le_of_ble_eq_true rfl) rfl ?_
  intro p e s m args below meth c C
  refine x_iconst (q := 1) (v := nI 0) C dX8_book_0 (by decide) rfl ?_
  refine x_istore_n (q := 2) (lv' := [(0, .ref (ad 0)), (1, .int (nI 0))]) C dX8_book_1 rfl (by decide) rfl rfl rfl ?_
  refine x_iconst (q := 3) (v := nI 0) C dX8_book_2 (by decide) rfl ?_
  refine x_istore_n (q := 4) (lv' := [(0, .ref (ad 0)), (1, .int (nI 0)), (2, .int (nI 0))]) C dX8_book_3 rfl (by decide) rfl rfl rfl ?_
  have L4 : ∀ (f1 : Nat) (x : Nat) (n : Nat), (x ≤ nS P) → (n = (AL P x).length) → nS P - x < f1 → XW p l e rmX8_book s m args below meth c D (wN ad cI cZ) A 3 (MQ below (XPI D (tyz cI cZ) (wN ad cI cZ) A (fun r P' T' => r = nI (AL P (nS P)).length ∧ P' = P ∧ T' = T)) args s 0 0 A) 4 [(0, .ref (ad 0)), (1, .int (nI n)), (2, .int (nI x))] [] P T := by
    intro f1
    induction f1 with
    | zero => intro x n hx hn hm; exact absurd hm (Nat.not_lt_zero _)
    | succ f1 ih4 =>
      intro x n hx hn hm4
      refine x_iload_n (q := 5) C dX8_book_4 rfl 2 rfl rfl ?_
      refine x_aload_n (q := 6) C dX8_book_5 rfl 0 rfl rfl ?_
      refine xg_X8_settings (q := 9) C tfl_X8_7 dX8_book_6 rfl ?_
      refine x_topn (nS P) (okc_S (P := P) okc) ?_
      refine x_icmp_ge_n (q := 12) (tgt := 34) C dX8_book_9 (by omega) (by omega) (by decide) rfl (fun c9 => ?_) (fun c9 => ?_)
      · refine x_iload_n (q := 35) C dX8_book_34 rfl 1 rfl rfl ?_
        exact x_iret C dX8_book_35 ⟨by rw [hn, show x = nS P by omega], rfl, rfl⟩
      · refine x_iload_n (q := 13) C dX8_book_12 rfl 1 rfl rfl ?_
        refine x_aload_n (q := 14) C dX8_book_13 rfl 0 rfl rfl ?_
        refine x_iload_n (q := 15) C dX8_book_14 rfl 2 rfl rfl ?_
        refine x_Vf (q := 18) (As := [.int (nI x)]) (rest := [.int (nI n)]) C (c_X8_isAllowed hD ok x (by omega)) xs_X8_isAllowed tim_X8_isAllowed tsel_X8_isAllowed tml_X8_105 (by decide) 0 rfl (ci := 8) rfl rfl rfl (Nat.le_of_ble_eq_true rfl) dX8_book_15 rfl ?_
        refine x_if_eq_b (q := 21) (tgt := 25) C dX8_book_18 (by decide) rfl (fun c18 => ?_) (fun c18 => ?_)
        · refine x_iconst (q := 26) (v := nI 0) C dX8_book_25 (by decide) rfl ?_
          refine x_iadd_n (q := 27) C dX8_book_26 rfl ?_
          refine x_namen (fun n2 hn2 => ?_)
          refine x_istore_n (q := 28) (lv' := [(0, .ref (ad 0)), (1, .int (nI n2)), (2, .int (nI x))]) C dX8_book_27 rfl (by decide) rfl rfl rfl ?_
          refine x_iinc (q := 31) (v := nI (x + 1)) (lv' := [(0, .ref (ad 0)), (1, .int (nI n2)), (2, .int (nI (x + 1)))]) C dX8_book_28 2 rfl (nI_add x 1) (by decide) rfl rfl rfl ?_
          refine x_goto (tgt := 4) C dX8_book_31 (by decide) ?_
          exact ih4 (x + 1) n2 (by omega) (by rw [hn2, hn]; first | (rw [AL_y c18, len_app]) | (rw [AL_n c18]; rfl)) (by omega)
        · refine x_iconst (q := 22) (v := nI 1) C dX8_book_21 (by decide) rfl ?_
          refine x_goto (tgt := 26) C dX8_book_22 (by decide) ?_
          refine x_iadd_n (q := 27) C dX8_book_26 rfl ?_
          refine x_namen (fun n3 hn3 => ?_)
          refine x_istore_n (q := 28) (lv' := [(0, .ref (ad 0)), (1, .int (nI n3)), (2, .int (nI x))]) C dX8_book_27 rfl (by decide) rfl rfl rfl ?_
          refine x_iinc (q := 31) (v := nI (x + 1)) (lv' := [(0, .ref (ad 0)), (1, .int (nI n3)), (2, .int (nI (x + 1)))]) C dX8_book_28 2 rfl (nI_add x 1) (by decide) rfl rfl rfl ?_
          refine x_goto (tgt := 4) C dX8_book_31 (by decide) ?_
          exact ih4 (x + 1) n3 (by omega) (by rw [hn3, hn]; first | (rw [AL_y c18, len_app]) | (rw [AL_n c18]; rfl)) (by omega)
  exact L4 _ 0 0 (Nat.zero_le _) rfl (Nat.lt_succ_self _)

set_option maxRecDepth 100000 in
set_option maxHeartbeats 4000000 in
theorem c_X8_worth (hD : ∀ P T, va_D A (wN ad cI cZ P T)) {P T : St} (ok : okN P) (x : Int32) : XMI l D (tyz cI cZ) (wN ad cI cZ) A yX8_worth cX8_worth 2 (some .int) rmX8_worth [.ref (ad 0), .int x] P T (fun r P' _ => r = Fworth P x ∧ P' = P) := by
  have okc := okN_c ok
  have hk6 := okc_kn6 okc
  have hS144 := okc_S144 okc
  have hS1 := okc_S1 okc
  have hnr := okc_nr12 okc
  have hnt := okc_nt60 okc
  have hnz := okc_nz50 okc
  have hsd := okc_sdb okc
  have okk := okC_K okc
  refine x_start_i (lv := [(0, .ref (ad 0)), (1, .int x)]) (own := RX8) (by decide) rfl hD (Nat.le_of_ble_eq_true rfl) rfl ?_
  intro p e s m args below meth c C
  refine x_aload_n (q := 1) C dX8_worth_0 rfl 0 rfl rfl ?_
  refine x_iload_n (q := 2) C dX8_worth_1 rfl 1 rfl rfl ?_
  refine x_Vf (q := 5) (As := [.int x]) (rest := []) C (c_X8_isSetting hD ok x ) xs_X8_isSetting tim_X8_isSetting tsel_X8_isSetting tml_X8_98 (by decide) 0 rfl (ci := 8) rfl rfl rfl (Nat.le_of_ble_eq_true rfl) dX8_worth_2 rfl ?_
  refine x_if_eq_b (q := 8) (tgt := 16) C dX8_worth_5 (by decide) rfl (fun c5 => ?_) (fun c5 => ?_)
  · refine x_ldc (q := 18) C tk_X8_111 dX8_worth_16 rfl ?_
    exact x_iret C dX8_worth_18 ⟨if_f c5, rfl⟩
  · have hS5 := c5
    obtain ⟨x1, hx1, rfl⟩ := isS_nat okc c5
    refine x_aload_n (q := 9) C dX8_worth_8 rfl 0 rfl rfl ?_
    refine x_iload_n (q := 10) C dX8_worth_9 rfl 1 rfl rfl ?_
    refine x_Vf (q := 13) (As := [.int (nI x1)]) (rest := []) C (c_X8_worthOf hD okk x1 (by omega)) xs_X8_worthOf tim_X8_worthOf tsel_X8_worthOf tml_X8_108 (by decide) 0 rfl (ci := 8) rfl rfl rfl (Nat.le_of_ble_eq_true rfl) dX8_worth_10 rfl ?_
    refine x_goto (tgt := 18) C dX8_worth_13 (by decide) ?_
    exact x_iret C dX8_worth_18 ⟨by rw [Fworth, if_pos hS5, cl_nI (by omega)], rfl⟩

set_option maxRecDepth 100000 in
set_option maxHeartbeats 4000000 in
theorem c_X8_best (hD : ∀ P T, va_D A (wN ad cI cZ P T)) {P T : St} (ok : okN P) (y : Int32) : XMI l D (tyz cI cZ) (wN ad cI cZ) A yX8_best cX8_best 4 (some .int) rmX8_best [.ref (ad 0), .int y] P T (fun r P' _ => r = FbestX (cX P) y ∧ P' = P) := by
  have okc := okN_c ok
  have hk6 := okc_kn6 okc
  have hS144 := okc_S144 okc
  have hS1 := okc_S1 okc
  have hnr := okc_nr12 okc
  have hnt := okc_nt60 okc
  have hnz := okc_nz50 okc
  have hsd := okc_sdb okc
  have okk := okC_K okc
  refine x_start_i (lv := [(0, .ref (ad 0)), (1, .int y)]) (own := RX8) (by decide) rfl hD (Nat.le_of_ble_eq_true rfl) rfl ?_
  intro p e s m args below meth c C
  refine x_iload_n (q := 1) C dX8_best_0 rfl 1 rfl rfl ?_
  refine x_i2l (q := 2) C dX8_best_1 rfl ?_
  refine x_lconst (q := 3) (v := 0) C dX8_best_2 (by decide) rfl ?_
  refine x_lconst (q := 4) (v := 1) C dX8_best_3 (by decide) rfl ?_
  refine x_Sf (q := 7) (As := [.long y.toInt64, .long 0, .long 1]) (rest := []) C (c_X8_in hD y.toInt64 0 1 ) xs_X8_in tst_X8_in tml_X8_50 (by decide) rfl rfl (Nat.le_of_ble_eq_true rfl) dX8_best_4 rfl ?_
  refine x_tope (bI (inR y (nI 0) (nI 1))) (bI_congr (inL_i (a := (nI 0)) (b := (nI 1)) (by decide) (by decide))) ?_
  refine x_if_ne_b (q := 10) (tgt := 13) C dX8_best_7 (by decide) rfl (fun c7 => ?_) (fun c7 => ?_)
  · refine x_iconst (q := 14) (v := (-1)) C dX8_best_13 (by decide) rfl ?_
    refine x_istore_n (q := 15) (lv' := [(0, .ref (ad 0)), (1, .int y), (2, .int ((-1)))]) C dX8_best_14 rfl (by decide) rfl rfl rfl ?_
    refine x_iconst (q := 16) (v := nI 0) C dX8_best_15 (by decide) rfl ?_
    refine x_istore_n (q := 17) (lv' := [(0, .ref (ad 0)), (1, .int y), (2, .int ((-1))), (3, .int (nI 0))]) C dX8_best_16 rfl (by decide) rfl rfl rfl ?_
    have L17 : ∀ (f1 : Nat) (x : Nat) (z : Int32), (x ≤ nS P) → (z = nov1 (AL P x) (no1 P x)) → nS P - x < f1 → XW p l e rmX8_best s m args below meth c D (wN ad cI cZ) A 4 (MQ below (XPI D (tyz cI cZ) (wN ad cI cZ) A (fun r P' _ => r = FbestX (cX P) y ∧ P' = P)) args s 0 0 A) 17 [(0, .ref (ad 0)), (1, .int y), (2, .int z), (3, .int (nI x))] [] P T := by
      intro f1
      induction f1 with
      | zero => intro x z hx hz hm; exact absurd hm (Nat.not_lt_zero _)
      | succ f1 ih17 =>
        intro x z hx hz hm17
        refine x_iload_n (q := 18) C dX8_best_17 rfl 3 rfl rfl ?_
        refine x_aload_n (q := 19) C dX8_best_18 rfl 0 rfl rfl ?_
        refine xg_X8_settings (q := 22) C tfl_X8_7 dX8_best_19 rfl ?_
        refine x_topn (nS P) (okc_S (P := P) okc) ?_
        refine x_icmp_ge_n (q := 25) (tgt := 62) C dX8_best_22 (by omega) (by omega) (by decide) rfl (fun c22 => ?_) (fun c22 => ?_)
        · refine x_iload_n (q := 63) C dX8_best_62 rfl 1 rfl rfl ?_
          refine x_if_ne (q := 66) (tgt := 83) C dX8_best_63 (by decide) rfl (fun c63 => ?_) (fun c63 => ?_)
          · refine x_iload_n (q := 84) C dX8_best_83 rfl 2 rfl rfl ?_
            refine x_if_ge (q := 87) (tgt := 92) C dX8_best_84 (by decide) rfl (fun c84 => ?_) (fun c84 => ?_)
            · have hb1 : y = nI 1 := one_of c7 c63
              have hxe : x = nS P := by omega
              rw [hxe] at hz
              have hLb := AL_b (P := P) (n := nS P) (by omega)
              have hjb : ∀ j, no1 P (nS P) = some j → j < (AL P (nS P)).length := fun j hj => nxo_lt hj
              rw [hz] at c84
              obtain ⟨j, ho⟩ := opt_some (fun h => absurd c84 (Int32.not_le.mpr ((nov1_lt hLb hjb).mpr h)))
              have hjx := hLb _ (getD_mem (hjb j ho))
              rw [hz, ho]
              rw [show nov1 (AL P (nS P)) (some j) = nI ((AL P (nS P)).getD j 0) from rfl]
              refine x_iload_n (q := 93) C dX8_best_92 rfl 2 rfl rfl ?_
              exact x_iret C dX8_best_93 ⟨by rw [FbestX, if_pos c7, if_pos hb1, show bso (cX P) (lsA (cX P)).length = some j from ho]; rfl, rfl⟩
            · have hb1 : y = nI 1 := one_of c7 c63
              have hxe : x = nS P := by omega
              rw [hxe] at hz
              have hLb := AL_b (P := P) (n := nS P) (by omega)
              have hjb : ∀ j, no1 P (nS P) = some j → j < (AL P (nS P)).length := fun j hj => nxo_lt hj
              rw [hz] at c84
              have ho0 := (nov1_lt hLb hjb).mp (Int32.not_le.mp c84)
              refine x_bipush (q := 89) (v := (-4)) C dX8_best_87 (by decide) rfl ?_
              refine x_goto (tgt := 93) C dX8_best_89 (by decide) ?_
              exact x_iret C dX8_best_93 ⟨by rw [FbestX, if_pos c7, if_pos hb1, show bso (cX P) (lsA (cX P)).length = none from ho0]; rfl, rfl⟩
          · refine x_iload_n (q := 67) C dX8_best_66 rfl 2 rfl rfl ?_
            refine x_if_ge (q := 70) (tgt := 75) C dX8_best_67 (by decide) rfl (fun c67 => ?_) (fun c67 => ?_)
            · have hxe : x = nS P := by omega
              rw [hxe] at hz
              have hLb := AL_b (P := P) (n := nS P) (by omega)
              have hjb : ∀ j, no1 P (nS P) = some j → j < (AL P (nS P)).length := fun j hj => nxo_lt hj
              rw [hz] at c67
              obtain ⟨j, ho⟩ := opt_some (fun h => absurd c67 (Int32.not_le.mpr ((nov1_lt hLb hjb).mpr h)))
              have hjx := hLb _ (getD_mem (hjb j ho))
              rw [hz, ho]
              rw [show nov1 (AL P (nS P)) (some j) = nI ((AL P (nS P)).getD j 0) from rfl]
              refine x_aload_n (q := 76) C dX8_best_75 rfl 0 rfl rfl ?_
              refine x_iload_n (q := 77) C dX8_best_76 rfl 2 rfl rfl ?_
              refine x_Vf (q := 80) (As := [.int (nI ((AL P (nS P)).getD j 0))]) (rest := []) C (c_X8_worthOf hD okk ((AL P (nS P)).getD j 0) (by omega)) xs_X8_worthOf tim_X8_worthOf tsel_X8_worthOf tml_X8_108 (by decide) 0 rfl (ci := 8) rfl rfl rfl (Nat.le_of_ble_eq_true rfl) dX8_best_77 rfl ?_
              refine x_goto (tgt := 93) C dX8_best_80 (by decide) ?_
              exact x_iret C dX8_best_93 ⟨by rw [FbestX, if_pos c7, if_neg (fun h => by rw [h] at c63; exact absurd c63 (by decide)), show bso (cX P) (lsA (cX P)).length = some j from ho]; rfl, rfl⟩
            · have hxe : x = nS P := by omega
              rw [hxe] at hz
              have hLb := AL_b (P := P) (n := nS P) (by omega)
              have hjb : ∀ j, no1 P (nS P) = some j → j < (AL P (nS P)).length := fun j hj => nxo_lt hj
              rw [hz] at c67
              have ho0 := (nov1_lt hLb hjb).mp (Int32.not_le.mp c67)
              refine x_ldc (q := 72) C tk_X8_111 dX8_best_70 rfl ?_
              refine x_goto (tgt := 93) C dX8_best_72 (by decide) ?_
              exact x_iret C dX8_best_93 ⟨by rw [FbestX, if_pos c7, if_neg (fun h => by rw [h] at c63; exact absurd c63 (by decide)), show bso (cX P) (lsA (cX P)).length = none from ho0], rfl⟩
        · refine x_aload_n (q := 26) C dX8_best_25 rfl 0 rfl rfl ?_
          refine x_iload_n (q := 27) C dX8_best_26 rfl 3 rfl rfl ?_
          refine x_Vf (q := 30) (As := [.int (nI x)]) (rest := []) C (c_X8_isAllowed hD ok x (by omega)) xs_X8_isAllowed tim_X8_isAllowed tsel_X8_isAllowed tml_X8_105 (by decide) 0 rfl (ci := 8) rfl rfl rfl (Nat.le_of_ble_eq_true rfl) dX8_best_27 rfl ?_
          refine x_if_eq_b (q := 33) (tgt := 54) C dX8_best_30 (by decide) rfl (fun c30 => ?_) (fun c30 => ?_)
          · refine x_iload_n (q := 55) C dX8_best_54 rfl 2 rfl rfl ?_
            refine x_istore_n (q := 56) (lv' := [(0, .ref (ad 0)), (1, .int y), (2, .int z), (3, .int (nI x))]) C dX8_best_55 rfl (by decide) rfl rfl rfl ?_
            refine x_iinc (q := 59) (v := nI (x + 1)) (lv' := [(0, .ref (ad 0)), (1, .int y), (2, .int z), (3, .int (nI (x + 1)))]) C dX8_best_56 3 rfl (nI_add x 1) (by decide) rfl rfl rfl ?_
            refine x_goto (tgt := 17) C dX8_best_59 (by decide) ?_
            exact ih17 (x + 1) z (by omega) (by rw [hz, no1, no1, AL_n c30]) (by omega)
          · refine x_iload_n (q := 34) C dX8_best_33 rfl 2 rfl rfl ?_
            refine x_if_lt (q := 37) (tgt := 50) C dX8_best_34 (by decide) rfl (fun c34 => ?_) (fun c34 => ?_)
            · have hLb := AL_b (P := P) (n := x) (by omega)
              have hjb : ∀ j, no1 P x = some j → j < (AL P x).length := fun j hj => nxo_lt hj
              rw [hz] at c34
              have ho0 := (nov1_lt hLb hjb).mp c34
              refine x_iload_n (q := 51) C dX8_best_50 rfl 3 rfl rfl ?_
              refine x_goto (tgt := 55) C dX8_best_51 (by decide) ?_
              refine x_istore_n (q := 56) (lv' := [(0, .ref (ad 0)), (1, .int y), (2, .int (nI x)), (3, .int (nI x))]) C dX8_best_55 rfl (by decide) rfl rfl rfl ?_
              refine x_iinc (q := 59) (v := nI (x + 1)) (lv' := [(0, .ref (ad 0)), (1, .int y), (2, .int (nI x)), (3, .int (nI (x + 1)))]) C dX8_best_56 3 rfl (nI_add x 1) (by decide) rfl rfl rfl ?_
              refine x_goto (tgt := 17) C dX8_best_59 (by decide) ?_
              exact ih17 (x + 1) _ (by omega) (by rw [no1, AL_y c30, nxo_push (g := fun y => wo P y)]; first | (rw [show nxo (fun i => wo P ((AL P x).getD i 0)) (-2147483648) (AL P x).length = none from ho0]; dsimp only; rw [if_pos (mi_le _)]; exact (congrArg nI (getD_last _ _)).symm) | (rw [show nxo (fun i => wo P ((AL P x).getD i 0)) (-2147483648) (AL P x).length = some j from ho]; dsimp only; rw [if_pos ⟨mi_le _, fa_of_nle c47⟩]; exact (congrArg nI (getD_last _ _)).symm)) (by omega)
            · have hLb := AL_b (P := P) (n := x) (by omega)
              have hjb : ∀ j, no1 P x = some j → j < (AL P x).length := fun j hj => nxo_lt hj
              rw [hz] at c34
              obtain ⟨j, ho⟩ := opt_some (fun h => c34 ((nov1_lt hLb hjb).mpr h))
              have hjl := hjb j ho
              have hjx := hLb _ (getD_mem hjl)
              rw [hz, ho]
              refine x_aload_n (q := 38) C dX8_best_37 rfl 0 rfl rfl ?_
              refine x_iload_n (q := 39) C dX8_best_38 rfl 3 rfl rfl ?_
              refine x_Vf (q := 42) (As := [.int (nI x)]) (rest := []) C (c_X8_worthOf hD okk x (by omega)) xs_X8_worthOf tim_X8_worthOf tsel_X8_worthOf tml_X8_108 (by decide) 0 rfl (ci := 8) rfl rfl rfl (Nat.le_of_ble_eq_true rfl) dX8_best_39 rfl ?_
              refine x_aload_n (q := 43) C dX8_best_42 rfl 0 rfl rfl ?_
              refine x_iload_n (q := 44) C dX8_best_43 rfl 2 rfl rfl ?_
              refine x_topn ((AL P x).getD j 0) rfl ?_
              refine x_Vf (q := 47) (As := [.int (nI ((AL P x).getD j 0))]) (rest := [.int (wo P x)]) C (c_X8_worthOf hD okk ((AL P x).getD j 0) (by omega)) xs_X8_worthOf tim_X8_worthOf tsel_X8_worthOf tml_X8_108 (by decide) 0 rfl (ci := 8) rfl rfl rfl (Nat.le_of_ble_eq_true rfl) dX8_best_44 rfl ?_
              refine x_icmp_le (q := 50) (tgt := 54) C dX8_best_47 (by decide) rfl (fun c47 => ?_) (fun c47 => ?_)
              · refine x_iload_n (q := 55) C dX8_best_54 rfl 2 rfl rfl ?_
                refine x_istore_n (q := 56) (lv' := [(0, .ref (ad 0)), (1, .int y), (2, .int (nov1 (AL P x) (some j))), (3, .int (nI x))]) C dX8_best_55 rfl (by decide) rfl rfl rfl ?_
                refine x_iinc (q := 59) (v := nI (x + 1)) (lv' := [(0, .ref (ad 0)), (1, .int y), (2, .int (nov1 (AL P x) (some j))), (3, .int (nI (x + 1)))]) C dX8_best_56 3 rfl (nI_add x 1) (by decide) rfl rfl rfl ?_
                refine x_goto (tgt := 17) C dX8_best_59 (by decide) ?_
                exact ih17 (x + 1) _ (by omega) (by rw [no1, AL_y c30, nxo_push (g := fun y => wo P y)]; rw [show nxo (fun i => wo P ((AL P x).getD i 0)) (-2147483648) (AL P x).length = some j from ho]; dsimp only; rw [if_neg (fun h => absurd h.2 (Int32.not_lt.mpr c47)), nov1_app hjl]) (by omega)
              · refine x_iload_n (q := 51) C dX8_best_50 rfl 3 rfl rfl ?_
                refine x_goto (tgt := 55) C dX8_best_51 (by decide) ?_
                refine x_istore_n (q := 56) (lv' := [(0, .ref (ad 0)), (1, .int y), (2, .int (nI x)), (3, .int (nI x))]) C dX8_best_55 rfl (by decide) rfl rfl rfl ?_
                refine x_iinc (q := 59) (v := nI (x + 1)) (lv' := [(0, .ref (ad 0)), (1, .int y), (2, .int (nI x)), (3, .int (nI (x + 1)))]) C dX8_best_56 3 rfl (nI_add x 1) (by decide) rfl rfl rfl ?_
                refine x_goto (tgt := 17) C dX8_best_59 (by decide) ?_
                exact ih17 (x + 1) _ (by omega) (by rw [no1, AL_y c30, nxo_push (g := fun y => wo P y)]; first | (rw [show nxo (fun i => wo P ((AL P x).getD i 0)) (-2147483648) (AL P x).length = none from ho0]; dsimp only; rw [if_pos (mi_le _)]; exact (congrArg nI (getD_last _ _)).symm) | (rw [show nxo (fun i => wo P ((AL P x).getD i 0)) (-2147483648) (AL P x).length = some j from ho]; dsimp only; rw [if_pos ⟨mi_le _, fa_of_nle c47⟩]; exact (congrArg nI (getD_last _ _)).symm)) (by omega)
    exact L17 _ 0 _ (Nat.zero_le _) rfl (Nat.lt_succ_self _)
  · refine x_ldc (q := 12) C tk_X8_112 dX8_best_10 rfl ?_
    exact x_iret C dX8_best_12 ⟨if_f c7, rfl⟩

set_option maxRecDepth 100000 in
set_option maxHeartbeats 4000000 in
theorem c_X8_floor (hD : ∀ P T, va_D A (wN ad cI cZ P T)) {P T : St} (ok : okN P) (x : Nat) (hx : x < 2 ^ 31) : XMI l D (tyz cI cZ) (wN ad cI cZ) A yX8_floor cX8_floor 5 (some .int) rmX8_floor [.ref (ad 0), .int (nI x)] P T (fun r P' T' => r = flX P x (nt P) ∧ P' = P ∧ T' = T) := by
  have okc := okN_c ok
  have hk6 := okc_kn6 okc
  have hS144 := okc_S144 okc
  have hS1 := okc_S1 okc
  have hnr := okc_nr12 okc
  have hnt := okc_nt60 okc
  have hnz := okc_nz50 okc
  have hsd := okc_sdb okc
  have okk := okC_K okc
  refine x_start_i (lv := [(0, .ref (ad 0)), (1, .int (nI x))]) (own := RX8) (by decide) rfl hD (Nat.le_of_ble_eq_true rfl) rfl ?_
  intro p e s m args below meth c C
  refine x_ldc (q := 2) C tk_X8_123 dX8_floor_0 rfl ?_
  refine x_istore_n (q := 3) (lv' := [(0, .ref (ad 0)), (1, .int (nI x)), (2, .int ((-1000000)))]) C dX8_floor_2 rfl (by decide) rfl rfl rfl ?_
  refine x_iconst (q := 4) (v := nI 0) C dX8_floor_3 (by decide) rfl ?_
  refine x_istore_n (q := 5) (lv' := [(0, .ref (ad 0)), (1, .int (nI x)), (2, .int ((-1000000))), (3, .int (nI 0))]) C dX8_floor_4 rfl (by decide) rfl rfl rfl ?_
  have L5 : ∀ (f1 : Nat) (i : Nat) (z : Int32), (i ≤ nt P) → (z = flX P x i) → nt P - i < f1 → XW p l e rmX8_floor s m args below meth c D (wN ad cI cZ) A 5 (MQ below (XPI D (tyz cI cZ) (wN ad cI cZ) A (fun r P' T' => r = flX P x (nt P) ∧ P' = P ∧ T' = T)) args s 0 0 A) 5 [(0, .ref (ad 0)), (1, .int (nI x)), (2, .int z), (3, .int (nI i))] [] P T := by
    intro f1
    induction f1 with
    | zero => intro i z hi hz hm; exact absurd hm (Nat.not_lt_zero _)
    | succ f1 ih5 =>
      intro i z hi hz hm5
      refine x_iload_n (q := 6) C dX8_floor_5 rfl 3 rfl rfl ?_
      refine x_aload_n (q := 7) C dX8_floor_6 rfl 0 rfl rfl ?_
      refine xg_X8_trials (q := 10) C tfl_X8_62 dX8_floor_7 rfl ?_
      refine x_topn (nt P) (okc_nt (P := P) okc) ?_
      refine x_icmp_ge_n (q := 13) (tgt := 61) C dX8_floor_10 (by omega) (by omega) (by decide) rfl (fun c10 => ?_) (fun c10 => ?_)
      · refine x_iload_n (q := 62) C dX8_floor_61 rfl 2 rfl rfl ?_
        exact x_iret C dX8_floor_62 ⟨by rw [hz, show i = nt P by omega], rfl, rfl⟩
      · have htS := okc_txS okc (i := i) (by omega)
        refine x_aload_n (q := 14) C dX8_floor_13 rfl 0 rfl rfl ?_
        refine xg_X8_reads (q := 17) C tfl_X8_38 dX8_floor_14 rfl ?_
        refine x_iload_n (q := 18) C dX8_floor_17 rfl 3 rfl rfl ?_
        refine xa_N8 (q := 19) C (by omega) dX8_floor_18 rfl ?_
        refine x_aload_n (q := 20) C dX8_floor_19 rfl 0 rfl rfl ?_
        refine xg_X8_z (q := 23) C tfl_X8_85 dX8_floor_20 rfl ?_
        refine x_topn (nz P) (okc_nz (P := P) okc) ?_
        refine x_isub (q := 24) C dX8_floor_23 rfl ?_
        refine x_aload_n (q := 25) C dX8_floor_24 rfl 0 rfl rfl ?_
        refine x_iload_n (q := 26) C dX8_floor_25 rfl 1 rfl rfl ?_
        refine x_aload_n (q := 27) C dX8_floor_26 rfl 0 rfl rfl ?_
        refine xg_X8_tried (q := 30) C tfl_X8_35 dX8_floor_27 rfl ?_
        refine x_iload_n (q := 31) C dX8_floor_30 rfl 3 rfl rfl ?_
        refine xa_N7 (q := 32) C (by omega) dX8_floor_31 rfl ?_
        refine x_topn (tx P i) (okc_tx (P := P) okc (by omega)) ?_
        refine x_Vf (q := 35) (As := [.int (nI x), .int (nI (tx P i))]) (rest := [.int ((P 13 i) - (nI (nz P)))]) C (c_X8_off hD ok x (tx P i) (by omega) (by omega)) xs_X8_off tim_X8_off tsel_X8_off tml_X8_124 (by decide) 0 rfl (ci := 8) rfl rfl rfl (Nat.le_of_ble_eq_true rfl) dX8_floor_32 rfl ?_
        refine x_isub (q := 36) C dX8_floor_35 rfl ?_
        refine x_topi (fun z2 hz2 => ?_)
        refine x_istore (q := 38) (lv' := [(0, .ref (ad 0)), (1, .int (nI x)), (2, .int z), (3, .int (nI i)), (4, .int z2)]) C dX8_floor_36 (by decide) rfl rfl rfl ?_
        refine x_iload_n (q := 39) C dX8_floor_38 rfl 3 rfl rfl ?_
        refine x_if_eq_n (q := 42) (tgt := 48) C dX8_floor_39 (by omega) (by decide) rfl (fun c39 => ?_) (fun c39 => ?_)
        · refine x_iload (q := 50) C dX8_floor_48 4 rfl rfl ?_
          refine x_goto (tgt := 54) C dX8_floor_50 (by decide) ?_
          refine x_istore_n (q := 55) (lv' := [(0, .ref (ad 0)), (1, .int (nI x)), (2, .int z2), (3, .int (nI i)), (4, .int z2)]) C dX8_floor_54 rfl (by decide) rfl rfl rfl ?_
          refine x_iinc (q := 58) (v := nI (i + 1)) (lv' := [(0, .ref (ad 0)), (1, .int (nI x)), (2, .int z2), (3, .int (nI (i + 1))), (4, .int z2)]) C dX8_floor_55 3 rfl (nI_add i 1) (by decide) rfl rfl rfl ?_
          refine x_goto (tgt := 5) C dX8_floor_58 (by decide) ?_
          refine x_lv [0, 1, 2, 3] rfl ?_
          exact ih5 (i + 1) z2 (by omega) (by first | (obtain rfl : i = 0 := c39; rw [hz2, flv_eq okc]; exact (fl_0 okc x (by omega)).symm) | (rw [flX, ← flv_eq okc, ← hz2, ← hz]; rw [mx, if_pos (fa_of_nle c45)])) (by omega)
        · refine x_iload (q := 44) C dX8_floor_42 4 rfl rfl ?_
          refine x_iload_n (q := 45) C dX8_floor_44 rfl 2 rfl rfl ?_
          refine x_icmp_le (q := 48) (tgt := 53) C dX8_floor_45 (by decide) rfl (fun c45 => ?_) (fun c45 => ?_)
          · refine x_iload_n (q := 54) C dX8_floor_53 rfl 2 rfl rfl ?_
            refine x_istore_n (q := 55) (lv' := [(0, .ref (ad 0)), (1, .int (nI x)), (2, .int z), (3, .int (nI i)), (4, .int z2)]) C dX8_floor_54 rfl (by decide) rfl rfl rfl ?_
            refine x_iinc (q := 58) (v := nI (i + 1)) (lv' := [(0, .ref (ad 0)), (1, .int (nI x)), (2, .int z), (3, .int (nI (i + 1))), (4, .int z2)]) C dX8_floor_55 3 rfl (nI_add i 1) (by decide) rfl rfl rfl ?_
            refine x_goto (tgt := 5) C dX8_floor_58 (by decide) ?_
            refine x_lv [0, 1, 2, 3] rfl ?_
            exact ih5 (i + 1) z (by omega) (by rw [hz, flX, ← flv_eq okc, ← hz2]; rw [← hz, mx, if_neg (Int32.not_lt.mpr c45)]) (by omega)
          · refine x_iload (q := 50) C dX8_floor_48 4 rfl rfl ?_
            refine x_goto (tgt := 54) C dX8_floor_50 (by decide) ?_
            refine x_istore_n (q := 55) (lv' := [(0, .ref (ad 0)), (1, .int (nI x)), (2, .int z2), (3, .int (nI i)), (4, .int z2)]) C dX8_floor_54 rfl (by decide) rfl rfl rfl ?_
            refine x_iinc (q := 58) (v := nI (i + 1)) (lv' := [(0, .ref (ad 0)), (1, .int (nI x)), (2, .int z2), (3, .int (nI (i + 1))), (4, .int z2)]) C dX8_floor_55 3 rfl (nI_add i 1) (by decide) rfl rfl rfl ?_
            refine x_goto (tgt := 5) C dX8_floor_58 (by decide) ?_
            refine x_lv [0, 1, 2, 3] rfl ?_
            exact ih5 (i + 1) z2 (by omega) (by first | (obtain rfl : i = 0 := c39; rw [hz2, flv_eq okc]; exact (fl_0 okc x (by omega)).symm) | (rw [flX, ← flv_eq okc, ← hz2, ← hz]; rw [mx, if_pos (fa_of_nle c45)])) (by omega)
  exact L5 _ 0 _ (Nat.zero_le _) rfl (Nat.lt_succ_self _)

set_option maxRecDepth 100000 in
set_option maxHeartbeats 4000000 in
theorem c_X8_roof (hD : ∀ P T, va_D A (wN ad cI cZ P T)) {P T : St} (ok : okN P) (x : Nat) (hx : x < 2 ^ 31) : XMI l D (tyz cI cZ) (wN ad cI cZ) A yX8_roof cX8_roof 5 (some .int) rmX8_roof [.ref (ad 0), .int (nI x)] P T (fun r P' T' => r = rfX P x (nt P) ∧ P' = P ∧ T' = T) := by
  have okc := okN_c ok
  have hk6 := okc_kn6 okc
  have hS144 := okc_S144 okc
  have hS1 := okc_S1 okc
  have hnr := okc_nr12 okc
  have hnt := okc_nt60 okc
  have hnz := okc_nz50 okc
  have hsd := okc_sdb okc
  have okk := okC_K okc
  refine x_start_i (lv := [(0, .ref (ad 0)), (1, .int (nI x))]) (own := RX8) (by decide) rfl hD (Nat.le_of_ble_eq_true rfl) rfl ?_
  intro p e s m args below meth c C
  refine x_ldc (q := 2) C tk_X8_127 dX8_roof_0 rfl ?_
  refine x_topn (1000000) (by decide) ?_
  refine x_istore_n (q := 3) (lv' := [(0, .ref (ad 0)), (1, .int (nI x)), (2, .int (nI 1000000))]) C dX8_roof_2 rfl (by decide) rfl rfl rfl ?_
  refine x_iconst (q := 4) (v := nI 0) C dX8_roof_3 (by decide) rfl ?_
  refine x_istore_n (q := 5) (lv' := [(0, .ref (ad 0)), (1, .int (nI x)), (2, .int (nI 1000000)), (3, .int (nI 0))]) C dX8_roof_4 rfl (by decide) rfl rfl rfl ?_
  have L5 : ∀ (f1 : Nat) (i : Nat) (z : Int32), (i ≤ nt P) → (z = rfX P x i) → nt P - i < f1 → XW p l e rmX8_roof s m args below meth c D (wN ad cI cZ) A 5 (MQ below (XPI D (tyz cI cZ) (wN ad cI cZ) A (fun r P' T' => r = rfX P x (nt P) ∧ P' = P ∧ T' = T)) args s 0 0 A) 5 [(0, .ref (ad 0)), (1, .int (nI x)), (2, .int z), (3, .int (nI i))] [] P T := by
    intro f1
    induction f1 with
    | zero => intro i z hi hz hm; exact absurd hm (Nat.not_lt_zero _)
    | succ f1 ih5 =>
      intro i z hi hz hm5
      refine x_iload_n (q := 6) C dX8_roof_5 rfl 3 rfl rfl ?_
      refine x_aload_n (q := 7) C dX8_roof_6 rfl 0 rfl rfl ?_
      refine xg_X8_trials (q := 10) C tfl_X8_62 dX8_roof_7 rfl ?_
      refine x_topn (nt P) (okc_nt (P := P) okc) ?_
      refine x_icmp_ge_n (q := 13) (tgt := 61) C dX8_roof_10 (by omega) (by omega) (by decide) rfl (fun c10 => ?_) (fun c10 => ?_)
      · refine x_iload_n (q := 62) C dX8_roof_61 rfl 2 rfl rfl ?_
        exact x_iret C dX8_roof_62 ⟨by rw [hz, show i = nt P by omega], rfl, rfl⟩
      · have htS := okc_txS okc (i := i) (by omega)
        refine x_aload_n (q := 14) C dX8_roof_13 rfl 0 rfl rfl ?_
        refine xg_X8_reads (q := 17) C tfl_X8_38 dX8_roof_14 rfl ?_
        refine x_iload_n (q := 18) C dX8_roof_17 rfl 3 rfl rfl ?_
        refine xa_N8 (q := 19) C (by omega) dX8_roof_18 rfl ?_
        refine x_aload_n (q := 20) C dX8_roof_19 rfl 0 rfl rfl ?_
        refine xg_X8_z (q := 23) C tfl_X8_85 dX8_roof_20 rfl ?_
        refine x_topn (nz P) (okc_nz (P := P) okc) ?_
        refine x_iadd (q := 24) C dX8_roof_23 rfl ?_
        refine x_aload_n (q := 25) C dX8_roof_24 rfl 0 rfl rfl ?_
        refine x_iload_n (q := 26) C dX8_roof_25 rfl 1 rfl rfl ?_
        refine x_aload_n (q := 27) C dX8_roof_26 rfl 0 rfl rfl ?_
        refine xg_X8_tried (q := 30) C tfl_X8_35 dX8_roof_27 rfl ?_
        refine x_iload_n (q := 31) C dX8_roof_30 rfl 3 rfl rfl ?_
        refine xa_N7 (q := 32) C (by omega) dX8_roof_31 rfl ?_
        refine x_topn (tx P i) (okc_tx (P := P) okc (by omega)) ?_
        refine x_Vf (q := 35) (As := [.int (nI x), .int (nI (tx P i))]) (rest := [.int ((P 13 i) + (nI (nz P)))]) C (c_X8_off hD ok x (tx P i) (by omega) (by omega)) xs_X8_off tim_X8_off tsel_X8_off tml_X8_124 (by decide) 0 rfl (ci := 8) rfl rfl rfl (Nat.le_of_ble_eq_true rfl) dX8_roof_32 rfl ?_
        refine x_iadd (q := 36) C dX8_roof_35 rfl ?_
        refine x_topi (fun z2 hz2 => ?_)
        refine x_istore (q := 38) (lv' := [(0, .ref (ad 0)), (1, .int (nI x)), (2, .int z), (3, .int (nI i)), (4, .int z2)]) C dX8_roof_36 (by decide) rfl rfl rfl ?_
        refine x_iload_n (q := 39) C dX8_roof_38 rfl 3 rfl rfl ?_
        refine x_if_eq_n (q := 42) (tgt := 48) C dX8_roof_39 (by omega) (by decide) rfl (fun c39 => ?_) (fun c39 => ?_)
        · refine x_iload (q := 50) C dX8_roof_48 4 rfl rfl ?_
          refine x_goto (tgt := 54) C dX8_roof_50 (by decide) ?_
          refine x_istore_n (q := 55) (lv' := [(0, .ref (ad 0)), (1, .int (nI x)), (2, .int z2), (3, .int (nI i)), (4, .int z2)]) C dX8_roof_54 rfl (by decide) rfl rfl rfl ?_
          refine x_iinc (q := 58) (v := nI (i + 1)) (lv' := [(0, .ref (ad 0)), (1, .int (nI x)), (2, .int z2), (3, .int (nI (i + 1))), (4, .int z2)]) C dX8_roof_55 3 rfl (nI_add i 1) (by decide) rfl rfl rfl ?_
          refine x_goto (tgt := 5) C dX8_roof_58 (by decide) ?_
          refine x_lv [0, 1, 2, 3] rfl ?_
          exact ih5 (i + 1) z2 (by omega) (by first | (obtain rfl : i = 0 := c39; rw [hz2, rfv_eq okc]; exact (rf_0 okc x (by omega)).symm) | (rw [rfX, ← rfv_eq okc, ← hz2, ← hz]; rw [mn, if_pos (fa_of_nle c45)])) (by omega)
        · refine x_iload (q := 44) C dX8_roof_42 4 rfl rfl ?_
          refine x_iload_n (q := 45) C dX8_roof_44 rfl 2 rfl rfl ?_
          refine x_icmp_ge (q := 48) (tgt := 53) C dX8_roof_45 (by decide) rfl (fun c45 => ?_) (fun c45 => ?_)
          · refine x_iload_n (q := 54) C dX8_roof_53 rfl 2 rfl rfl ?_
            refine x_istore_n (q := 55) (lv' := [(0, .ref (ad 0)), (1, .int (nI x)), (2, .int z), (3, .int (nI i)), (4, .int z2)]) C dX8_roof_54 rfl (by decide) rfl rfl rfl ?_
            refine x_iinc (q := 58) (v := nI (i + 1)) (lv' := [(0, .ref (ad 0)), (1, .int (nI x)), (2, .int z), (3, .int (nI (i + 1))), (4, .int z2)]) C dX8_roof_55 3 rfl (nI_add i 1) (by decide) rfl rfl rfl ?_
            refine x_goto (tgt := 5) C dX8_roof_58 (by decide) ?_
            refine x_lv [0, 1, 2, 3] rfl ?_
            exact ih5 (i + 1) z (by omega) (by rw [hz, rfX, ← rfv_eq okc, ← hz2]; rw [← hz, mn, if_neg (Int32.not_lt.mpr c45)]) (by omega)
          · refine x_iload (q := 50) C dX8_roof_48 4 rfl rfl ?_
            refine x_goto (tgt := 54) C dX8_roof_50 (by decide) ?_
            refine x_istore_n (q := 55) (lv' := [(0, .ref (ad 0)), (1, .int (nI x)), (2, .int z2), (3, .int (nI i)), (4, .int z2)]) C dX8_roof_54 rfl (by decide) rfl rfl rfl ?_
            refine x_iinc (q := 58) (v := nI (i + 1)) (lv' := [(0, .ref (ad 0)), (1, .int (nI x)), (2, .int z2), (3, .int (nI (i + 1))), (4, .int z2)]) C dX8_roof_55 3 rfl (nI_add i 1) (by decide) rfl rfl rfl ?_
            refine x_goto (tgt := 5) C dX8_roof_58 (by decide) ?_
            refine x_lv [0, 1, 2, 3] rfl ?_
            exact ih5 (i + 1) z2 (by omega) (by first | (obtain rfl : i = 0 := c39; rw [hz2, rfv_eq okc]; exact (rf_0 okc x (by omega)).symm) | (rw [rfX, ← rfv_eq okc, ← hz2, ← hz]; rw [mn, if_pos (fa_of_nle c45)])) (by omega)
  exact L5 _ 0 _ (Nat.zero_le _) rfl (Nat.lt_succ_self _)

set_option maxRecDepth 100000 in
set_option maxHeartbeats 4000000 in
theorem c_X8_bound (hD : ∀ P T, va_D A (wN ad cI cZ P T)) {P T : St} (ok : okN P) (x y : Int32) : XMI l D (tyz cI cZ) (wN ad cI cZ) A yX8_bound cX8_bound 3 (some .int) rmX8_bound [.ref (ad 0), .int x, .int y] P T (fun r P' _ => r = FboundX P x y ∧ P' = P) := by
  have okc := okN_c ok
  have hk6 := okc_kn6 okc
  have hS144 := okc_S144 okc
  have hS1 := okc_S1 okc
  have hnr := okc_nr12 okc
  have hnt := okc_nt60 okc
  have hnz := okc_nz50 okc
  have hsd := okc_sdb okc
  have okk := okC_K okc
  refine x_start_i (lv := [(0, .ref (ad 0)), (1, .int x), (2, .int y)]) (own := RX8) (by decide) rfl hD (Nat.le_of_ble_eq_true rfl) rfl ?_
  intro p e s m args below meth c C
  refine x_aload_n (q := 1) C dX8_bound_0 rfl 0 rfl rfl ?_
  refine x_iload_n (q := 2) C dX8_bound_1 rfl 1 rfl rfl ?_
  refine x_Vf (q := 5) (As := [.int x]) (rest := []) C (c_X8_isSetting hD ok x ) xs_X8_isSetting tim_X8_isSetting tsel_X8_isSetting tml_X8_98 (by decide) 0 rfl (ci := 8) rfl rfl rfl (Nat.le_of_ble_eq_true rfl) dX8_bound_2 rfl ?_
  refine x_if_eq_b (q := 8) (tgt := 18) C dX8_bound_5 (by decide) rfl (fun c5 => ?_) (fun c5 => ?_)
  · refine x_ldc (q := 20) C tk_X8_128 dX8_bound_18 rfl ?_
    refine x_goto (tgt := 40) C dX8_bound_20 (by decide) ?_
    exact x_iret C dX8_bound_40 ⟨if_f (fun h => by first | exact c5 h.1 | exact c15 h.2), rfl⟩
  · have hS5 := c5
    obtain ⟨x1, hx1, rfl⟩ := isS_nat okc c5
    refine x_iload_n (q := 9) C dX8_bound_8 rfl 2 rfl rfl ?_
    refine x_i2l (q := 10) C dX8_bound_9 rfl ?_
    refine x_lconst (q := 11) (v := 0) C dX8_bound_10 (by decide) rfl ?_
    refine x_lconst (q := 12) (v := 1) C dX8_bound_11 (by decide) rfl ?_
    refine x_Sf (q := 15) (As := [.long y.toInt64, .long 0, .long 1]) (rest := []) C (c_X8_in hD y.toInt64 0 1 ) xs_X8_in tst_X8_in tml_X8_50 (by decide) rfl rfl (Nat.le_of_ble_eq_true rfl) dX8_bound_12 rfl ?_
    refine x_tope (bI (inR y (nI 0) (nI 1))) (bI_congr (inL_i (a := (nI 0)) (b := (nI 1)) (by decide) (by decide))) ?_
    refine x_if_ne_b (q := 18) (tgt := 23) C dX8_bound_15 (by decide) rfl (fun c15 => ?_) (fun c15 => ?_)
    · refine x_iload_n (q := 24) C dX8_bound_23 rfl 2 rfl rfl ?_
      refine x_if_ne (q := 27) (tgt := 35) C dX8_bound_24 (by decide) rfl (fun c24 => ?_) (fun c24 => ?_)
      · refine x_aload_n (q := 36) C dX8_bound_35 rfl 0 rfl rfl ?_
        refine x_iload_n (q := 37) C dX8_bound_36 rfl 1 rfl rfl ?_
        refine x_Vf (q := 40) (As := [.int (nI x1)]) (rest := []) C (c_X8_roof hD ok x1 (by omega)) xs_X8_roof tim_X8_roof tsel_X8_roof tml_X8_132 (by decide) 0 rfl (ci := 8) rfl rfl rfl (Nat.le_of_ble_eq_true rfl) dX8_bound_37 rfl ?_
        exact x_iret C dX8_bound_40 ⟨by rw [FboundX, if_pos ⟨hS5, c15⟩, cl_nI (by omega)]; first | rw [if_pos c24] | rw [if_neg c24], rfl⟩
      · refine x_aload_n (q := 28) C dX8_bound_27 rfl 0 rfl rfl ?_
        refine x_iload_n (q := 29) C dX8_bound_28 rfl 1 rfl rfl ?_
        refine x_Vf (q := 32) (As := [.int (nI x1)]) (rest := []) C (c_X8_floor hD ok x1 (by omega)) xs_X8_floor tim_X8_floor tsel_X8_floor tml_X8_129 (by decide) 0 rfl (ci := 8) rfl rfl rfl (Nat.le_of_ble_eq_true rfl) dX8_bound_29 rfl ?_
        refine x_goto (tgt := 40) C dX8_bound_32 (by decide) ?_
        exact x_iret C dX8_bound_40 ⟨by rw [FboundX, if_pos ⟨hS5, c15⟩, cl_nI (by omega)]; first | rw [if_pos c24] | rw [if_neg c24], rfl⟩
    · refine x_ldc (q := 20) C tk_X8_128 dX8_bound_18 rfl ?_
      refine x_goto (tgt := 40) C dX8_bound_20 (by decide) ?_
      exact x_iret C dX8_bound_40 ⟨if_f (fun h => by first | exact c5 h.1 | exact c15 h.2), rfl⟩

set_option maxRecDepth 100000 in
set_option maxHeartbeats 4000000 in
theorem c_X8_tries (hD : ∀ P T, va_D A (wN ad cI cZ P T)) {P T : St} (ok : okN P) (x : Nat) (hx : x < 2 ^ 31) (hn : nt P < 60) : XMV l D (tyz cI cZ) (wN ad cI cZ) A yX8_tries cX8_tries 2 none rmX8_tries [.ref (ad 0), .int (nI x)] P T (fun P' T' => P' = tryP P x (wo P x) ∧ T' = T) := by
  have okc := okN_c ok
  have hk6 := okc_kn6 okc
  have hS144 := okc_S144 okc
  have hS1 := okc_S1 okc
  have hnr := okc_nr12 okc
  have hnt := okc_nt60 okc
  have hnz := okc_nz50 okc
  have hsd := okc_sdb okc
  have okk := okC_K okc
  have h5 := nsd_lt (sdv P)
  refine x_start_v (lv := [(0, .ref (ad 0)), (1, .int (nI x))]) (own := RX8) (by decide) rfl hD (Nat.le_of_ble_eq_true rfl) rfl ?_
  intro p e s m args below meth c C
  refine x_aload_n (q := 1) C dX8_tries_0 rfl 0 rfl rfl ?_
  refine x_aload_n (q := 2) C dX8_tries_1 rfl 0 rfl rfl ?_
  refine xg_X8_seed (q := 5) C tfl_X8_32 dX8_tries_2 rfl ?_
  refine x_topn (sdv P) (okc_sd (P := P) okc) ?_
  refine x_i2l (q := 6) C dX8_tries_5 rfl ?_
  refine x_ldc2 (q := 9) C tk_X8_113 dX8_tries_6 rfl ?_
  refine x_lmul (q := 10) C dX8_tries_9 rfl ?_
  refine x_ldc2 (q := 13) C tk_X8_115 dX8_tries_10 rfl ?_
  refine x_ladd (q := 14) C dX8_tries_13 rfl ?_
  refine x_ldc2 (q := 17) C tk_X8_117 dX8_tries_14 rfl ?_
  refine x_lrem (q := 18) C dX8_tries_17 (by decide) rfl ?_
  refine x_l2i (q := 19) C dX8_tries_18 rfl ?_
  refine x_topn (nsd (sdv P)) (draw_eq hsd) ?_
  refine xp_X8_seed (q := 22) C tfl_X8_32 dX8_tries_19 rfl ?_
  refine x_aload_n (q := 23) C dX8_tries_22 rfl 0 rfl rfl ?_
  refine xg_X8_tried (q := 26) C tfl_X8_35 dX8_tries_23 rfl ?_
  refine x_aload_n (q := 27) C dX8_tries_26 rfl 0 rfl rfl ?_
  refine xg_X8_trials (q := 30) C tfl_X8_62 dX8_tries_27 rfl ?_
  refine x_topn (nt P) (okc_nt (P := P) okc) ?_
  refine x_iload_n (q := 31) C dX8_tries_30 rfl 1 rfl rfl ?_
  refine xs_N7 (q := 32) C (by omega) dX8_tries_31 rfl ?_
  refine x_aload_n (q := 33) C dX8_tries_32 rfl 0 rfl rfl ?_
  refine xg_X8_reads (q := 36) C tfl_X8_38 dX8_tries_33 rfl ?_
  refine x_aload_n (q := 37) C dX8_tries_36 rfl 0 rfl rfl ?_
  refine xg_X8_trials (q := 40) C tfl_X8_62 dX8_tries_37 rfl ?_
  refine x_topn (nt P) (okc_nt (P := P) okc) ?_
  refine x_aload_n (q := 41) C dX8_tries_40 rfl 0 rfl rfl ?_
  refine x_iload_n (q := 42) C dX8_tries_41 rfl 1 rfl rfl ?_
  refine x_Vf (q := 45) (As := [.int (nI x)]) (rest := [.int (nI (nt P)), .ref (ad 8)]) C (c_X8_worthOf hD (show okK (st1 (st1 P 26 0 (nI (nsd (sdv P)))) 12 (nt P) (nI x)) from okk) x (by omega)) xs_X8_worthOf tim_X8_worthOf tsel_X8_worthOf tml_X8_108 (by decide) 0 rfl (ci := 8) rfl rfl rfl (Nat.le_of_ble_eq_true rfl) dX8_tries_42 rfl ?_
  refine x_aload_n (q := 46) C dX8_tries_45 rfl 0 rfl rfl ?_
  refine xg_X8_seed (q := 49) C tfl_X8_32 dX8_tries_46 rfl ?_
  refine x_topn (nsd (sdv P)) (by rw [st1_ne (by decide)]; exact st1_at) ?_
  refine x_bipush (q := 51) (v := nI 64) C dX8_tries_49 (by decide) rfl ?_
  refine x_idiv_n (q := 52) C dX8_tries_51 (by omega) (by omega) (by omega) rfl ?_
  refine x_iconst (q := 53) (v := nI 2) C dX8_tries_52 (by decide) rfl ?_
  refine x_aload_n (q := 54) C dX8_tries_53 rfl 0 rfl rfl ?_
  refine xg_X8_z (q := 57) C tfl_X8_85 dX8_tries_54 rfl ?_
  refine x_topn (nz P) (okc_nz (P := P) okc) ?_
  refine x_imul_n (q := 58) C dX8_tries_57 rfl ?_
  refine x_iconst (q := 59) (v := nI 1) C dX8_tries_58 (by decide) rfl ?_
  refine x_iadd_n (q := 60) C dX8_tries_59 rfl ?_
  refine x_irem_n (q := 61) C dX8_tries_60 (by omega) (by omega) (by omega) rfl ?_
  refine x_iadd (q := 62) C dX8_tries_61 rfl ?_
  refine x_aload_n (q := 63) C dX8_tries_62 rfl 0 rfl rfl ?_
  refine xg_X8_z (q := 66) C tfl_X8_85 dX8_tries_63 rfl ?_
  refine x_topn (nz P) (okc_nz (P := P) okc) ?_
  refine x_isub (q := 67) C dX8_tries_66 rfl ?_
  refine x_tope (wo P x + dnz (sdv P) (nz P)) (add_sub3 _ _ _) ?_
  refine xs_N8 (q := 68) C (by omega) dX8_tries_67 rfl ?_
  refine x_aload_n (q := 69) C dX8_tries_68 rfl 0 rfl rfl ?_
  refine x_dup (q := 70) C dX8_tries_69 rfl rfl ?_
  refine xg_X8_trials (q := 73) C tfl_X8_62 dX8_tries_70 rfl ?_
  refine x_topn (nt P) (okc_nt (P := P) okc) ?_
  refine x_iconst (q := 74) (v := nI 1) C dX8_tries_73 (by decide) rfl ?_
  refine x_iadd_n (q := 75) C dX8_tries_74 rfl ?_
  refine xp_X8_trials (q := 78) C tfl_X8_62 dX8_tries_75 rfl ?_
  exact x_vret C dX8_tries_78 ⟨by unfold tryP; rw [st1_comm (P := P) (j := 12) (j' := 26) (by decide)], rfl⟩

set_option maxRecDepth 100000 in
set_option maxHeartbeats 4000000 in
theorem c_X8_trial (hD : ∀ P T, va_D A (wN ad cI cZ P T)) {P T : St} (ok : okN P) (x : Int32) : XMI l D (tyz cI cZ) (wN ad cI cZ) A yX8_trial cX8_trial 2 (some .int) rmX8_trial [.ref (ad 0), .int x] P T (fun r P' _ => r = FtrialX (cX P) x ∧ P' = (if isS P x then (if alX (cX P) (cl x) then (if nI 60 ≤ P 24 0 then P else tryP P (cl x) (wo P (cl x))) else P) else P)) := by
  have okc := okN_c ok
  have hk6 := okc_kn6 okc
  have hS144 := okc_S144 okc
  have hS1 := okc_S1 okc
  have hnr := okc_nr12 okc
  have hnt := okc_nt60 okc
  have hnz := okc_nz50 okc
  have hsd := okc_sdb okc
  have okk := okC_K okc
  refine x_start_i (lv := [(0, .ref (ad 0)), (1, .int x)]) (own := RX8) (by decide) rfl hD (Nat.le_of_ble_eq_true rfl) rfl ?_
  intro p e s m args below meth c C
  refine x_aload_n (q := 1) C dX8_trial_0 rfl 0 rfl rfl ?_
  refine x_iload_n (q := 2) C dX8_trial_1 rfl 1 rfl rfl ?_
  refine x_Vf (q := 5) (As := [.int x]) (rest := []) C (c_X8_isSetting hD ok x ) xs_X8_isSetting tim_X8_isSetting tsel_X8_isSetting tml_X8_98 (by decide) 0 rfl (ci := 8) rfl rfl rfl (Nat.le_of_ble_eq_true rfl) dX8_trial_2 rfl ?_
  refine x_if_ne_b (q := 8) (tgt := 10) C dX8_trial_5 (by decide) rfl (fun c5 => ?_) (fun c5 => ?_)
  · have hS5 := c5
    obtain ⟨x1, hx1, rfl⟩ := isS_nat okc c5
    have hS5c : isS (cX P) (nI x1) := hS5
    refine x_aload_n (q := 11) C dX8_trial_10 rfl 0 rfl rfl ?_
    refine x_iload_n (q := 12) C dX8_trial_11 rfl 1 rfl rfl ?_
    refine x_Vf (q := 15) (As := [.int (nI x1)]) (rest := []) C (c_X8_isAllowed hD ok x1 (by omega)) xs_X8_isAllowed tim_X8_isAllowed tsel_X8_isAllowed tml_X8_105 (by decide) 0 rfl (ci := 8) rfl rfl rfl (Nat.le_of_ble_eq_true rfl) dX8_trial_12 rfl ?_
    refine x_if_ne_b (q := 18) (tgt := 21) C dX8_trial_15 (by decide) rfl (fun c15 => ?_) (fun c15 => ?_)
    · refine x_aload_n (q := 22) C dX8_trial_21 rfl 0 rfl rfl ?_
      refine xg_X8_trials (q := 25) C tfl_X8_62 dX8_trial_22 rfl ?_
      refine x_topn (nt P) (okc_nt (P := P) okc) ?_
      refine x_bipush (q := 27) (v := nI 60) C dX8_trial_25 (by decide) rfl ?_
      refine x_icmp_ne_n (q := 30) (tgt := 33) C dX8_trial_27 (by omega) (by omega) (by decide) rfl (fun c27 => ?_) (fun c27 => ?_)
      · refine x_aload_n (q := 34) C dX8_trial_33 rfl 0 rfl rfl ?_
        refine x_iload_n (q := 35) C dX8_trial_34 rfl 1 rfl rfl ?_
        refine x_Vg (q := 38) (As := [.int (nI x1)]) (rest := []) C (c_X8_tries hD ok x1 (by omega) (by omega)) xs_X8_tries tim_X8_tries tsel_X8_tries tml_X8_119 (by decide) 0 rfl (ci := 8) rfl rfl rfl (Nat.le_of_ble_eq_true rfl) dX8_trial_35 rfl ?_
        refine x_aload_n (q := 39) C dX8_trial_38 rfl 0 rfl rfl ?_
        refine xg_X8_trials (q := 42) C tfl_X8_62 dX8_trial_39 rfl ?_
        refine x_tope (nI (nt P + 1)) rfl ?_
        exact x_iret C dX8_trial_42 ⟨by rw [FtrialX, if_pos hS5c, cl_nI (by omega), if_pos c15]; exact if_f (fun h => c27 ((le60 okc).mp h)), by rw [if_pos hS5, cl_nI (by omega), if_pos c15, if_neg (fun h => c27 ((le60 okc).mp h))]⟩
      · refine x_bipush (q := 32) (v := (-3)) C dX8_trial_30 (by decide) rfl ?_
        exact x_iret C dX8_trial_32 ⟨by rw [FtrialX, if_pos hS5c, cl_nI (by omega), if_pos c15]; exact if_t ((le60 okc).mpr c27), by rw [if_pos hS5, cl_nI (by omega), if_pos c15, if_pos ((le60 okc).mpr c27)]⟩
    · refine x_bipush (q := 20) (v := (-2)) C dX8_trial_18 (by decide) rfl ?_
      exact x_iret C dX8_trial_20 ⟨by rw [FtrialX, if_pos hS5c, cl_nI (by omega), if_neg c15], by rw [if_pos hS5, cl_nI (by omega), if_neg c15]⟩
  · refine x_iconst (q := 9) (v := (-1)) C dX8_trial_8 (by decide) rfl ?_
    exact x_iret C dX8_trial_9 ⟨if_f c5, if_f c5⟩

set_option maxRecDepth 100000 in
set_option maxHeartbeats 4000000 in
theorem c_X8_read (hD : ∀ P T, va_D A (wN ad cI cZ P T)) {P T : St} (ok : okN P) (i x : Int32) : XMI l D (tyz cI cZ) (wN ad cI cZ) A yX8_read cX8_read 3 (some .int) rmX8_read [.ref (ad 0), .int i, .int x] P T (fun r P' _ => r = Fread P i x ∧ P' = P) := by
  have okc := okN_c ok
  have hk6 := okc_kn6 okc
  have hS144 := okc_S144 okc
  have hS1 := okc_S1 okc
  have hnr := okc_nr12 okc
  have hnt := okc_nt60 okc
  have hnz := okc_nz50 okc
  have hsd := okc_sdb okc
  have okk := okC_K okc
  refine x_start_i (lv := [(0, .ref (ad 0)), (1, .int i), (2, .int x)]) (own := RX8) (by decide) rfl hD (Nat.le_of_ble_eq_true rfl) rfl ?_
  intro p e s m args below meth c C
  refine x_iload_n (q := 1) C dX8_read_0 rfl 1 rfl rfl ?_
  refine x_i2l (q := 2) C dX8_read_1 rfl ?_
  refine x_lconst (q := 3) (v := 0) C dX8_read_2 (by decide) rfl ?_
  refine x_aload_n (q := 4) C dX8_read_3 rfl 0 rfl rfl ?_
  refine xg_X8_trials (q := 7) C tfl_X8_62 dX8_read_4 rfl ?_
  refine x_topn (nt P) (okc_nt (P := P) okc) ?_
  refine x_iconst (q := 8) (v := nI 1) C dX8_read_7 (by decide) rfl ?_
  refine x_isub (q := 9) C dX8_read_8 rfl ?_
  refine x_i2l (q := 10) C dX8_read_9 rfl ?_
  refine x_Sf (q := 13) (As := [.long i.toInt64, .long 0, .long (((nI (nt P)) - (nI 1)).toInt64)]) (rest := []) C (c_X8_in hD i.toInt64 0 (((nI (nt P)) - (nI 1)).toInt64) ) xs_X8_in tst_X8_in tml_X8_50 (by decide) rfl rfl (Nat.le_of_ble_eq_true rfl) dX8_read_10 rfl ?_
  refine x_tope (bI (isT P i)) (bI_congr (in_T okc)) ?_
  refine x_if_eq_b (q := 16) (tgt := 48) C dX8_read_13 (by decide) rfl (fun c13 => ?_) (fun c13 => ?_)
  · refine x_ldc (q := 50) C tk_X8_111 dX8_read_48 rfl ?_
    exact x_iret C dX8_read_50 ⟨if_f (fun h => by first | exact c13 h.1 | exact c23 h.2), rfl⟩
  · have hT13 := c13
    obtain ⟨i1, hi1, rfl⟩ := isT_nat okc c13
    refine x_iload_n (q := 17) C dX8_read_16 rfl 2 rfl rfl ?_
    refine x_i2l (q := 18) C dX8_read_17 rfl ?_
    refine x_lconst (q := 19) (v := 0) C dX8_read_18 (by decide) rfl ?_
    refine x_lconst (q := 20) (v := 1) C dX8_read_19 (by decide) rfl ?_
    refine x_Sf (q := 23) (As := [.long x.toInt64, .long 0, .long 1]) (rest := []) C (c_X8_in hD x.toInt64 0 1 ) xs_X8_in tst_X8_in tml_X8_50 (by decide) rfl rfl (Nat.le_of_ble_eq_true rfl) dX8_read_20 rfl ?_
    refine x_tope (bI (inR x (nI 0) (nI 1))) (bI_congr (inL_i (a := (nI 0)) (b := (nI 1)) (by decide) (by decide))) ?_
    refine x_if_eq_b (q := 26) (tgt := 48) C dX8_read_23 (by decide) rfl (fun c23 => ?_) (fun c23 => ?_)
    · refine x_ldc (q := 50) C tk_X8_111 dX8_read_48 rfl ?_
      exact x_iret C dX8_read_50 ⟨if_f (fun h => by first | exact c13 h.1 | exact c23 h.2), rfl⟩
    · refine x_iload_n (q := 27) C dX8_read_26 rfl 2 rfl rfl ?_
      refine x_if_ne (q := 30) (tgt := 39) C dX8_read_27 (by decide) rfl (fun c27 => ?_) (fun c27 => ?_)
      · refine x_aload_n (q := 40) C dX8_read_39 rfl 0 rfl rfl ?_
        refine xg_X8_tried (q := 43) C tfl_X8_35 dX8_read_40 rfl ?_
        refine x_iload_n (q := 44) C dX8_read_43 rfl 1 rfl rfl ?_
        refine xa_N7 (q := 45) C (by omega) dX8_read_44 rfl ?_
        refine x_goto (tgt := 50) C dX8_read_45 (by decide) ?_
        exact x_iret C dX8_read_50 ⟨by rw [Fread, if_pos ⟨hT13, c23⟩, cl_nI (by omega)]; first | rw [if_pos c27] | rw [if_neg c27], rfl⟩
      · refine x_aload_n (q := 31) C dX8_read_30 rfl 0 rfl rfl ?_
        refine xg_X8_reads (q := 34) C tfl_X8_38 dX8_read_31 rfl ?_
        refine x_iload_n (q := 35) C dX8_read_34 rfl 1 rfl rfl ?_
        refine xa_N8 (q := 36) C (by omega) dX8_read_35 rfl ?_
        refine x_goto (tgt := 50) C dX8_read_36 (by decide) ?_
        exact x_iret C dX8_read_50 ⟨by rw [Fread, if_pos ⟨hT13, c23⟩, cl_nI (by omega)]; first | rw [if_pos c27] | rw [if_neg c27], rfl⟩

set_option maxRecDepth 100000 in
set_option maxHeartbeats 4000000 in
theorem c_X8_forget (hD : ∀ P T, va_D A (wN ad cI cZ P T)) {P T : St} : XMI l D (tyz cI cZ) (wN ad cI cZ) A yX8_forget cX8_forget 2 (some .int) rmX8_forget [.ref (ad 0)] P T (fun r P' _ => r = P 24 0 ∧ P' = st1 P 24 0 (nI 0)) := by
  refine x_start_i (lv := [(0, .ref (ad 0))]) (own := RX8) (by decide) rfl hD (Nat.le_of_ble_eq_true rfl) rfl ?_
  intro p e s m args below meth c C
  refine x_aload_n (q := 1) C dX8_forget_0 rfl 0 rfl rfl ?_
  refine xg_X8_trials (q := 4) C tfl_X8_62 dX8_forget_1 rfl ?_
  refine x_istore_n (q := 5) (lv' := [(0, .ref (ad 0)), (1, .int (P 24 0))]) C dX8_forget_4 rfl (by decide) rfl rfl rfl ?_
  refine x_aload_n (q := 6) C dX8_forget_5 rfl 0 rfl rfl ?_
  refine x_iconst (q := 7) (v := nI 0) C dX8_forget_6 (by decide) rfl ?_
  refine xp_X8_trials (q := 10) C tfl_X8_62 dX8_forget_7 rfl ?_
  refine x_iload_n (q := 11) C dX8_forget_10 rfl 1 rfl rfl ?_
  exact x_iret C dX8_forget_11 ⟨rfl, rfl⟩

end REFB
