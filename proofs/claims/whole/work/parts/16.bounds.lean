section BOUNDS
variable {l : Launch} {D : va_G} {ad : Nat → Nat} {cI cZ : ClassId} {A : Nat → Prop}

set_option maxRecDepth 100000 in
set_option maxHeartbeats 4000000 in
theorem c_X0_tighten (hD : ∀ P T, va_D A (wX ad cI cZ P T)) {P T : St} (ok : okX P) (x i : Nat) (hx : x < 144) (hi : i < nt P) : XMV l D (tyz cI cZ) (wX ad cI cZ) A yX0_tighten cX0_tighten 6 none rmX0_tighten [.ref (ad 6), .int (nI x), .int (nI i), .ref (ad 4), .ref (ad 1)] P T (fun P' T' => P' = P ∧ T' = st1 (st1 T 16 x (mx (T 16 x) (P 13 i - slk P x i))) 17 x (mn (T 17 x) (P 13 i + slk P x i))) := by
  have okc := ok.1
  have hk6 := okc_kn6 okc
  have hS144 := okc_S144 okc
  have hS1 := okc_S1 okc
  have hnr := okc_nr12 okc
  have hnt := okc_nt60 okc
  have hnz := okc_nz50 okc
  have hsd := okc_sdb okc
  have htx := okc_txS okc hi
  refine x_start_v (lv := [(0, .ref (ad 6)), (1, .int (nI x)), (2, .int (nI i)), (3, .ref (ad 4)), (4, .ref (ad 1))]) (own := RX0) (by decide) rfl hD (Nat.le_of_ble_eq_true rfl) rfl ?_
  intro p e s m args below meth c C
  refine x_aload_n (q := 1) C dX0_tighten_0 rfl 3 rfl rfl ?_
  refine x_Vf (q := 4) (As := []) (rest := []) C (c_X6_currentNoise hD ) xs_X6_currentNoise tim_X6_currentNoise tsel_X6_currentNoise tml_X0_39 (by decide) 4 rfl (ci := 6) rfl rfl rfl (Nat.le_of_ble_eq_true rfl) dX0_tighten_1 rfl ?_
  refine x_aload (q := 6) C dX0_tighten_4 4 rfl rfl ?_
  refine x_iload_n (q := 7) C dX0_tighten_6 rfl 1 rfl rfl ?_
  refine x_aload_n (q := 8) C dX0_tighten_7 rfl 3 rfl rfl ?_
  refine x_iload_n (q := 9) C dX0_tighten_8 rfl 2 rfl rfl ?_
  refine x_Vf (q := 12) (As := [.int (nI i)]) (rest := [.int (nI x), .ref (ad 1), .int (P 25 0)]) C (c_X6_settingAt hD i (by omega)) xs_X6_settingAt tim_X6_settingAt tsel_X6_settingAt tml_X0_42 (by decide) 4 rfl (ci := 6) rfl rfl rfl (Nat.le_of_ble_eq_true rfl) dX0_tighten_9 rfl ?_
  refine x_topn (tx P i) (okc_tx okc hi) ?_
  refine x_Vf (q := 15) (As := [.int (nI x), .int (nI (tx P i))]) (rest := [.int (P 25 0)]) C (c_X2_off hD ok x (tx P i) (by omega) (by omega)) xs_X2_off tim_X2_off tsel_X2_off tml_X0_46 (by decide) 1 rfl (ci := 2) rfl rfl rfl (Nat.le_of_ble_eq_true rfl) dX0_tighten_12 rfl ?_
  refine x_iadd (q := 16) C dX0_tighten_15 rfl ?_
  refine x_topi (fun z1 hz1 => ?_)
  refine x_istore (q := 18) (lv' := [(0, .ref (ad 6)), (1, .int (nI x)), (2, .int (nI i)), (3, .ref (ad 4)), (4, .ref (ad 1)), (5, .int z1)]) C dX0_tighten_16 (by decide) rfl rfl rfl ?_
  refine x_aload_n (q := 19) C dX0_tighten_18 rfl 0 rfl rfl ?_
  refine xg_X0_floors (q := 22) C tfl_X0_9 dX0_tighten_19 rfl ?_
  refine x_iload_n (q := 23) C dX0_tighten_22 rfl 1 rfl rfl ?_
  refine x_aload_n (q := 24) C dX0_tighten_23 rfl 0 rfl rfl ?_
  refine xg_X0_floors (q := 27) C tfl_X0_9 dX0_tighten_24 rfl ?_
  refine x_iload_n (q := 28) C dX0_tighten_27 rfl 1 rfl rfl ?_
  refine xa_X24 (q := 29) C (by omega) dX0_tighten_28 rfl ?_
  refine x_aload_n (q := 30) C dX0_tighten_29 rfl 3 rfl rfl ?_
  refine x_iload_n (q := 31) C dX0_tighten_30 rfl 2 rfl rfl ?_
  refine x_Vf (q := 34) (As := [.int (nI i)]) (rest := [.int (T 16 x), .int (nI x), .ref (ad 24)]) C (c_X6_readingAt hD i (by omega)) xs_X6_readingAt tim_X6_readingAt tsel_X6_readingAt tml_X0_50 (by decide) 4 rfl (ci := 6) rfl rfl rfl (Nat.le_of_ble_eq_true rfl) dX0_tighten_31 rfl ?_
  refine x_iload (q := 36) C dX0_tighten_34 5 rfl rfl ?_
  refine x_isub (q := 37) C dX0_tighten_36 rfl ?_
  refine x_mmax (q := 40) C tml_X0_53 tst_Mmax tini_Math tco_Mmax (by decide) (Nat.le_of_ble_eq_true rfl) dX0_tighten_37 rfl ?_
  refine xs_X24 (q := 41) C (by omega) dX0_tighten_40 rfl ?_
  refine x_aload_n (q := 42) C dX0_tighten_41 rfl 0 rfl rfl ?_
  refine xg_X0_roofs (q := 45) C tfl_X0_15 dX0_tighten_42 rfl ?_
  refine x_iload_n (q := 46) C dX0_tighten_45 rfl 1 rfl rfl ?_
  refine x_aload_n (q := 47) C dX0_tighten_46 rfl 0 rfl rfl ?_
  refine xg_X0_roofs (q := 50) C tfl_X0_15 dX0_tighten_47 rfl ?_
  refine x_iload_n (q := 51) C dX0_tighten_50 rfl 1 rfl rfl ?_
  refine xa_X25 (q := 52) C (by omega) dX0_tighten_51 rfl ?_
  refine x_aload_n (q := 53) C dX0_tighten_52 rfl 3 rfl rfl ?_
  refine x_iload_n (q := 54) C dX0_tighten_53 rfl 2 rfl rfl ?_
  refine x_Vf (q := 57) (As := [.int (nI i)]) (rest := [.int ((st1 T 16 x (if (T 16 x) < ((P 13 i) - z1) then (P 13 i) - z1 else T 16 x)) 17 x), .int (nI x), .ref (ad 25)]) C (c_X6_readingAt hD i (by omega)) xs_X6_readingAt tim_X6_readingAt tsel_X6_readingAt tml_X0_50 (by decide) 4 rfl (ci := 6) rfl rfl rfl (Nat.le_of_ble_eq_true rfl) dX0_tighten_54 rfl ?_
  refine x_iload (q := 59) C dX0_tighten_57 5 rfl rfl ?_
  refine x_iadd (q := 60) C dX0_tighten_59 rfl ?_
  refine x_mmin (q := 63) C tml_X0_58 tst_Mmin tini_Math tco_Mmin (by decide) (Nat.le_of_ble_eq_true rfl) dX0_tighten_60 rfl ?_
  refine xs_X25 (q := 64) C (by omega) dX0_tighten_63 rfl ?_
  exact x_vret C dX0_tighten_64 ⟨rfl, by rw [hz1]; rfl⟩

set_option maxRecDepth 100000 in
set_option maxHeartbeats 4000000 in
theorem c_X0_measure (hD : ∀ P T, va_D A (wX ad cI cZ P T)) {P T : St} (ok : okX P) (x : Nat) (hx : x < 144) : XMV l D (tyz cI cZ) (wX ad cI cZ) A yX0_measure cX0_measure 5 none rmX0_measure [.ref (ad 6), .int (nI x), .ref (ad 4), .ref (ad 1)] P T (fun P' T' => P' = P ∧ (∀ j, j ≠ 16 → j ≠ 17 → T' j = T j) ∧ (T' 16 x = flX P x (nt P) ∧ ∀ j, j ≠ x → T' 16 j = T 16 j) ∧ (T' 17 x = rfX P x (nt P) ∧ ∀ j, j ≠ x → T' 17 j = T 17 j)) := by
  have okc := ok.1
  have hk6 := okc_kn6 okc
  have hS144 := okc_S144 okc
  have hS1 := okc_S1 okc
  have hnr := okc_nr12 okc
  have hnt := okc_nt60 okc
  have hnz := okc_nz50 okc
  have hsd := okc_sdb okc
  refine x_start_v (lv := [(0, .ref (ad 6)), (1, .int (nI x)), (2, .ref (ad 4)), (3, .ref (ad 1))]) (own := RX0) (by decide) rfl hD (Nat.le_of_ble_eq_true rfl) rfl ?_
  intro p e s m args below meth c C
  refine x_aload_n (q := 1) C dX0_measure_0 rfl 0 rfl rfl ?_
  refine xg_X0_floors (q := 4) C tfl_X0_9 dX0_measure_1 rfl ?_
  refine x_iload_n (q := 5) C dX0_measure_4 rfl 1 rfl rfl ?_
  refine x_ldc (q := 7) C tk_X0_28 dX0_measure_5 rfl ?_
  refine xs_X24 (q := 8) C (by omega) dX0_measure_7 rfl ?_
  refine x_aload_n (q := 9) C dX0_measure_8 rfl 0 rfl rfl ?_
  refine xg_X0_roofs (q := 12) C tfl_X0_15 dX0_measure_9 rfl ?_
  refine x_iload_n (q := 13) C dX0_measure_12 rfl 1 rfl rfl ?_
  refine x_ldc (q := 15) C tk_X0_29 dX0_measure_13 rfl ?_
  refine x_topn (1000000) (by decide) ?_
  refine xs_X25 (q := 16) C (by omega) dX0_measure_15 rfl ?_
  refine x_iconst (q := 17) (v := nI 0) C dX0_measure_16 (by decide) rfl ?_
  refine x_istore (q := 19) (lv' := [(0, .ref (ad 6)), (1, .int (nI x)), (2, .ref (ad 4)), (3, .ref (ad 1)), (4, .int (nI 0))]) C dX0_measure_17 (by decide) rfl rfl rfl ?_
  have L19 : ∀ (f1 : Nat) (i : Nat) (Tq : St), (i ≤ nt P) → (∀ j, j ≠ 16 → j ≠ 17 → Tq j = T j) → (Tq 16 x = flX P x i ∧ ∀ j, j ≠ x → Tq 16 j = T 16 j) → (Tq 17 x = rfX P x i ∧ ∀ j, j ≠ x → Tq 17 j = T 17 j) → nt P - i < f1 → XW p l e rmX0_measure s m args below meth c D (wX ad cI cZ) A 5 (MQ below (XPV D (tyz cI cZ) (wX ad cI cZ) A (fun P' T' => P' = P ∧ (∀ j, j ≠ 16 → j ≠ 17 → T' j = T j) ∧ (T' 16 x = flX P x (nt P) ∧ ∀ j, j ≠ x → T' 16 j = T 16 j) ∧ (T' 17 x = rfX P x (nt P) ∧ ∀ j, j ≠ x → T' 17 j = T 17 j))) args s 0 0 A) 19 [(0, .ref (ad 6)), (1, .int (nI x)), (2, .ref (ad 4)), (3, .ref (ad 1)), (4, .int (nI i))] [] P Tq := by
    intro f1
    induction f1 with
    | zero => intro i Tq hi hT hf hr hm; exact absurd hm (Nat.not_lt_zero _)
    | succ f1 ih19 =>
      intro i Tq hi hT hf hr hm19
      refine x_iload (q := 21) C dX0_measure_19 4 rfl rfl ?_
      refine x_aload_n (q := 22) C dX0_measure_21 rfl 2 rfl rfl ?_
      refine x_Vf (q := 25) (As := []) (rest := [.int (nI i)]) C (c_X6_howMany hD ) xs_X6_howMany tim_X6_howMany tsel_X6_howMany tml_X0_30 (by decide) 4 rfl (ci := 6) rfl rfl rfl (Nat.le_of_ble_eq_true rfl) dX0_measure_22 rfl ?_
      refine x_topn (nt P) (okc_nt (P := P) okc) ?_
      refine x_icmp_ge_n (q := 28) (tgt := 43) C dX0_measure_25 (by omega) (by omega) (by decide) rfl (fun c25 => ?_) (fun c25 => ?_)
      · exact x_vret C dX0_measure_43 ⟨rfl, hT, by rw [show nt P = i by omega]; exact hf, by rw [show nt P = i by omega]; exact hr⟩
      · refine x_aload_n (q := 29) C dX0_measure_28 rfl 0 rfl rfl ?_
        refine x_iload_n (q := 30) C dX0_measure_29 rfl 1 rfl rfl ?_
        refine x_iload (q := 32) C dX0_measure_30 4 rfl rfl ?_
        refine x_aload_n (q := 33) C dX0_measure_32 rfl 2 rfl rfl ?_
        refine x_aload_n (q := 34) C dX0_measure_33 rfl 3 rfl rfl ?_
        refine x_Vg (q := 37) (As := [.int (nI x), .int (nI i), .ref (ad 4), .ref (ad 1)]) (rest := []) C (c_X0_tighten hD ok x i (by omega) (by omega)) xs_X0_tighten tim_X0_tighten tsel_X0_tighten tml_X0_35 (by decide) 6 rfl (ci := 0) rfl rfl rfl (Nat.le_of_ble_eq_true rfl) dX0_measure_34 rfl ?_
        refine x_iinc (q := 40) (v := nI (i + 1)) (lv' := [(0, .ref (ad 6)), (1, .int (nI x)), (2, .ref (ad 4)), (3, .ref (ad 1)), (4, .int (nI (i + 1)))]) C dX0_measure_37 4 rfl (nI_add i 1) (by decide) rfl rfl rfl ?_
        refine x_goto (tgt := 19) C dX0_measure_40 (by decide) ?_
        exact ih19 (i + 1) _ (by omega) (fun j h1 h2 => by rw [st1_ne h2, st1_ne h1]; exact hT j h1 h2) ⟨by rw [st1_ne (by decide), st1_at, hf.1]; rfl, fun j hj => by rw [st1_ne (by decide), st1_no hj]; exact hf.2 j hj⟩ ⟨by rw [st1_at, hr.1]; rfl, fun j hj => by rw [st1_no hj, st1_ne (by decide)]; exact hr.2 j hj⟩ (by omega)
  exact L19 _ 0 _ (Nat.zero_le _) (fun j h1 h2 => by rw [st1_ne h2, st1_ne h1]) ⟨by rw [st1_ne (by decide), st1_at]; rfl, fun j hj => by rw [st1_ne (by decide), st1_no hj]⟩ ⟨by rw [st1_at]; rfl, fun j hj => by rw [st1_no hj, st1_ne (by decide)]⟩ (Nat.lt_succ_self _)

set_option maxRecDepth 100000 in
set_option maxHeartbeats 4000000 in
theorem c_X0_measureAll (hD : ∀ P T, va_D A (wX ad cI cZ P T)) {P T : St} (ok : okX P) : XMV l D (tyz cI cZ) (wX ad cI cZ) A yX0_measureAll cX0_measureAll 4 none rmX0_measureAll [.ref (ad 6), .ref (ad 4), .ref (ad 1)] P T (fun P' T' => P' = P ∧ (∀ j, j ≠ 16 → j ≠ 17 → T' j = T j) ∧ (∀ j, j < nS P → T' 16 j = flX P j (nt P)) ∧ (∀ j, j < nS P → T' 17 j = rfX P j (nt P))) := by
  have okc := ok.1
  have hk6 := okc_kn6 okc
  have hS144 := okc_S144 okc
  have hS1 := okc_S1 okc
  have hnr := okc_nr12 okc
  have hnt := okc_nt60 okc
  have hnz := okc_nz50 okc
  have hsd := okc_sdb okc
  refine x_start_v (lv := [(0, .ref (ad 6)), (1, .ref (ad 4)), (2, .ref (ad 1))]) (own := RX0) (by decide) rfl hD (Nat.le_of_ble_eq_true rfl) rfl ?_
  intro p e s m args below meth c C
  refine x_iconst (q := 1) (v := nI 0) C dX0_measureAll_0 (by decide) rfl ?_
  refine x_istore_n (q := 2) (lv' := [(0, .ref (ad 6)), (1, .ref (ad 4)), (2, .ref (ad 1)), (3, .int (nI 0))]) C dX0_measureAll_1 rfl (by decide) rfl rfl rfl ?_
  have L2 : ∀ (f1 : Nat) (x : Nat) (Tq : St), (x ≤ nS P) → (∀ j, j ≠ 16 → j ≠ 17 → Tq j = T j) → ((∀ j, j < x → Tq 16 j = flX P j (nt P)) ∧ ∀ j, x ≤ j → Tq 16 j = T 16 j) → ((∀ j, j < x → Tq 17 j = rfX P j (nt P)) ∧ ∀ j, x ≤ j → Tq 17 j = T 17 j) → nS P - x < f1 → XW p l e rmX0_measureAll s m args below meth c D (wX ad cI cZ) A 4 (MQ below (XPV D (tyz cI cZ) (wX ad cI cZ) A (fun P' T' => P' = P ∧ (∀ j, j ≠ 16 → j ≠ 17 → T' j = T j) ∧ (∀ j, j < nS P → T' 16 j = flX P j (nt P)) ∧ (∀ j, j < nS P → T' 17 j = rfX P j (nt P)))) args s 0 0 A) 2 [(0, .ref (ad 6)), (1, .ref (ad 4)), (2, .ref (ad 1)), (3, .int (nI x))] [] P Tq := by
    intro f1
    induction f1 with
    | zero => intro x Tq hx hT hf hr hm; exact absurd hm (Nat.not_lt_zero _)
    | succ f1 ih2 =>
      intro x Tq hx hT hf hr hm2
      refine x_iload_n (q := 3) C dX0_measureAll_2 rfl 3 rfl rfl ?_
      refine x_aload_n (q := 4) C dX0_measureAll_3 rfl 2 rfl rfl ?_
      refine x_Vf (q := 7) (As := []) (rest := [.int (nI x)]) C (c_X2_howManySettings hD ) xs_X2_howManySettings tim_X2_howManySettings tsel_X2_howManySettings tml_X0_18 (by decide) 1 rfl (ci := 2) rfl rfl rfl (Nat.le_of_ble_eq_true rfl) dX0_measureAll_4 rfl ?_
      refine x_topn (nS P) (okc_S (P := P) okc) ?_
      refine x_icmp_ge_n (q := 10) (tgt := 23) C dX0_measureAll_7 (by omega) (by omega) (by decide) rfl (fun c7 => ?_) (fun c7 => ?_)
      · exact x_vret C dX0_measureAll_23 ⟨rfl, hT, fun j hj => hf.1 j (by omega), fun j hj => hr.1 j (by omega)⟩
      · refine x_aload_n (q := 11) C dX0_measureAll_10 rfl 0 rfl rfl ?_
        refine x_iload_n (q := 12) C dX0_measureAll_11 rfl 3 rfl rfl ?_
        refine x_aload_n (q := 13) C dX0_measureAll_12 rfl 1 rfl rfl ?_
        refine x_aload_n (q := 14) C dX0_measureAll_13 rfl 2 rfl rfl ?_
        refine x_Vv (q := 17) (As := [.int (nI x), .ref (ad 4), .ref (ad 1)]) (rest := []) C (c_X0_measure hD ok x (by omega)) xs_X0_measure tim_X0_measure tsel_X0_measure tml_X0_24 (by decide) 6 rfl (ci := 0) rfl rfl rfl (Nat.le_of_ble_eq_true rfl) dX0_measureAll_14 rfl (fun Pz T14 hg => ?_)
        obtain ⟨hPz, hT14, hF14, hR14⟩ := hg
        rw [hPz]; clear hPz Pz
        refine x_iinc (q := 20) (v := nI (x + 1)) (lv' := [(0, .ref (ad 6)), (1, .ref (ad 4)), (2, .ref (ad 1)), (3, .int (nI (x + 1)))]) C dX0_measureAll_17 3 rfl (nI_add x 1) (by decide) rfl rfl rfl ?_
        refine x_goto (tgt := 2) C dX0_measureAll_20 (by decide) ?_
        exact ih2 (x + 1) _ (by omega) (fun j h1 h2 => by rw [hT14 j h1 h2]; exact hT j h1 h2) ⟨lt_s (fun j hj => by rw [hF14.2 j (by omega)]; exact hf.1 j hj) hF14.1, fun j hj => by rw [hF14.2 j (by omega)]; exact hf.2 j (by omega)⟩ ⟨lt_s (fun j hj => by rw [hR14.2 j (by omega)]; exact hr.1 j hj) hR14.1, fun j hj => by rw [hR14.2 j (by omega)]; exact hr.2 j (by omega)⟩ (by omega)
  exact L2 _ 0 _ (Nat.zero_le _) (fun _ _ _ => rfl) ⟨fun j hj => absurd hj (Nat.not_lt_zero j), fun _ _ => rfl⟩ ⟨fun j hj => absurd hj (Nat.not_lt_zero j), fun _ _ => rfl⟩ (Nat.lt_succ_self _)

set_option maxRecDepth 100000 in
set_option maxHeartbeats 4000000 in
theorem c_X0_tightenByLatest (hD : ∀ P T, va_D A (wX ad cI cZ P T)) {P T : St} (ok : okX P) (hn : 0 < nt P) : XMV l D (tyz cI cZ) (wX ad cI cZ) A yX0_tightenByLatest cX0_tightenByLatest 4 none rmX0_tightenByLatest [.ref (ad 6), .ref (ad 4), .ref (ad 1)] P T (fun P' T' => P' = P ∧ (∀ j, j ≠ 16 → j ≠ 17 → T' j = T j) ∧ (∀ j, j < nS P → T' 16 j = mx (T 16 j) (P 13 (nt P - 1) - slk P j (nt P - 1))) ∧ (∀ j, j < nS P → T' 17 j = mn (T 17 j) (P 13 (nt P - 1) + slk P j (nt P - 1)))) := by
  have okc := ok.1
  have hk6 := okc_kn6 okc
  have hS144 := okc_S144 okc
  have hS1 := okc_S1 okc
  have hnr := okc_nr12 okc
  have hnt := okc_nt60 okc
  have hnz := okc_nz50 okc
  have hsd := okc_sdb okc
  refine x_start_v (lv := [(0, .ref (ad 6)), (1, .ref (ad 4)), (2, .ref (ad 1))]) (own := RX0) (by decide) rfl hD (Nat.le_of_ble_eq_true rfl) rfl ?_
  intro p e s m args below meth c C
  refine x_iconst (q := 1) (v := nI 0) C dX0_tightenByLatest_0 (by decide) rfl ?_
  refine x_istore_n (q := 2) (lv' := [(0, .ref (ad 6)), (1, .ref (ad 4)), (2, .ref (ad 1)), (3, .int (nI 0))]) C dX0_tightenByLatest_1 rfl (by decide) rfl rfl rfl ?_
  have L2 : ∀ (f1 : Nat) (x : Nat) (Tq : St), (x ≤ nS P) → (∀ j, j ≠ 16 → j ≠ 17 → Tq j = T j) → ((∀ j, j < x → Tq 16 j = mx (T 16 j) (P 13 (nt P - 1) - slk P j (nt P - 1))) ∧ ∀ j, x ≤ j → Tq 16 j = T 16 j) → ((∀ j, j < x → Tq 17 j = mn (T 17 j) (P 13 (nt P - 1) + slk P j (nt P - 1))) ∧ ∀ j, x ≤ j → Tq 17 j = T 17 j) → nS P - x < f1 → XW p l e rmX0_tightenByLatest s m args below meth c D (wX ad cI cZ) A 4 (MQ below (XPV D (tyz cI cZ) (wX ad cI cZ) A (fun P' T' => P' = P ∧ (∀ j, j ≠ 16 → j ≠ 17 → T' j = T j) ∧ (∀ j, j < nS P → T' 16 j = mx (T 16 j) (P 13 (nt P - 1) - slk P j (nt P - 1))) ∧ (∀ j, j < nS P → T' 17 j = mn (T 17 j) (P 13 (nt P - 1) + slk P j (nt P - 1))))) args s 0 0 A) 2 [(0, .ref (ad 6)), (1, .ref (ad 4)), (2, .ref (ad 1)), (3, .int (nI x))] [] P Tq := by
    intro f1
    induction f1 with
    | zero => intro x Tq hx hT hf hr hm; exact absurd hm (Nat.not_lt_zero _)
    | succ f1 ih2 =>
      intro x Tq hx hT hf hr hm2
      refine x_iload_n (q := 3) C dX0_tightenByLatest_2 rfl 3 rfl rfl ?_
      refine x_aload_n (q := 4) C dX0_tightenByLatest_3 rfl 2 rfl rfl ?_
      refine x_Vf (q := 7) (As := []) (rest := [.int (nI x)]) C (c_X2_howManySettings hD ) xs_X2_howManySettings tim_X2_howManySettings tsel_X2_howManySettings tml_X0_18 (by decide) 1 rfl (ci := 2) rfl rfl rfl (Nat.le_of_ble_eq_true rfl) dX0_tightenByLatest_4 rfl ?_
      refine x_topn (nS P) (okc_S (P := P) okc) ?_
      refine x_icmp_ge_n (q := 10) (tgt := 29) C dX0_tightenByLatest_7 (by omega) (by omega) (by decide) rfl (fun c7 => ?_) (fun c7 => ?_)
      · exact x_vret C dX0_tightenByLatest_29 ⟨rfl, hT, fun j hj => hf.1 j (by omega), fun j hj => hr.1 j (by omega)⟩
      · refine x_aload_n (q := 11) C dX0_tightenByLatest_10 rfl 0 rfl rfl ?_
        refine x_iload_n (q := 12) C dX0_tightenByLatest_11 rfl 3 rfl rfl ?_
        refine x_aload_n (q := 13) C dX0_tightenByLatest_12 rfl 1 rfl rfl ?_
        refine x_Vf (q := 16) (As := []) (rest := [.int (nI x), .ref (ad 6)]) C (c_X6_howMany hD ) xs_X6_howMany tim_X6_howMany tsel_X6_howMany tml_X0_30 (by decide) 4 rfl (ci := 6) rfl rfl rfl (Nat.le_of_ble_eq_true rfl) dX0_tightenByLatest_13 rfl ?_
        refine x_topn (nt P) (okc_nt (P := P) okc) ?_
        refine x_iconst (q := 17) (v := nI 1) C dX0_tightenByLatest_16 (by decide) rfl ?_
        refine x_isub_n (q := 18) C dX0_tightenByLatest_17 (by omega) rfl ?_
        refine x_aload_n (q := 19) C dX0_tightenByLatest_18 rfl 1 rfl rfl ?_
        refine x_aload_n (q := 20) C dX0_tightenByLatest_19 rfl 2 rfl rfl ?_
        refine x_Vg (q := 23) (As := [.int (nI x), .int (nI ((nt P) - 1)), .ref (ad 4), .ref (ad 1)]) (rest := []) C (c_X0_tighten hD ok x ((nt P) - 1) (by omega) (by omega)) xs_X0_tighten tim_X0_tighten tsel_X0_tighten tml_X0_35 (by decide) 6 rfl (ci := 0) rfl rfl rfl (Nat.le_of_ble_eq_true rfl) dX0_tightenByLatest_20 rfl ?_
        refine x_iinc (q := 26) (v := nI (x + 1)) (lv' := [(0, .ref (ad 6)), (1, .ref (ad 4)), (2, .ref (ad 1)), (3, .int (nI (x + 1)))]) C dX0_tightenByLatest_23 3 rfl (nI_add x 1) (by decide) rfl rfl rfl ?_
        refine x_goto (tgt := 2) C dX0_tightenByLatest_26 (by decide) ?_
        exact ih2 (x + 1) _ (by omega) (fun j h1 h2 => by rw [st1_ne h2, st1_ne h1]; exact hT j h1 h2) ⟨lt_s (fun j hj => by rw [st1_ne (by decide), st1_no (by omega)]; exact hf.1 j hj) (by rw [st1_ne (by decide), st1_at, hf.2 x (Nat.le_refl _)]), fun j hj => by rw [st1_ne (by decide), st1_no (by omega)]; exact hf.2 j (by omega)⟩ ⟨lt_s (fun j hj => by rw [st1_no (by omega), st1_ne (by decide)]; exact hr.1 j hj) (by rw [st1_at, hr.2 x (Nat.le_refl _)]), fun j hj => by rw [st1_no (by omega), st1_ne (by decide)]; exact hr.2 j (by omega)⟩ (by omega)
  exact L2 _ 0 _ (Nat.zero_le _) (fun _ _ _ => rfl) ⟨fun j hj => absurd hj (Nat.not_lt_zero j), fun _ _ => rfl⟩ ⟨fun j hj => absurd hj (Nat.not_lt_zero j), fun _ _ => rfl⟩ (Nat.lt_succ_self _)

set_option maxRecDepth 100000 in
set_option maxHeartbeats 4000000 in
theorem c_X0_greatestFloor (hD : ∀ P T, va_D A (wX ad cI cZ P T)) {P T : St} (L : List Nat) (hO : opn T L) (hlen : L.length ≤ 144) (hb : ∀ x ∈ L, x < 144) : XMI l D (tyz cI cZ) (wX ad cI cZ) A yX0_greatestFloor cX0_greatestFloor 4 (some .int) rmX0_greatestFloor [.ref (ad 6), .ref (ad 5)] P T (fun r P' T' => r = barX T L ∧ P' = P ∧ T' = T) := by
  refine x_start_i (lv := [(0, .ref (ad 6)), (1, .ref (ad 5))]) (own := RX0) (by decide) rfl hD (Nat.le_of_ble_eq_true rfl) rfl ?_
  intro p e s m args below meth c C
  refine x_ldc (q := 2) C tk_X0_28 dX0_greatestFloor_0 rfl ?_
  refine x_istore_n (q := 3) (lv' := [(0, .ref (ad 6)), (1, .ref (ad 5)), (2, .int ((-1000000)))]) C dX0_greatestFloor_2 rfl (by decide) rfl rfl rfl ?_
  refine x_iconst (q := 4) (v := nI 0) C dX0_greatestFloor_3 (by decide) rfl ?_
  refine x_istore_n (q := 5) (lv' := [(0, .ref (ad 6)), (1, .ref (ad 5)), (2, .int ((-1000000))), (3, .int (nI 0))]) C dX0_greatestFloor_4 rfl (by decide) rfl rfl rfl ?_
  have L5 : ∀ (f1 : Nat) (i : Nat) (a : Int32), (i ≤ L.length) → (a = gf (lk T L 16) i) → L.length - i < f1 → XW p l e rmX0_greatestFloor s m args below meth c D (wX ad cI cZ) A 4 (MQ below (XPI D (tyz cI cZ) (wX ad cI cZ) A (fun r P' T' => r = barX T L ∧ P' = P ∧ T' = T)) args s 0 0 A) 5 [(0, .ref (ad 6)), (1, .ref (ad 5)), (2, .int a), (3, .int (nI i))] [] P T := by
    intro f1
    induction f1 with
    | zero => intro i a hi ha hm; exact absurd hm (Nat.not_lt_zero _)
    | succ f1 ih5 =>
      intro i a hi ha hm5
      refine x_iload_n (q := 6) C dX0_greatestFloor_5 rfl 3 rfl rfl ?_
      refine x_aload_n (q := 7) C dX0_greatestFloor_6 rfl 1 rfl rfl ?_
      refine x_Vf (q := 10) (As := []) (rest := [.int (nI i)]) C (c_X3_howMany hD ) xs_X3_howMany tim_X3_howMany tsel_X3_howMany tml_X0_65 (by decide) 5 rfl (ci := 3) rfl rfl rfl (Nat.le_of_ble_eq_true rfl) dX0_greatestFloor_7 rfl ?_
      refine x_topn (L.length) hO.1 ?_
      refine x_icmp_ge_n (q := 13) (tgt := 34) C dX0_greatestFloor_10 (by omega) (by omega) (by decide) rfl (fun c10 => ?_) (fun c10 => ?_)
      · refine x_iload_n (q := 35) C dX0_greatestFloor_34 rfl 2 rfl rfl ?_
        exact x_iret C dX0_greatestFloor_35 ⟨by rw [ha, show i = L.length by omega]; rfl, rfl, rfl⟩
      · have hLb := hb _ (getD_mem (L := L) (i := i) (by omega))
        refine x_iload_n (q := 14) C dX0_greatestFloor_13 rfl 2 rfl rfl ?_
        refine x_aload_n (q := 15) C dX0_greatestFloor_14 rfl 0 rfl rfl ?_
        refine xg_X0_floors (q := 18) C tfl_X0_9 dX0_greatestFloor_15 rfl ?_
        refine x_aload_n (q := 19) C dX0_greatestFloor_18 rfl 1 rfl rfl ?_
        refine x_iload_n (q := 20) C dX0_greatestFloor_19 rfl 3 rfl rfl ?_
        refine x_Vf (q := 23) (As := [.int (nI i)]) (rest := [.ref (ad 24), .int a]) C (c_X3_settingAt hD i (by omega)) xs_X3_settingAt tim_X3_settingAt tsel_X3_settingAt tml_X0_68 (by decide) 5 rfl (ci := 3) rfl rfl rfl (Nat.le_of_ble_eq_true rfl) dX0_greatestFloor_20 rfl ?_
        refine x_topn (L.getD i 0) (hO.2 i (by omega)) ?_
        refine xa_X24 (q := 24) C (by omega) dX0_greatestFloor_23 rfl ?_
        refine x_mmax (q := 27) C tml_X0_53 tst_Mmax tini_Math tco_Mmax (by decide) (Nat.le_of_ble_eq_true rfl) dX0_greatestFloor_24 rfl ?_
        refine x_topi (fun z2 hz2 => ?_)
        refine x_istore_n (q := 28) (lv' := [(0, .ref (ad 6)), (1, .ref (ad 5)), (2, .int z2), (3, .int (nI i))]) C dX0_greatestFloor_27 rfl (by decide) rfl rfl rfl ?_
        refine x_iinc (q := 31) (v := nI (i + 1)) (lv' := [(0, .ref (ad 6)), (1, .ref (ad 5)), (2, .int z2), (3, .int (nI (i + 1)))]) C dX0_greatestFloor_28 3 rfl (nI_add i 1) (by decide) rfl rfl rfl ?_
        refine x_goto (tgt := 5) C dX0_greatestFloor_31 (by decide) ?_
        exact ih5 (i + 1) _ (by omega) (by rw [hz2, ha]; rfl) (by omega)
  exact L5 _ 0 _ (Nat.zero_le _) rfl (Nat.lt_succ_self _)

set_option maxRecDepth 100000 in
set_option maxHeartbeats 4000000 in
theorem c_X0_howManyLeft (hD : ∀ P T, va_D A (wX ad cI cZ P T)) {P T : St} (L : List Nat) (hO : opn T L) (hlen : L.length ≤ 144) (hb : ∀ x ∈ L, x < 144) : XMI l D (tyz cI cZ) (wX ad cI cZ) A yX0_howManyLeft cX0_howManyLeft 5 (some .int) rmX0_howManyLeft [.ref (ad 6), .ref (ad 5)] P T (fun r P' T' => r = nI (lmX T L) ∧ P' = P ∧ T' = T) := by
  refine x_start_i (lv := [(0, .ref (ad 6)), (1, .ref (ad 5))]) (own := RX0) (by decide) rfl hD (Nat.le_of_ble_eq_true rfl) rfl ?_
  intro p e s m args below meth c C
  refine x_aload_n (q := 1) C dX0_howManyLeft_0 rfl 0 rfl rfl ?_
  refine x_aload_n (q := 2) C dX0_howManyLeft_1 rfl 1 rfl rfl ?_
  refine x_Vf (q := 5) (As := [.ref (ad 5)]) (rest := []) C (c_X0_greatestFloor hD L hO hlen hb ) xs_X0_greatestFloor tim_X0_greatestFloor tsel_X0_greatestFloor tml_X0_61 (by decide) 6 rfl (ci := 0) rfl rfl rfl (Nat.le_of_ble_eq_true rfl) dX0_howManyLeft_2 rfl ?_
  refine x_istore_n (q := 6) (lv' := [(0, .ref (ad 6)), (1, .ref (ad 5)), (2, .int (barX T L))]) C dX0_howManyLeft_5 rfl (by decide) rfl rfl rfl ?_
  refine x_iconst (q := 7) (v := nI 0) C dX0_howManyLeft_6 (by decide) rfl ?_
  refine x_istore_n (q := 8) (lv' := [(0, .ref (ad 6)), (1, .ref (ad 5)), (2, .int (barX T L)), (3, .int (nI 0))]) C dX0_howManyLeft_7 rfl (by decide) rfl rfl rfl ?_
  refine x_iconst (q := 9) (v := nI 0) C dX0_howManyLeft_8 (by decide) rfl ?_
  refine x_istore (q := 11) (lv' := [(0, .ref (ad 6)), (1, .ref (ad 5)), (2, .int (barX T L)), (3, .int (nI 0)), (4, .int (nI 0))]) C dX0_howManyLeft_9 (by decide) rfl rfl rfl ?_
  have L11 : ∀ (f1 : Nat) (i : Nat) (n : Nat), (i ≤ L.length) → (n = fa_cnt (fun i => decide (barX T L ≤ lk T L 17 i)) i) → L.length - i < f1 → XW p l e rmX0_howManyLeft s m args below meth c D (wX ad cI cZ) A 5 (MQ below (XPI D (tyz cI cZ) (wX ad cI cZ) A (fun r P' T' => r = nI (lmX T L) ∧ P' = P ∧ T' = T)) args s 0 0 A) 11 [(0, .ref (ad 6)), (1, .ref (ad 5)), (2, .int (barX T L)), (3, .int (nI n)), (4, .int (nI i))] [] P T := by
    intro f1
    induction f1 with
    | zero => intro i n hi hn hm; exact absurd hm (Nat.not_lt_zero _)
    | succ f1 ih11 =>
      intro i n hi hn hm11
      refine x_iload (q := 13) C dX0_howManyLeft_11 4 rfl rfl ?_
      refine x_aload_n (q := 14) C dX0_howManyLeft_13 rfl 1 rfl rfl ?_
      refine x_Vf (q := 17) (As := []) (rest := [.int (nI i)]) C (c_X3_howMany hD ) xs_X3_howMany tim_X3_howMany tsel_X3_howMany tml_X0_65 (by decide) 5 rfl (ci := 3) rfl rfl rfl (Nat.le_of_ble_eq_true rfl) dX0_howManyLeft_14 rfl ?_
      refine x_topn (L.length) hO.1 ?_
      refine x_icmp_ge_n (q := 20) (tgt := 44) C dX0_howManyLeft_17 (by omega) (by omega) (by decide) rfl (fun c17 => ?_) (fun c17 => ?_)
      · refine x_iload_n (q := 45) C dX0_howManyLeft_44 rfl 3 rfl rfl ?_
        exact x_iret C dX0_howManyLeft_45 ⟨by rw [hn, show i = L.length by omega]; rfl, rfl, rfl⟩
      · have hLb := hb _ (getD_mem (L := L) (i := i) (by omega))
        refine x_aload_n (q := 21) C dX0_howManyLeft_20 rfl 0 rfl rfl ?_
        refine xg_X0_roofs (q := 24) C tfl_X0_15 dX0_howManyLeft_21 rfl ?_
        refine x_aload_n (q := 25) C dX0_howManyLeft_24 rfl 1 rfl rfl ?_
        refine x_iload (q := 27) C dX0_howManyLeft_25 4 rfl rfl ?_
        refine x_Vf (q := 30) (As := [.int (nI i)]) (rest := [.ref (ad 25)]) C (c_X3_settingAt hD i (by omega)) xs_X3_settingAt tim_X3_settingAt tsel_X3_settingAt tml_X0_68 (by decide) 5 rfl (ci := 3) rfl rfl rfl (Nat.le_of_ble_eq_true rfl) dX0_howManyLeft_27 rfl ?_
        refine x_topn (L.getD i 0) (hO.2 i (by omega)) ?_
        refine xa_X25 (q := 31) C (by omega) dX0_howManyLeft_30 rfl ?_
        refine x_iload_n (q := 32) C dX0_howManyLeft_31 rfl 2 rfl rfl ?_
        refine x_icmp_lt (q := 35) (tgt := 38) C dX0_howManyLeft_32 (by decide) rfl (fun c32 => ?_) (fun c32 => ?_)
        · refine x_iinc (q := 41) (v := nI (i + 1)) (lv' := [(0, .ref (ad 6)), (1, .ref (ad 5)), (2, .int (barX T L)), (3, .int (nI n)), (4, .int (nI (i + 1)))]) C dX0_howManyLeft_38 4 rfl (nI_add i 1) (by decide) rfl rfl rfl ?_
          refine x_goto (tgt := 11) C dX0_howManyLeft_41 (by decide) ?_
          exact ih11 (i + 1) n (by omega) (cnt_n hn (decide_eq_false (Int32.not_le.mpr c32))) (by omega)
        · refine x_iinc (q := 38) (v := nI (n + 1)) (lv' := [(0, .ref (ad 6)), (1, .ref (ad 5)), (2, .int (barX T L)), (3, .int (nI (n + 1))), (4, .int (nI i))]) C dX0_howManyLeft_35 3 rfl (nI_add n 1) (by decide) rfl rfl rfl ?_
          refine x_iinc (q := 41) (v := nI (i + 1)) (lv' := [(0, .ref (ad 6)), (1, .ref (ad 5)), (2, .int (barX T L)), (3, .int (nI (n + 1))), (4, .int (nI (i + 1)))]) C dX0_howManyLeft_38 4 rfl (nI_add i 1) (by decide) rfl rfl rfl ?_
          refine x_goto (tgt := 11) C dX0_howManyLeft_41 (by decide) ?_
          exact ih11 (i + 1) (n + 1) (by omega) (cnt_y hn (decide_eq_true (fa_of_nlt c32))) (by omega)
  exact L11 _ 0 0 (Nat.zero_le _) rfl (Nat.lt_succ_self _)

set_option maxRecDepth 100000 in
set_option maxHeartbeats 4000000 in
theorem c_X0_nextOf (hD : ∀ P T, va_D A (wX ad cI cZ P T)) {P T : St} (L : List Nat) (hO : opn T L) (hlen : L.length ≤ 144) (hb : ∀ x ∈ L, x < 144) : XMI l D (tyz cI cZ) (wX ad cI cZ) A yX0_nextOf cX0_nextOf 6 (some .int) rmX0_nextOf [.ref (ad 6), .ref (ad 5)] P T (fun r P' T' => r = noX T L L.length ∧ P' = P ∧ T' = T) := by
  refine x_start_i (lv := [(0, .ref (ad 6)), (1, .ref (ad 5))]) (own := RX0) (by decide) rfl hD (Nat.le_of_ble_eq_true rfl) rfl ?_
  intro p e s m args below meth c C
  refine x_aload_n (q := 1) C dX0_nextOf_0 rfl 0 rfl rfl ?_
  refine x_aload_n (q := 2) C dX0_nextOf_1 rfl 1 rfl rfl ?_
  refine x_Vf (q := 5) (As := [.ref (ad 5)]) (rest := []) C (c_X0_greatestFloor hD L hO hlen hb ) xs_X0_greatestFloor tim_X0_greatestFloor tsel_X0_greatestFloor tml_X0_61 (by decide) 6 rfl (ci := 0) rfl rfl rfl (Nat.le_of_ble_eq_true rfl) dX0_nextOf_2 rfl ?_
  refine x_istore_n (q := 6) (lv' := [(0, .ref (ad 6)), (1, .ref (ad 5)), (2, .int (barX T L))]) C dX0_nextOf_5 rfl (by decide) rfl rfl rfl ?_
  refine x_bipush (q := 8) (v := (-4)) C dX0_nextOf_6 (by decide) rfl ?_
  refine x_istore_n (q := 9) (lv' := [(0, .ref (ad 6)), (1, .ref (ad 5)), (2, .int (barX T L)), (3, .int ((-4)))]) C dX0_nextOf_8 rfl (by decide) rfl rfl rfl ?_
  refine x_iconst (q := 10) (v := nI 0) C dX0_nextOf_9 (by decide) rfl ?_
  refine x_istore (q := 12) (lv' := [(0, .ref (ad 6)), (1, .ref (ad 5)), (2, .int (barX T L)), (3, .int ((-4))), (4, .int (nI 0))]) C dX0_nextOf_10 (by decide) rfl rfl rfl ?_
  have L12 : ∀ (f1 : Nat) (i : Nat) (o : Option Nat), (i ≤ L.length) → (o = nxo (lk T L 17) (barX T L) i) → L.length - i < f1 → XW p l e rmX0_nextOf s m args below meth c D (wX ad cI cZ) A 6 (MQ below (XPI D (tyz cI cZ) (wX ad cI cZ) A (fun r P' T' => r = noX T L L.length ∧ P' = P ∧ T' = T)) args s 0 0 A) 12 [(0, .ref (ad 6)), (1, .ref (ad 5)), (2, .int (barX T L)), (3, .int (nov L o)), (4, .int (nI i))] [] P T := by
    intro f1
    induction f1 with
    | zero => intro i o hi ho hm; exact absurd hm (Nat.not_lt_zero _)
    | succ f1 ih12 =>
      intro i o hi ho hm12
      refine x_iload (q := 14) C dX0_nextOf_12 4 rfl rfl ?_
      refine x_aload_n (q := 15) C dX0_nextOf_14 rfl 1 rfl rfl ?_
      refine x_Vf (q := 18) (As := []) (rest := [.int (nI i)]) C (c_X3_howMany hD ) xs_X3_howMany tim_X3_howMany tsel_X3_howMany tml_X0_65 (by decide) 5 rfl (ci := 3) rfl rfl rfl (Nat.le_of_ble_eq_true rfl) dX0_nextOf_15 rfl ?_
      refine x_topn (L.length) hO.1 ?_
      refine x_icmp_ge_n (q := 21) (tgt := 71) C dX0_nextOf_18 (by omega) (by omega) (by decide) rfl (fun c18 => ?_) (fun c18 => ?_)
      · refine x_iload_n (q := 72) C dX0_nextOf_71 rfl 3 rfl rfl ?_
        exact x_iret C dX0_nextOf_72 ⟨by rw [noX_eq, ho, show i = L.length by omega], rfl, rfl⟩
      · have hLb := hb _ (getD_mem (L := L) (i := i) (by omega))
        refine x_aload_n (q := 22) C dX0_nextOf_21 rfl 1 rfl rfl ?_
        refine x_iload (q := 24) C dX0_nextOf_22 4 rfl rfl ?_
        refine x_Vf (q := 27) (As := [.int (nI i)]) (rest := []) C (c_X3_settingAt hD i (by omega)) xs_X3_settingAt tim_X3_settingAt tsel_X3_settingAt tml_X0_68 (by decide) 5 rfl (ci := 3) rfl rfl rfl (Nat.le_of_ble_eq_true rfl) dX0_nextOf_24 rfl ?_
        refine x_topn (L.getD i 0) (hO.2 i (by omega)) ?_
        refine x_istore (q := 29) (lv' := [(0, .ref (ad 6)), (1, .ref (ad 5)), (2, .int (barX T L)), (3, .int (nov L o)), (4, .int (nI i)), (5, .int (nI (L.getD i 0)))]) C dX0_nextOf_27 (by decide) rfl rfl rfl ?_
        refine x_aload_n (q := 30) C dX0_nextOf_29 rfl 0 rfl rfl ?_
        refine xg_X0_roofs (q := 33) C tfl_X0_15 dX0_nextOf_30 rfl ?_
        refine x_iload (q := 35) C dX0_nextOf_33 5 rfl rfl ?_
        refine xa_X25 (q := 36) C (by omega) dX0_nextOf_35 rfl ?_
        refine x_iload_n (q := 37) C dX0_nextOf_36 rfl 2 rfl rfl ?_
        refine x_icmp_lt (q := 40) (tgt := 65) C dX0_nextOf_37 (by decide) rfl (fun c37 => ?_) (fun c37 => ?_)
        · refine x_iinc (q := 68) (v := nI (i + 1)) (lv' := [(0, .ref (ad 6)), (1, .ref (ad 5)), (2, .int (barX T L)), (3, .int (nov L o)), (4, .int (nI (i + 1))), (5, .int (nI (L.getD i 0)))]) C dX0_nextOf_65 4 rfl (nI_add i 1) (by decide) rfl rfl rfl ?_
          refine x_goto (tgt := 12) C dX0_nextOf_68 (by decide) ?_
          refine x_lv [0, 1, 2, 3, 4] rfl ?_
          exact ih12 (i + 1) o (by omega) (by rw [nxo_low (f := lk T L 17) (n := i) c37]; exact ho) (by omega)
        · refine x_iload_n (q := 41) C dX0_nextOf_40 rfl 3 rfl rfl ?_
          refine x_bipush (q := 43) (v := (-4)) C dX0_nextOf_41 (by decide) rfl ?_
          refine x_icmp_eq (q := 46) (tgt := 62) C dX0_nextOf_43 (by decide) rfl (fun c43 => ?_) (fun c43 => ?_)
          · obtain rfl := nov_none hb hi (fun j hj => nxo_lt (by rw [← ho]; exact hj)) c43
            refine x_iload (q := 64) C dX0_nextOf_62 5 rfl rfl ?_
            refine x_istore_n (q := 65) (lv' := [(0, .ref (ad 6)), (1, .ref (ad 5)), (2, .int (barX T L)), (3, .int (nI (L.getD i 0))), (4, .int (nI i)), (5, .int (nI (L.getD i 0)))]) C dX0_nextOf_64 rfl (by decide) rfl rfl rfl ?_
            refine x_iinc (q := 68) (v := nI (i + 1)) (lv' := [(0, .ref (ad 6)), (1, .ref (ad 5)), (2, .int (barX T L)), (3, .int (nI (L.getD i 0))), (4, .int (nI (i + 1))), (5, .int (nI (L.getD i 0)))]) C dX0_nextOf_65 4 rfl (nI_add i 1) (by decide) rfl rfl rfl ?_
            refine x_goto (tgt := 12) C dX0_nextOf_68 (by decide) ?_
            refine x_lv [0, 1, 2, 3, 4] rfl ?_
            exact ih12 (i + 1) (some i) (by omega) (by first | exact (nxo_in0 (f := lk T L 17) (n := i) (fa_of_nlt c37) ho.symm).symm | exact (nxo_in1 (f := lk T L 17) (n := i) (fa_of_nlt c37) ho.symm (fa_of_nle c59)).symm) (by omega)
          · obtain ⟨j, rfl⟩ := nov_some c43
            have hjL := hb _ (getD_mem (L := L) (i := j) (by have := nxo_lt ho.symm; omega))
            refine x_aload_n (q := 47) C dX0_nextOf_46 rfl 0 rfl rfl ?_
            refine xg_X0_roofs (q := 50) C tfl_X0_15 dX0_nextOf_47 rfl ?_
            refine x_iload (q := 52) C dX0_nextOf_50 5 rfl rfl ?_
            refine xa_X25 (q := 53) C (by omega) dX0_nextOf_52 rfl ?_
            refine x_aload_n (q := 54) C dX0_nextOf_53 rfl 0 rfl rfl ?_
            refine xg_X0_roofs (q := 57) C tfl_X0_15 dX0_nextOf_54 rfl ?_
            refine x_iload_n (q := 58) C dX0_nextOf_57 rfl 3 rfl rfl ?_
            refine x_topn (L.getD j 0) rfl ?_
            refine xa_X25 (q := 59) C (by omega) dX0_nextOf_58 rfl ?_
            refine x_icmp_le (q := 62) (tgt := 65) C dX0_nextOf_59 (by decide) rfl (fun c59 => ?_) (fun c59 => ?_)
            · refine x_iinc (q := 68) (v := nI (i + 1)) (lv' := [(0, .ref (ad 6)), (1, .ref (ad 5)), (2, .int (barX T L)), (3, .int (nov L (some j))), (4, .int (nI (i + 1))), (5, .int (nI (L.getD i 0)))]) C dX0_nextOf_65 4 rfl (nI_add i 1) (by decide) rfl rfl rfl ?_
              refine x_goto (tgt := 12) C dX0_nextOf_68 (by decide) ?_
              refine x_lv [0, 1, 2, 3, 4] rfl ?_
              exact ih12 (i + 1) (some j) (by omega) (nxo_no (f := lk T L 17) (n := i) ho.symm c59).symm (by omega)
            · refine x_iload (q := 64) C dX0_nextOf_62 5 rfl rfl ?_
              refine x_istore_n (q := 65) (lv' := [(0, .ref (ad 6)), (1, .ref (ad 5)), (2, .int (barX T L)), (3, .int (nI (L.getD i 0))), (4, .int (nI i)), (5, .int (nI (L.getD i 0)))]) C dX0_nextOf_64 rfl (by decide) rfl rfl rfl ?_
              refine x_iinc (q := 68) (v := nI (i + 1)) (lv' := [(0, .ref (ad 6)), (1, .ref (ad 5)), (2, .int (barX T L)), (3, .int (nI (L.getD i 0))), (4, .int (nI (i + 1))), (5, .int (nI (L.getD i 0)))]) C dX0_nextOf_65 4 rfl (nI_add i 1) (by decide) rfl rfl rfl ?_
              refine x_goto (tgt := 12) C dX0_nextOf_68 (by decide) ?_
              refine x_lv [0, 1, 2, 3, 4] rfl ?_
              exact ih12 (i + 1) (some i) (by omega) (by first | exact (nxo_in0 (f := lk T L 17) (n := i) (fa_of_nlt c37) ho.symm).symm | exact (nxo_in1 (f := lk T L 17) (n := i) (fa_of_nlt c37) ho.symm (fa_of_nle c59)).symm) (by omega)
  exact L12 _ 0 none (Nat.zero_le _) rfl (Nat.lt_succ_self _)

end BOUNDS
