section TRIALS
variable {l : Launch} {D : va_G} {ad : Nat → Nat} {cI cZ : ClassId} {A : Nat → Prop}

set_option maxRecDepth 100000 in
set_option maxHeartbeats 4000000 in
theorem c_X6_howMany (hD : ∀ P T, va_D A (wX ad cI cZ P T)) {P T : St} : XMI l D (tyz cI cZ) (wX ad cI cZ) A yX6_howMany cX6_howMany 1 (some .int) rmX6_howMany [.ref (ad 4)] P T (fun r P' T' => r = P 24 0 ∧ P' = P ∧ T' = T) := by
  refine x_start_i (lv := [(0, .ref (ad 4))]) (own := RX6) (by decide) rfl hD (Nat.le_of_ble_eq_true rfl) rfl ?_
  intro p e s m args below meth c C
  refine x_aload_n (q := 1) C dX6_howMany_0 rfl 0 rfl rfl ?_
  refine xg_X6_many (q := 4) C tfl_X6_9 dX6_howMany_1 rfl ?_
  exact x_iret C dX6_howMany_4 ⟨rfl, rfl, rfl⟩

set_option maxRecDepth 100000 in
set_option maxHeartbeats 4000000 in
theorem c_X6_currentNoise (hD : ∀ P T, va_D A (wX ad cI cZ P T)) {P T : St} : XMI l D (tyz cI cZ) (wX ad cI cZ) A yX6_currentNoise cX6_currentNoise 1 (some .int) rmX6_currentNoise [.ref (ad 4)] P T (fun r P' T' => r = P 25 0 ∧ P' = P ∧ T' = T) := by
  refine x_start_i (lv := [(0, .ref (ad 4))]) (own := RX6) (by decide) rfl hD (Nat.le_of_ble_eq_true rfl) rfl ?_
  intro p e s m args below meth c C
  refine x_aload_n (q := 1) C dX6_currentNoise_0 rfl 0 rfl rfl ?_
  refine xg_X6_noise (q := 4) C tfl_X6_15 dX6_currentNoise_1 rfl ?_
  exact x_iret C dX6_currentNoise_4 ⟨rfl, rfl, rfl⟩

set_option maxRecDepth 100000 in
set_option maxHeartbeats 4000000 in
theorem c_X5_howMany (hD : ∀ P T, va_D A (wX ad cI cZ P T)) {P T : St} : XMI l D (tyz cI cZ) (wX ad cI cZ) A yX5_howMany cX5_howMany 1 (some .int) rmX5_howMany [.ref (ad 2)] P T (fun r P' T' => r = P 22 0 ∧ P' = P ∧ T' = T) := by
  refine x_start_i (lv := [(0, .ref (ad 2))]) (own := RX5) (by decide) rfl hD (Nat.le_of_ble_eq_true rfl) rfl ?_
  intro p e s m args below meth c C
  refine x_aload_n (q := 1) C dX5_howMany_0 rfl 0 rfl rfl ?_
  refine xg_X5_many (q := 4) C tfl_X5_9 dX5_howMany_1 rfl ?_
  exact x_iret C dX5_howMany_4 ⟨rfl, rfl, rfl⟩

set_option maxRecDepth 100000 in
set_option maxHeartbeats 4000000 in
theorem c_X6_settingAt (hD : ∀ P T, va_D A (wX ad cI cZ P T)) {P T : St} (i : Nat) (hi : i < 60) : XMI l D (tyz cI cZ) (wX ad cI cZ) A yX6_settingAt cX6_settingAt 2 (some .int) rmX6_settingAt [.ref (ad 4), .int (nI i)] P T (fun r P' T' => r = P 12 i ∧ P' = P ∧ T' = T) := by
  refine x_start_i (lv := [(0, .ref (ad 4)), (1, .int (nI i))]) (own := RX6) (by decide) rfl hD (Nat.le_of_ble_eq_true rfl) rfl ?_
  intro p e s m args below meth c C
  refine x_aload_n (q := 1) C dX6_settingAt_0 rfl 0 rfl rfl ?_
  refine xg_X6_settings (q := 4) C tfl_X6_21 dX6_settingAt_1 rfl ?_
  refine x_iload_n (q := 5) C dX6_settingAt_4 rfl 1 rfl rfl ?_
  refine xa_X20 (q := 6) C (by omega) dX6_settingAt_5 rfl ?_
  exact x_iret C dX6_settingAt_6 ⟨rfl, rfl, rfl⟩

set_option maxRecDepth 100000 in
set_option maxHeartbeats 4000000 in
theorem c_X6_readingAt (hD : ∀ P T, va_D A (wX ad cI cZ P T)) {P T : St} (i : Nat) (hi : i < 60) : XMI l D (tyz cI cZ) (wX ad cI cZ) A yX6_readingAt cX6_readingAt 2 (some .int) rmX6_readingAt [.ref (ad 4), .int (nI i)] P T (fun r P' T' => r = P 13 i ∧ P' = P ∧ T' = T) := by
  refine x_start_i (lv := [(0, .ref (ad 4)), (1, .int (nI i))]) (own := RX6) (by decide) rfl hD (Nat.le_of_ble_eq_true rfl) rfl ?_
  intro p e s m args below meth c C
  refine x_aload_n (q := 1) C dX6_readingAt_0 rfl 0 rfl rfl ?_
  refine xg_X6_readings (q := 4) C tfl_X6_25 dX6_readingAt_1 rfl ?_
  refine x_iload_n (q := 5) C dX6_readingAt_4 rfl 1 rfl rfl ?_
  refine xa_X21 (q := 6) C (by omega) dX6_readingAt_5 rfl ?_
  exact x_iret C dX6_readingAt_6 ⟨rfl, rfl, rfl⟩

set_option maxRecDepth 100000 in
set_option maxHeartbeats 4000000 in
theorem c_X6_isFull (hD : ∀ P T, va_D A (wX ad cI cZ P T)) {P T : St} : XMI l D (tyz cI cZ) (wX ad cI cZ) A yX6_isFull cX6_isFull 1 (some .boolean) rmX6_isFull [.ref (ad 4)] P T (fun r P' T' => r = bI (nI 60 ≤ P 24 0) ∧ P' = P ∧ T' = T) := by
  refine x_start_i (lv := [(0, .ref (ad 4))]) (own := RX6) (by decide) rfl hD (Nat.le_of_ble_eq_true rfl) rfl ?_
  intro p e s m args below meth c C
  refine x_aload_n (q := 1) C dX6_isFull_0 rfl 0 rfl rfl ?_
  refine xg_X6_many (q := 4) C tfl_X6_9 dX6_isFull_1 rfl ?_
  refine x_bipush (q := 6) (v := nI 60) C dX6_isFull_4 (by decide) rfl ?_
  refine x_icmp_lt (q := 9) (tgt := 13) C dX6_isFull_6 (by decide) rfl (fun c6 => ?_) (fun c6 => ?_)
  · refine x_iconst (q := 14) (v := nI 0) C dX6_isFull_13 (by decide) rfl ?_
    exact x_zret C dX6_isFull_14 rfl ⟨bI_f (by simp only [isT, fa_lt, fa_le] at *; omega), rfl, rfl⟩
  · refine x_iconst (q := 10) (v := nI 1) C dX6_isFull_9 (by decide) rfl ?_
    refine x_goto (tgt := 14) C dX6_isFull_10 (by decide) ?_
    exact x_zret C dX6_isFull_14 rfl ⟨bI_t (by simp only [isT, fa_lt, fa_le] at *; omega), rfl, rfl⟩

set_option maxRecDepth 100000 in
set_option maxHeartbeats 4000000 in
theorem c_X5_isFull (hD : ∀ P T, va_D A (wX ad cI cZ P T)) {P T : St} : XMI l D (tyz cI cZ) (wX ad cI cZ) A yX5_isFull cX5_isFull 1 (some .boolean) rmX5_isFull [.ref (ad 2)] P T (fun r P' T' => r = bI (nI 12 ≤ P 22 0) ∧ P' = P ∧ T' = T) := by
  refine x_start_i (lv := [(0, .ref (ad 2))]) (own := RX5) (by decide) rfl hD (Nat.le_of_ble_eq_true rfl) rfl ?_
  intro p e s m args below meth c C
  refine x_aload_n (q := 1) C dX5_isFull_0 rfl 0 rfl rfl ?_
  refine xg_X5_many (q := 4) C tfl_X5_9 dX5_isFull_1 rfl ?_
  refine x_bipush (q := 6) (v := nI 12) C dX5_isFull_4 (by decide) rfl ?_
  refine x_icmp_lt (q := 9) (tgt := 13) C dX5_isFull_6 (by decide) rfl (fun c6 => ?_) (fun c6 => ?_)
  · refine x_iconst (q := 14) (v := nI 0) C dX5_isFull_13 (by decide) rfl ?_
    exact x_zret C dX5_isFull_14 rfl ⟨bI_f (by simp only [isT, fa_lt, fa_le] at *; omega), rfl, rfl⟩
  · refine x_iconst (q := 10) (v := nI 1) C dX5_isFull_9 (by decide) rfl ?_
    refine x_goto (tgt := 14) C dX5_isFull_10 (by decide) ?_
    exact x_zret C dX5_isFull_14 rfl ⟨bI_t (by simp only [isT, fa_lt, fa_le] at *; omega), rfl, rfl⟩

set_option maxRecDepth 100000 in
set_option maxHeartbeats 4000000 in
theorem c_X6_has (hD : ∀ P T, va_D A (wX ad cI cZ P T)) {P T : St} (i : Int32) : XMI l D (tyz cI cZ) (wX ad cI cZ) A yX6_has cX6_has 2 (some .boolean) rmX6_has [.ref (ad 4), .int i] P T (fun r P' T' => r = bI (isT P i) ∧ P' = P ∧ T' = T) := by
  refine x_start_i (lv := [(0, .ref (ad 4)), (1, .int i)]) (own := RX6) (by decide) rfl hD (Nat.le_of_ble_eq_true rfl) rfl ?_
  intro p e s m args below meth c C
  refine x_iload_n (q := 1) C dX6_has_0 rfl 1 rfl rfl ?_
  refine x_if_lt (q := 4) (tgt := 16) C dX6_has_1 (by decide) rfl (fun c1 => ?_) (fun c1 => ?_)
  · refine x_iconst (q := 17) (v := nI 0) C dX6_has_16 (by decide) rfl ?_
    exact x_zret C dX6_has_17 rfl ⟨bI_f (by simp only [isT, fa_lt, fa_le] at *; omega), rfl, rfl⟩
  · refine x_iload_n (q := 5) C dX6_has_4 rfl 1 rfl rfl ?_
    refine x_aload_n (q := 6) C dX6_has_5 rfl 0 rfl rfl ?_
    refine xg_X6_many (q := 9) C tfl_X6_9 dX6_has_6 rfl ?_
    refine x_icmp_ge (q := 12) (tgt := 16) C dX6_has_9 (by decide) rfl (fun c9 => ?_) (fun c9 => ?_)
    · refine x_iconst (q := 17) (v := nI 0) C dX6_has_16 (by decide) rfl ?_
      exact x_zret C dX6_has_17 rfl ⟨bI_f (by simp only [isT, fa_lt, fa_le] at *; omega), rfl, rfl⟩
    · refine x_iconst (q := 13) (v := nI 1) C dX6_has_12 (by decide) rfl ?_
      refine x_goto (tgt := 17) C dX6_has_13 (by decide) ?_
      exact x_zret C dX6_has_17 rfl ⟨bI_t (by simp only [isT, fa_lt, fa_le] at *; omega), rfl, rfl⟩

set_option maxRecDepth 100000 in
set_option maxHeartbeats 4000000 in
theorem c_X6_changeNoise (hD : ∀ P T, va_D A (wX ad cI cZ P T)) {P T : St} (x : Int32) : XMI l D (tyz cI cZ) (wX ad cI cZ) A yX6_changeNoise cX6_changeNoise 3 (some .int) rmX6_changeNoise [.ref (ad 4), .int x] P T (fun r P' T' => r = P 25 0 ∧ P' = st1 P 25 0 x ∧ T' = T) := by
  refine x_start_i (lv := [(0, .ref (ad 4)), (1, .int x)]) (own := RX6) (by decide) rfl hD (Nat.le_of_ble_eq_true rfl) rfl ?_
  intro p e s m args below meth c C
  refine x_aload_n (q := 1) C dX6_changeNoise_0 rfl 0 rfl rfl ?_
  refine xg_X6_noise (q := 4) C tfl_X6_15 dX6_changeNoise_1 rfl ?_
  refine x_istore_n (q := 5) (lv' := [(0, .ref (ad 4)), (1, .int x), (2, .int (P 25 0))]) C dX6_changeNoise_4 rfl (by decide) rfl rfl rfl ?_
  refine x_aload_n (q := 6) C dX6_changeNoise_5 rfl 0 rfl rfl ?_
  refine x_iload_n (q := 7) C dX6_changeNoise_6 rfl 1 rfl rfl ?_
  refine xp_X6_noise (q := 10) C tfl_X6_15 dX6_changeNoise_7 rfl ?_
  refine x_iload_n (q := 11) C dX6_changeNoise_10 rfl 2 rfl rfl ?_
  exact x_iret C dX6_changeNoise_11 ⟨rfl, rfl, rfl⟩

set_option maxRecDepth 100000 in
set_option maxHeartbeats 4000000 in
theorem c_X1_changeBase (hD : ∀ P T, va_D A (wX ad cI cZ P T)) {P T : St} (x : Int32) : XMI l D (tyz cI cZ) (wX ad cI cZ) A yX1_changeBase cX1_changeBase 3 (some .int) rmX1_changeBase [.ref (ad 3), .int x] P T (fun r P' T' => r = P 23 0 ∧ P' = st1 P 23 0 x ∧ T' = T) := by
  refine x_start_i (lv := [(0, .ref (ad 3)), (1, .int x)]) (own := RX1) (by decide) rfl hD (Nat.le_of_ble_eq_true rfl) rfl ?_
  intro p e s m args below meth c C
  refine x_aload_n (q := 1) C dX1_changeBase_0 rfl 0 rfl rfl ?_
  refine xg_X1_base (q := 4) C tfl_X1_9 dX1_changeBase_1 rfl ?_
  refine x_istore_n (q := 5) (lv' := [(0, .ref (ad 3)), (1, .int x), (2, .int (P 23 0))]) C dX1_changeBase_4 rfl (by decide) rfl rfl rfl ?_
  refine x_aload_n (q := 6) C dX1_changeBase_5 rfl 0 rfl rfl ?_
  refine x_iload_n (q := 7) C dX1_changeBase_6 rfl 1 rfl rfl ?_
  refine xp_X1_base (q := 10) C tfl_X1_9 dX1_changeBase_7 rfl ?_
  refine x_iload_n (q := 11) C dX1_changeBase_10 rfl 2 rfl rfl ?_
  exact x_iret C dX1_changeBase_11 ⟨rfl, rfl, rfl⟩

set_option maxRecDepth 100000 in
set_option maxHeartbeats 4000000 in
theorem c_X6_changeSeed (hD : ∀ P T, va_D A (wX ad cI cZ P T)) {P T : St} (x : Int32) : XMV l D (tyz cI cZ) (wX ad cI cZ) A yX6_changeSeed cX6_changeSeed 2 none rmX6_changeSeed [.ref (ad 4), .int x] P T (fun P' T' => P' = st1 P 26 0 x ∧ T' = T) := by
  refine x_start_v (lv := [(0, .ref (ad 4)), (1, .int x)]) (own := RX6) (by decide) rfl hD (Nat.le_of_ble_eq_true rfl) rfl ?_
  intro p e s m args below meth c C
  refine x_aload_n (q := 1) C dX6_changeSeed_0 rfl 0 rfl rfl ?_
  refine x_iload_n (q := 2) C dX6_changeSeed_1 rfl 1 rfl rfl ?_
  refine xp_X6_seed (q := 5) C tfl_X6_18 dX6_changeSeed_2 rfl ?_
  exact x_vret C dX6_changeSeed_5 ⟨rfl, rfl⟩

set_option maxRecDepth 100000 in
set_option maxHeartbeats 4000000 in
theorem c_X6_clear (hD : ∀ P T, va_D A (wX ad cI cZ P T)) {P T : St} : XMV l D (tyz cI cZ) (wX ad cI cZ) A yX6_clear cX6_clear 1 none rmX6_clear [.ref (ad 4)] P T (fun P' T' => P' = st1 P 24 0 (nI 0) ∧ T' = T) := by
  refine x_start_v (lv := [(0, .ref (ad 4))]) (own := RX6) (by decide) rfl hD (Nat.le_of_ble_eq_true rfl) rfl ?_
  intro p e s m args below meth c C
  refine x_aload_n (q := 1) C dX6_clear_0 rfl 0 rfl rfl ?_
  refine x_iconst (q := 2) (v := nI 0) C dX6_clear_1 (by decide) rfl ?_
  refine xp_X6_many (q := 5) C tfl_X6_9 dX6_clear_2 rfl ?_
  exact x_vret C dX6_clear_5 ⟨rfl, rfl⟩

set_option maxRecDepth 100000 in
set_option maxHeartbeats 4000000 in
theorem c_X6_drawNoise (hD : ∀ P T, va_D A (wX ad cI cZ P T)) {P T : St} (sd z : Nat) (h1 : P 26 0 = nI sd) (h2 : sd < 1073741824) (h3 : P 25 0 = nI z) (h4 : z ≤ 50) : XMI l D (tyz cI cZ) (wX ad cI cZ) A yX6_drawNoise cX6_drawNoise 1 (some .int) rmX6_drawNoise [.ref (ad 4)] P T (fun r P' T' => r = dnz sd z ∧ P' = st1 P 26 0 (nI (nsd sd)) ∧ T' = T) := by
  have h5 := nsd_lt sd
  refine x_start_i (lv := [(0, .ref (ad 4))]) (own := RX6) (by decide) rfl hD (Nat.le_of_ble_eq_true rfl) rfl ?_
  intro p e s m args below meth c C
  refine x_aload_n (q := 1) C dX6_drawNoise_0 rfl 0 rfl rfl ?_
  refine x_aload_n (q := 2) C dX6_drawNoise_1 rfl 0 rfl rfl ?_
  refine xg_X6_seed (q := 5) C tfl_X6_18 dX6_drawNoise_2 rfl ?_
  refine x_topn (sd) h1 ?_
  refine x_i2l (q := 6) C dX6_drawNoise_5 rfl ?_
  refine x_ldc2 (q := 9) C tk_X6_32 dX6_drawNoise_6 rfl ?_
  refine x_lmul (q := 10) C dX6_drawNoise_9 rfl ?_
  refine x_ldc2 (q := 13) C tk_X6_34 dX6_drawNoise_10 rfl ?_
  refine x_ladd (q := 14) C dX6_drawNoise_13 rfl ?_
  refine x_ldc2 (q := 17) C tk_X6_36 dX6_drawNoise_14 rfl ?_
  refine x_lrem (q := 18) C dX6_drawNoise_17 (by decide) rfl ?_
  refine x_l2i (q := 19) C dX6_drawNoise_18 rfl ?_
  refine x_topn (nsd sd) (draw_eq h2) ?_
  refine xp_X6_seed (q := 22) C tfl_X6_18 dX6_drawNoise_19 rfl ?_
  refine x_aload_n (q := 23) C dX6_drawNoise_22 rfl 0 rfl rfl ?_
  refine xg_X6_seed (q := 26) C tfl_X6_18 dX6_drawNoise_23 rfl ?_
  refine x_topn (nsd sd) st1_at ?_
  refine x_bipush (q := 28) (v := nI 64) C dX6_drawNoise_26 (by decide) rfl ?_
  refine x_idiv_n (q := 29) C dX6_drawNoise_28 (by omega) (by omega) (by omega) rfl ?_
  refine x_iconst (q := 30) (v := nI 2) C dX6_drawNoise_29 (by decide) rfl ?_
  refine x_aload_n (q := 31) C dX6_drawNoise_30 rfl 0 rfl rfl ?_
  refine xg_X6_noise (q := 34) C tfl_X6_15 dX6_drawNoise_31 rfl ?_
  refine x_topn (z) h3 ?_
  refine x_imul_n (q := 35) C dX6_drawNoise_34 rfl ?_
  refine x_iconst (q := 36) (v := nI 1) C dX6_drawNoise_35 (by decide) rfl ?_
  refine x_iadd_n (q := 37) C dX6_drawNoise_36 rfl ?_
  refine x_irem_n (q := 38) C dX6_drawNoise_37 (by omega) (by omega) (by omega) rfl ?_
  refine x_aload_n (q := 39) C dX6_drawNoise_38 rfl 0 rfl rfl ?_
  refine xg_X6_noise (q := 42) C tfl_X6_15 dX6_drawNoise_39 rfl ?_
  refine x_topn (z) h3 ?_
  refine x_isub (q := 43) C dX6_drawNoise_42 rfl ?_
  exact x_iret C dX6_drawNoise_43 ⟨rfl, rfl, rfl⟩

set_option maxRecDepth 100000 in
set_option maxHeartbeats 4000000 in
theorem c_X6_add (hD : ∀ P T, va_D A (wX ad cI cZ P T)) {P T : St} (ok : okX P) (x : Nat) (v : Int32) (hn : nt P < 60) : XMV l D (tyz cI cZ) (wX ad cI cZ) A yX6_add cX6_add 3 none rmX6_add [.ref (ad 4), .int (nI x), .int v] P T (fun P' T' => P' = tryP P x v ∧ T' = T) := by
  have okc := ok.1
  have hk6 := okc_kn6 okc
  have hS144 := okc_S144 okc
  have hS1 := okc_S1 okc
  have hnr := okc_nr12 okc
  have hnt := okc_nt60 okc
  have hnz := okc_nz50 okc
  have hsd := okc_sdb okc
  refine x_start_v (lv := [(0, .ref (ad 4)), (1, .int (nI x)), (2, .int v)]) (own := RX6) (by decide) rfl hD (Nat.le_of_ble_eq_true rfl) rfl ?_
  intro p e s m args below meth c C
  refine x_aload_n (q := 1) C dX6_add_0 rfl 0 rfl rfl ?_
  refine xg_X6_settings (q := 4) C tfl_X6_21 dX6_add_1 rfl ?_
  refine x_aload_n (q := 5) C dX6_add_4 rfl 0 rfl rfl ?_
  refine xg_X6_many (q := 8) C tfl_X6_9 dX6_add_5 rfl ?_
  refine x_topn (nt P) (okc_nt (P := P) okc) ?_
  refine x_iload_n (q := 9) C dX6_add_8 rfl 1 rfl rfl ?_
  refine xs_X20 (q := 10) C (by omega) dX6_add_9 rfl ?_
  refine x_aload_n (q := 11) C dX6_add_10 rfl 0 rfl rfl ?_
  refine xg_X6_readings (q := 14) C tfl_X6_25 dX6_add_11 rfl ?_
  refine x_aload_n (q := 15) C dX6_add_14 rfl 0 rfl rfl ?_
  refine xg_X6_many (q := 18) C tfl_X6_9 dX6_add_15 rfl ?_
  refine x_topn (nt P) (okc_nt (P := P) okc) ?_
  refine x_iload_n (q := 19) C dX6_add_18 rfl 2 rfl rfl ?_
  refine x_aload_n (q := 20) C dX6_add_19 rfl 0 rfl rfl ?_
  refine x_Vf (q := 23) (As := []) (rest := [.int v, .int (nI (nt P)), .ref (ad 21)]) C (c_X6_drawNoise hD (sdv P) (nz P) (okc_sd (P := P) okc) (by omega) (okc_nz (P := P) okc) (by omega)) xs_X6_drawNoise tim_X6_drawNoise tsel_X6_drawNoise tml_X6_28 (by decide) 4 rfl (ci := 6) rfl rfl rfl (Nat.le_of_ble_eq_true rfl) dX6_add_20 rfl ?_
  refine x_iadd (q := 24) C dX6_add_23 rfl ?_
  refine xs_X21 (q := 25) C (by omega) dX6_add_24 rfl ?_
  refine x_aload_n (q := 26) C dX6_add_25 rfl 0 rfl rfl ?_
  refine x_dup (q := 27) C dX6_add_26 rfl rfl ?_
  refine xg_X6_many (q := 30) C tfl_X6_9 dX6_add_27 rfl ?_
  refine x_topn (nt P) (okc_nt (P := P) okc) ?_
  refine x_iconst (q := 31) (v := nI 1) C dX6_add_30 (by decide) rfl ?_
  refine x_iadd_n (q := 32) C dX6_add_31 rfl ?_
  refine xp_X6_many (q := 35) C tfl_X6_9 dX6_add_32 rfl ?_
  exact x_vret C dX6_add_35 ⟨rfl, rfl⟩

set_option maxRecDepth 100000 in
set_option maxHeartbeats 4000000 in
theorem c_X6_firstOf (hD : ∀ P T, va_D A (wX ad cI cZ P T)) {P T : St} (ok : okX P) (x : Nat) (hx : x < 2 ^ 31) : XMI l D (tyz cI cZ) (wX ad cI cZ) A yX6_firstOf cX6_firstOf 3 (some .int) rmX6_firstOf [.ref (ad 4), .int (nI x)] P T (fun r P' T' => r = foX P x ∧ P' = P ∧ T' = T) := by
  have okc := ok.1
  have hk6 := okc_kn6 okc
  have hS144 := okc_S144 okc
  have hS1 := okc_S1 okc
  have hnr := okc_nr12 okc
  have hnt := okc_nt60 okc
  have hnz := okc_nz50 okc
  have hsd := okc_sdb okc
  refine x_start_i (lv := [(0, .ref (ad 4)), (1, .int (nI x))]) (own := RX6) (by decide) rfl hD (Nat.le_of_ble_eq_true rfl) rfl ?_
  intro p e s m args below meth c C
  refine x_iconst (q := 1) (v := nI 0) C dX6_firstOf_0 (by decide) rfl ?_
  refine x_istore_n (q := 2) (lv' := [(0, .ref (ad 4)), (1, .int (nI x)), (2, .int (nI 0))]) C dX6_firstOf_1 rfl (by decide) rfl rfl rfl ?_
  have L2 : ∀ (f1 : Nat) (i : Nat), (i ≤ nt P) → (∀ j, j < i → tx P j ≠ x) → nt P - i < f1 → XW p l e rmX6_firstOf s m args below meth c D (wX ad cI cZ) A 3 (MQ below (XPI D (tyz cI cZ) (wX ad cI cZ) A (fun r P' T' => r = foX P x ∧ P' = P ∧ T' = T)) args s 0 0 A) 2 [(0, .ref (ad 4)), (1, .int (nI x)), (2, .int (nI i))] [] P T := by
    intro f1
    induction f1 with
    | zero => intro i hi hq hm; exact absurd hm (Nat.not_lt_zero _)
    | succ f1 ih2 =>
      intro i hi hq hm2
      refine x_iload_n (q := 3) C dX6_firstOf_2 rfl 2 rfl rfl ?_
      refine x_aload_n (q := 4) C dX6_firstOf_3 rfl 0 rfl rfl ?_
      refine xg_X6_many (q := 7) C tfl_X6_9 dX6_firstOf_4 rfl ?_
      refine x_topn (nt P) (okc_nt (P := P) okc) ?_
      refine x_icmp_ge_n (q := 10) (tgt := 28) C dX6_firstOf_7 (by omega) (by omega) (by decide) rfl (fun c7 => ?_) (fun c7 => ?_)
      · refine x_bipush (q := 30) (v := (-4)) C dX6_firstOf_28 (by decide) rfl ?_
        exact x_iret C dX6_firstOf_30 ⟨by rw [foX, fi_no (fun j hj => hq j (by omega)), if_neg (Nat.lt_irrefl _)], rfl, rfl⟩
      · refine x_aload_n (q := 11) C dX6_firstOf_10 rfl 0 rfl rfl ?_
        refine xg_X6_settings (q := 14) C tfl_X6_21 dX6_firstOf_11 rfl ?_
        refine x_iload_n (q := 15) C dX6_firstOf_14 rfl 2 rfl rfl ?_
        refine xa_X20 (q := 16) C (by omega) dX6_firstOf_15 rfl ?_
        refine x_topn (tx P i) (okc_tx (P := P) okc (by omega)) ?_
        refine x_iload_n (q := 17) C dX6_firstOf_16 rfl 1 rfl rfl ?_
        refine x_icmp_ne_n (q := 20) (tgt := 22) C dX6_firstOf_17 (by have := okc_txS okc (i := i) (by omega); omega) (by omega) (by decide) rfl (fun c17 => ?_) (fun c17 => ?_)
        · refine x_iinc (q := 25) (v := nI (i + 1)) (lv' := [(0, .ref (ad 4)), (1, .int (nI x)), (2, .int (nI (i + 1)))]) C dX6_firstOf_22 2 rfl (nI_add i 1) (by decide) rfl rfl rfl ?_
          refine x_goto (tgt := 2) C dX6_firstOf_25 (by decide) ?_
          exact ih2 (i + 1) (by omega) (lt_s hq c17) (by omega)
        · refine x_iload_n (q := 21) C dX6_firstOf_20 rfl 2 rfl rfl ?_
          exact x_iret C dX6_firstOf_21 ⟨by rw [foX, fi_at (by omega) hq c17, if_pos (by omega)], rfl, rfl⟩
  exact L2 _ 0 (Nat.zero_le _) (fun j hj => absurd hj (Nat.not_lt_zero j)) (Nat.lt_succ_self _)

set_option maxRecDepth 100000 in
set_option maxHeartbeats 4000000 in
theorem c_X6_howManySettings (hD : ∀ P T, va_D A (wX ad cI cZ P T)) {P T : St} (ok : okX P) : XMI l D (tyz cI cZ) (wX ad cI cZ) A yX6_howManySettings cX6_howManySettings 3 (some .int) rmX6_howManySettings [.ref (ad 4)] P T (fun r P' T' => r = nI (dst P) ∧ P' = P ∧ T' = T) := by
  have okc := ok.1
  have hk6 := okc_kn6 okc
  have hS144 := okc_S144 okc
  have hS1 := okc_S1 okc
  have hnr := okc_nr12 okc
  have hnt := okc_nt60 okc
  have hnz := okc_nz50 okc
  have hsd := okc_sdb okc
  refine x_start_i (lv := [(0, .ref (ad 4))]) (own := RX6) (by decide) rfl hD (Nat.le_of_ble_eq_true rfl) rfl ?_
  intro p e s m args below meth c C
  refine x_iconst (q := 1) (v := nI 0) C dX6_howManySettings_0 (by decide) rfl ?_
  refine x_istore_n (q := 2) (lv' := [(0, .ref (ad 4)), (1, .int (nI 0))]) C dX6_howManySettings_1 rfl (by decide) rfl rfl rfl ?_
  refine x_iconst (q := 3) (v := nI 0) C dX6_howManySettings_2 (by decide) rfl ?_
  refine x_istore_n (q := 4) (lv' := [(0, .ref (ad 4)), (1, .int (nI 0)), (2, .int (nI 0))]) C dX6_howManySettings_3 rfl (by decide) rfl rfl rfl ?_
  have L4 : ∀ (f1 : Nat) (i : Nat) (n : Nat), (i ≤ nt P) → (n = fa_cnt (fun i => decide (fi P (tx P i) = i)) i) → nt P - i < f1 → XW p l e rmX6_howManySettings s m args below meth c D (wX ad cI cZ) A 3 (MQ below (XPI D (tyz cI cZ) (wX ad cI cZ) A (fun r P' T' => r = nI (dst P) ∧ P' = P ∧ T' = T)) args s 0 0 A) 4 [(0, .ref (ad 4)), (1, .int (nI n)), (2, .int (nI i))] [] P T := by
    intro f1
    induction f1 with
    | zero => intro i n hi hn hm; exact absurd hm (Nat.not_lt_zero _)
    | succ f1 ih4 =>
      intro i n hi hn hm4
      refine x_iload_n (q := 5) C dX6_howManySettings_4 rfl 2 rfl rfl ?_
      refine x_aload_n (q := 6) C dX6_howManySettings_5 rfl 0 rfl rfl ?_
      refine xg_X6_many (q := 9) C tfl_X6_9 dX6_howManySettings_6 rfl ?_
      refine x_topn (nt P) (okc_nt (P := P) okc) ?_
      refine x_icmp_ge_n (q := 12) (tgt := 35) C dX6_howManySettings_9 (by omega) (by omega) (by decide) rfl (fun c9 => ?_) (fun c9 => ?_)
      · refine x_iload_n (q := 36) C dX6_howManySettings_35 rfl 1 rfl rfl ?_
        exact x_iret C dX6_howManySettings_36 ⟨by rw [hn, show i = nt P by omega]; rfl, rfl, rfl⟩
      · refine x_aload_n (q := 13) C dX6_howManySettings_12 rfl 0 rfl rfl ?_
        refine x_aload_n (q := 14) C dX6_howManySettings_13 rfl 0 rfl rfl ?_
        refine xg_X6_settings (q := 17) C tfl_X6_21 dX6_howManySettings_14 rfl ?_
        refine x_iload_n (q := 18) C dX6_howManySettings_17 rfl 2 rfl rfl ?_
        refine xa_X20 (q := 19) C (by omega) dX6_howManySettings_18 rfl ?_
        refine x_topn (tx P i) (okc_tx (P := P) okc (by omega)) ?_
        refine x_Vf (q := 22) (As := [.int (nI (tx P i))]) (rest := []) C (c_X6_firstOf hD ok (tx P i) (by have := okc_txS okc (i := i) (by omega); omega)) xs_X6_firstOf tim_X6_firstOf tsel_X6_firstOf tml_X6_38 (by decide) 4 rfl (ci := 6) rfl rfl rfl (Nat.le_of_ble_eq_true rfl) dX6_howManySettings_19 rfl ?_
        refine x_topn (fi P (tx P i)) (by rw [foX, if_pos (Nat.lt_of_le_of_lt (fi_lt (by omega) rfl) (show i < nt P by omega))]) ?_
        refine x_iload_n (q := 23) C dX6_howManySettings_22 rfl 2 rfl rfl ?_
        refine x_icmp_ne_n (q := 26) (tgt := 29) C dX6_howManySettings_23 (by have := fi_le P (tx P i); omega) (by omega) (by decide) rfl (fun c23 => ?_) (fun c23 => ?_)
        · refine x_iinc (q := 32) (v := nI (i + 1)) (lv' := [(0, .ref (ad 4)), (1, .int (nI n)), (2, .int (nI (i + 1)))]) C dX6_howManySettings_29 2 rfl (nI_add i 1) (by decide) rfl rfl rfl ?_
          refine x_goto (tgt := 4) C dX6_howManySettings_32 (by decide) ?_
          exact ih4 (i + 1) n (by omega) (by rw [fa_cnt, ← hn, if_neg (by simpa using c23)]; rfl) (by omega)
        · refine x_iinc (q := 29) (v := nI (n + 1)) (lv' := [(0, .ref (ad 4)), (1, .int (nI (n + 1))), (2, .int (nI i))]) C dX6_howManySettings_26 1 rfl (nI_add n 1) (by decide) rfl rfl rfl ?_
          refine x_iinc (q := 32) (v := nI (i + 1)) (lv' := [(0, .ref (ad 4)), (1, .int (nI (n + 1))), (2, .int (nI (i + 1)))]) C dX6_howManySettings_29 2 rfl (nI_add i 1) (by decide) rfl rfl rfl ?_
          refine x_goto (tgt := 4) C dX6_howManySettings_32 (by decide) ?_
          exact ih4 (i + 1) (n + 1) (by omega) (by rw [fa_cnt, ← hn, if_pos (decide_eq_true c23)]) (by omega)
  exact L4 _ 0 0 (Nat.zero_le _) rfl (Nat.lt_succ_self _)

end TRIALS
