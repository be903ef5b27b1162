section REFA
variable {l : Launch} {D : va_G} {ad : Nat → Nat} {cI cZ : ClassId} {A : Nat → Prop}

set_option maxRecDepth 100000 in
set_option maxHeartbeats 4000000 in
theorem c_X8_in (hD : ∀ P T, va_D A (wN ad cI cZ P T)) {P T : St} (x a b : Int64) : XMI l D (tyz cI cZ) (wN ad cI cZ) A yX8_in cX8_in 6 (some .boolean) rmX8_in [.long x, .long a, .long b] P T (fun r P' T' => r = bI (inL x a b) ∧ P' = P ∧ T' = T) := by
  refine x_start_i (lv := [(0, .long x), (2, .long a), (4, .long b)]) (own := RX8) (by decide) rfl hD (Nat.le_of_ble_eq_true rfl) rfl ?_
  intro p e s m args below meth c C
  refine x_lload_n (q := 1) C dX8_in_0 rfl 0 rfl rfl ?_
  refine x_lload_n (q := 2) C dX8_in_1 rfl 1 rfl rfl ?_
  refine x_lcmp (q := 3) C dX8_in_2 rfl ?_
  refine x_if_lt (q := 6) (tgt := 17) C dX8_in_3 (by decide) rfl (fun c3 => ?_) (fun c3 => ?_)
  · refine x_iconst (q := 18) (v := nI 0) C dX8_in_17 (by decide) rfl ?_
    exact x_zret C dX8_in_18 rfl (by first | exact ⟨bI_f (in_no1 c3), rfl, rfl⟩ | exact ⟨bI_f (in_no2 c10), rfl, rfl⟩)
  · refine x_lload_n (q := 7) C dX8_in_6 rfl 0 rfl rfl ?_
    refine x_lload (q := 9) C dX8_in_7 2 rfl rfl ?_
    refine x_lcmp (q := 10) C dX8_in_9 rfl ?_
    refine x_if_gt (q := 13) (tgt := 17) C dX8_in_10 (by decide) rfl (fun c10 => ?_) (fun c10 => ?_)
    · refine x_iconst (q := 18) (v := nI 0) C dX8_in_17 (by decide) rfl ?_
      exact x_zret C dX8_in_18 rfl (by first | exact ⟨bI_f (in_no1 c3), rfl, rfl⟩ | exact ⟨bI_f (in_no2 c10), rfl, rfl⟩)
    · refine x_iconst (q := 14) (v := nI 1) C dX8_in_13 (by decide) rfl ?_
      refine x_goto (tgt := 18) C dX8_in_14 (by decide) ?_
      exact x_zret C dX8_in_18 rfl ⟨bI_t (in_yes c3 c10), rfl, rfl⟩

set_option maxRecDepth 100000 in
set_option maxHeartbeats 4000000 in
theorem c_X8_isKnob (hD : ∀ P T, va_D A (wN ad cI cZ P T)) {P T : St} (ok : okN P) (k : Int32) : XMI l D (tyz cI cZ) (wN ad cI cZ) A yX8_isKnob cX8_isKnob 2 (some .boolean) rmX8_isKnob [.ref (ad 0), .int k] P T (fun r P' T' => r = bI (isK P k) ∧ P' = P ∧ T' = T) := by
  have okc := okN_c ok
  have hk6 := okc_kn6 okc
  have hS144 := okc_S144 okc
  have hS1 := okc_S1 okc
  have hnr := okc_nr12 okc
  have hnt := okc_nt60 okc
  have hnz := okc_nz50 okc
  have hsd := okc_sdb okc
  have okk := okC_K okc
  refine x_start_i (lv := [(0, .ref (ad 0)), (1, .int k)]) (own := RX8) (by decide) rfl hD (Nat.le_of_ble_eq_true rfl) rfl ?_
  intro p e s m args below meth c C
  refine x_iload_n (q := 1) C dX8_isKnob_0 rfl 1 rfl rfl ?_
  refine x_i2l (q := 2) C dX8_isKnob_1 rfl ?_
  refine x_lconst (q := 3) (v := 0) C dX8_isKnob_2 (by decide) rfl ?_
  refine x_aload_n (q := 4) C dX8_isKnob_3 rfl 0 rfl rfl ?_
  refine xg_X8_knobs (q := 7) C tfl_X8_47 dX8_isKnob_4 rfl ?_
  refine x_topn (kn P) (okc_kn (P := P) okc) ?_
  refine x_iconst (q := 8) (v := nI 1) C dX8_isKnob_7 (by decide) rfl ?_
  refine x_isub (q := 9) C dX8_isKnob_8 rfl ?_
  refine x_i2l (q := 10) C dX8_isKnob_9 rfl ?_
  refine x_Sf (q := 13) (As := [.long k.toInt64, .long 0, .long (((nI (kn P)) - (nI 1)).toInt64)]) (rest := []) C (c_X8_in hD k.toInt64 0 (((nI (kn P)) - (nI 1)).toInt64) ) xs_X8_in tst_X8_in tml_X8_50 (by decide) rfl rfl (Nat.le_of_ble_eq_true rfl) dX8_isKnob_10 rfl ?_
  refine x_tope (bI (isK P k)) (bI_congr (in_K okc)) ?_
  exact x_zret C dX8_isKnob_13 bI_nar ⟨rfl, rfl, rfl⟩

set_option maxRecDepth 100000 in
set_option maxHeartbeats 4000000 in
theorem c_X8_isSetting (hD : ∀ P T, va_D A (wN ad cI cZ P T)) {P T : St} (ok : okN P) (x : Int32) : XMI l D (tyz cI cZ) (wN ad cI cZ) A yX8_isSetting cX8_isSetting 2 (some .boolean) rmX8_isSetting [.ref (ad 0), .int x] P T (fun r P' T' => r = bI (isS P x) ∧ P' = P ∧ T' = T) := by
  have okc := okN_c ok
  have hk6 := okc_kn6 okc
  have hS144 := okc_S144 okc
  have hS1 := okc_S1 okc
  have hnr := okc_nr12 okc
  have hnt := okc_nt60 okc
  have hnz := okc_nz50 okc
  have hsd := okc_sdb okc
  have okk := okC_K okc
  refine x_start_i (lv := [(0, .ref (ad 0)), (1, .int x)]) (own := RX8) (by decide) rfl hD (Nat.le_of_ble_eq_true rfl) rfl ?_
  intro p e s m args below meth c C
  refine x_iload_n (q := 1) C dX8_isSetting_0 rfl 1 rfl rfl ?_
  refine x_i2l (q := 2) C dX8_isSetting_1 rfl ?_
  refine x_lconst (q := 3) (v := 0) C dX8_isSetting_2 (by decide) rfl ?_
  refine x_aload_n (q := 4) C dX8_isSetting_3 rfl 0 rfl rfl ?_
  refine xg_X8_settings (q := 7) C tfl_X8_7 dX8_isSetting_4 rfl ?_
  refine x_topn (nS P) (okc_S (P := P) okc) ?_
  refine x_iconst (q := 8) (v := nI 1) C dX8_isSetting_7 (by decide) rfl ?_
  refine x_isub (q := 9) C dX8_isSetting_8 rfl ?_
  refine x_i2l (q := 10) C dX8_isSetting_9 rfl ?_
  refine x_Sf (q := 13) (As := [.long x.toInt64, .long 0, .long (((nI (nS P)) - (nI 1)).toInt64)]) (rest := []) C (c_X8_in hD x.toInt64 0 (((nI (nS P)) - (nI 1)).toInt64) ) xs_X8_in tst_X8_in tml_X8_50 (by decide) rfl rfl (Nat.le_of_ble_eq_true rfl) dX8_isSetting_10 rfl ?_
  refine x_tope (bI (isS P x)) (bI_congr (in_S okc)) ?_
  exact x_zret C dX8_isSetting_13 bI_nar ⟨rfl, rfl, rfl⟩

set_option maxRecDepth 100000 in
set_option maxHeartbeats 4000000 in
theorem c_X8_isValue (hD : ∀ P T, va_D A (wN ad cI cZ P T)) {P T : St} (ok : okN P) (k v : Int32) : XMI l D (tyz cI cZ) (wN ad cI cZ) A yX8_isValue cX8_isValue 3 (some .boolean) rmX8_isValue [.ref (ad 0), .int k, .int v] P T (fun r P' T' => r = bI (isV P k v) ∧ P' = P ∧ T' = T) := by
  have okc := okN_c ok
  have hk6 := okc_kn6 okc
  have hS144 := okc_S144 okc
  have hS1 := okc_S1 okc
  have hnr := okc_nr12 okc
  have hnt := okc_nt60 okc
  have hnz := okc_nz50 okc
  have hsd := okc_sdb okc
  have okk := okC_K okc
  refine x_start_i (lv := [(0, .ref (ad 0)), (1, .int k), (2, .int v)]) (own := RX8) (by decide) rfl hD (Nat.le_of_ble_eq_true rfl) rfl ?_
  intro p e s m args below meth c C
  refine x_aload_n (q := 1) C dX8_isValue_0 rfl 0 rfl rfl ?_
  refine x_iload_n (q := 2) C dX8_isValue_1 rfl 1 rfl rfl ?_
  refine x_Vf (q := 5) (As := [.int k]) (rest := []) C (c_X8_isKnob hD ok k ) xs_X8_isKnob tim_X8_isKnob tsel_X8_isKnob tml_X8_54 (by decide) 0 rfl (ci := 8) rfl rfl rfl (Nat.le_of_ble_eq_true rfl) dX8_isValue_2 rfl ?_
  refine x_if_eq_b (q := 8) (tgt := 30) C dX8_isValue_5 (by decide) rfl (fun c5 => ?_) (fun c5 => ?_)
  · refine x_iconst (q := 31) (v := nI 0) C dX8_isValue_30 (by decide) rfl ?_
    exact x_zret C dX8_isValue_31 rfl (by first | exact ⟨bI_f (fun h => c5 h.1), rfl, rfl⟩ | exact ⟨bI_f (fun h => c23 (by have := h.2; rw [nI_clamp (by omega), okc_sz okc ha] at this; exact this)), rfl, rfl⟩)
  · have hK5 := c5
    obtain ⟨a, ha, rfl⟩ := isK_nat okc c5
    have hz := okc_sz2 okc ha
    refine x_iload_n (q := 9) C dX8_isValue_8 rfl 2 rfl rfl ?_
    refine x_i2l (q := 10) C dX8_isValue_9 rfl ?_
    refine x_lconst (q := 11) (v := 0) C dX8_isValue_10 (by decide) rfl ?_
    refine x_aload_n (q := 12) C dX8_isValue_11 rfl 0 rfl rfl ?_
    refine xg_X8_many (q := 15) C tfl_X8_13 dX8_isValue_12 rfl ?_
    refine x_iload_n (q := 16) C dX8_isValue_15 rfl 1 rfl rfl ?_
    refine xa_N1 (q := 17) C (by omega) dX8_isValue_16 rfl ?_
    refine x_topn (sz P a) (okc_sz (P := P) okc (by omega)) ?_
    refine x_iconst (q := 18) (v := nI 1) C dX8_isValue_17 (by decide) rfl ?_
    refine x_isub (q := 19) C dX8_isValue_18 rfl ?_
    refine x_i2l (q := 20) C dX8_isValue_19 rfl ?_
    refine x_Sf (q := 23) (As := [.long v.toInt64, .long 0, .long (((nI (sz P a)) - (nI 1)).toInt64)]) (rest := []) C (c_X8_in hD v.toInt64 0 (((nI (sz P a)) - (nI 1)).toInt64) ) xs_X8_in tst_X8_in tml_X8_50 (by decide) rfl rfl (Nat.le_of_ble_eq_true rfl) dX8_isValue_20 rfl ?_
    refine x_tope (bI (0 ≤ v ∧ v < nI (sz P a))) (bI_congr (inL_pred (by omega))) ?_
    refine x_if_eq_b (q := 26) (tgt := 30) C dX8_isValue_23 (by decide) rfl (fun c23 => ?_) (fun c23 => ?_)
    · refine x_iconst (q := 31) (v := nI 0) C dX8_isValue_30 (by decide) rfl ?_
      exact x_zret C dX8_isValue_31 rfl (by first | exact ⟨bI_f (fun h => c5 h.1), rfl, rfl⟩ | exact ⟨bI_f (fun h => c23 (by have := h.2; rw [nI_clamp (by omega), okc_sz okc ha] at this; exact this)), rfl, rfl⟩)
    · refine x_iconst (q := 27) (v := nI 1) C dX8_isValue_26 (by decide) rfl ?_
      refine x_goto (tgt := 31) C dX8_isValue_27 (by decide) ?_
      exact x_zret C dX8_isValue_31 rfl ⟨bI_t ⟨hK5, by rw [nI_clamp (by omega), okc_sz okc ha]; exact c23⟩, rfl, rfl⟩

set_option maxRecDepth 100000 in
set_option maxHeartbeats 4000000 in
theorem c_X8_step (hD : ∀ P T, va_D A (wN ad cI cZ P T)) {P T : St} (okk : okK P) (k : Nat) (hk : k ≤ kn P) : XMI l D (tyz cI cZ) (wN ad cI cZ) A yX8_step cX8_step 4 (some .int) rmX8_step [.ref (ad 0), .int (nI k)] P T (fun r P' T' => r = nI (pst (sz P) k) ∧ P' = P ∧ T' = T) := by
  have hk6 := okk.1.2
  have hS144 := okk.2.1.2.2
  refine x_start_i (lv := [(0, .ref (ad 0)), (1, .int (nI k))]) (own := RX8) (by decide) rfl hD (Nat.le_of_ble_eq_true rfl) rfl ?_
  intro p e s m args below meth c C
  refine x_iconst (q := 1) (v := nI 1) C dX8_step_0 (by decide) rfl ?_
  refine x_istore_n (q := 2) (lv' := [(0, .ref (ad 0)), (1, .int (nI k)), (2, .int (nI 1))]) C dX8_step_1 rfl (by decide) rfl rfl rfl ?_
  refine x_iconst (q := 3) (v := nI 0) C dX8_step_2 (by decide) rfl ?_
  refine x_istore_n (q := 4) (lv' := [(0, .ref (ad 0)), (1, .int (nI k)), (2, .int (nI 1)), (3, .int (nI 0))]) C dX8_step_3 rfl (by decide) rfl rfl rfl ?_
  have L4 : ∀ (f1 : Nat) (i : Nat) (u : Nat), (i ≤ k) → (u = pst (sz P) i) → k - i < f1 → XW p l e rmX8_step s m args below meth c D (wN ad cI cZ) A 4 (MQ below (XPI D (tyz cI cZ) (wN ad cI cZ) A (fun r P' T' => r = nI (pst (sz P) k) ∧ P' = P ∧ T' = T)) args s 0 0 A) 4 [(0, .ref (ad 0)), (1, .int (nI k)), (2, .int (nI u)), (3, .int (nI i))] [] P T := by
    intro f1
    induction f1 with
    | zero => intro i u hi hu hm; exact absurd hm (Nat.not_lt_zero _)
    | succ f1 ih4 =>
      intro i u hi hu hm4
      refine x_iload_n (q := 5) C dX8_step_4 rfl 3 rfl rfl ?_
      refine x_iload_n (q := 6) C dX8_step_5 rfl 1 rfl rfl ?_
      refine x_icmp_ge_n (q := 9) (tgt := 24) C dX8_step_6 (by omega) (by omega) (by decide) rfl (fun c6 => ?_) (fun c6 => ?_)
      · refine x_iload_n (q := 25) C dX8_step_24 rfl 2 rfl rfl ?_
        exact x_iret C dX8_step_25 ⟨by rw [hu, show i = k by omega], rfl, rfl⟩
      · refine x_iload_n (q := 10) C dX8_step_9 rfl 2 rfl rfl ?_
        refine x_aload_n (q := 11) C dX8_step_10 rfl 0 rfl rfl ?_
        refine xg_X8_many (q := 14) C tfl_X8_13 dX8_step_11 rfl ?_
        refine x_iload_n (q := 15) C dX8_step_14 rfl 3 rfl rfl ?_
        refine xa_N1 (q := 16) C (by omega) dX8_step_15 rfl ?_
        refine x_topn (sz P i) (okk.2.2 _ (by omega)).1 ?_
        refine x_imul_n (q := 17) C dX8_step_16 rfl ?_
        refine x_namen (fun n2 hn2 => ?_)
        refine x_istore_n (q := 18) (lv' := [(0, .ref (ad 0)), (1, .int (nI k)), (2, .int (nI n2)), (3, .int (nI i))]) C dX8_step_17 rfl (by decide) rfl rfl rfl ?_
        refine x_iinc (q := 21) (v := nI (i + 1)) (lv' := [(0, .ref (ad 0)), (1, .int (nI k)), (2, .int (nI n2)), (3, .int (nI (i + 1)))]) C dX8_step_18 3 rfl (nI_add i 1) (by decide) rfl rfl rfl ?_
        refine x_goto (tgt := 4) C dX8_step_21 (by decide) ?_
        exact ih4 (i + 1) n2 (by omega) (by rw [hn2, hu]; rfl) (by omega)
  exact L4 _ 0 1 (Nat.zero_le _) rfl (Nat.lt_succ_self _)

set_option maxRecDepth 100000 in
set_option maxHeartbeats 4000000 in
theorem c_X8_get (hD : ∀ P T, va_D A (wN ad cI cZ P T)) {P T : St} (okk : okK P) (x k : Nat) (hx : x < 2 ^ 31) (hk : k < kn P) : XMI l D (tyz cI cZ) (wN ad cI cZ) A yX8_get cX8_get 3 (some .int) rmX8_get [.ref (ad 0), .int (nI x), .int (nI k)] P T (fun r P' T' => r = nI (val P x k) ∧ P' = P ∧ T' = T) := by
  have hk6 := okk.1.2
  have hS144 := okk.2.1.2.2
  refine x_start_i (lv := [(0, .ref (ad 0)), (1, .int (nI x)), (2, .int (nI k))]) (own := RX8) (by decide) rfl hD (Nat.le_of_ble_eq_true rfl) rfl ?_
  intro p e s m args below meth c C
  refine x_iload_n (q := 1) C dX8_get_0 rfl 1 rfl rfl ?_
  refine x_aload_n (q := 2) C dX8_get_1 rfl 0 rfl rfl ?_
  refine x_iload_n (q := 3) C dX8_get_2 rfl 2 rfl rfl ?_
  refine x_Vf (q := 6) (As := [.int (nI k)]) (rest := [.int (nI x)]) C (c_X8_step hD okk k (by omega)) xs_X8_step tim_X8_step tsel_X8_step tml_X8_90 (by decide) 0 rfl (ci := 8) rfl rfl rfl (Nat.le_of_ble_eq_true rfl) dX8_get_3 rfl ?_
  refine x_idiv_n (q := 7) C dX8_get_6 hx (okk_p0 okk (by omega)) (by have := okk_pS okk (k := k) (by omega); omega) rfl ?_
  refine x_aload_n (q := 8) C dX8_get_7 rfl 0 rfl rfl ?_
  refine xg_X8_many (q := 11) C tfl_X8_13 dX8_get_8 rfl ?_
  refine x_iload_n (q := 12) C dX8_get_11 rfl 2 rfl rfl ?_
  refine xa_N1 (q := 13) C (by omega) dX8_get_12 rfl ?_
  refine x_topn (sz P k) (okk.2.2 _ (by omega)).1 ?_
  refine x_irem_n (q := 14) C dX8_get_13 (Nat.lt_of_le_of_lt (Nat.div_le_self _ _) hx) (by have := (okk.2.2 k hk).2; omega) (by have := (okk.2.2 k hk).2; omega) rfl ?_
  exact x_iret C dX8_get_14 ⟨rfl, rfl, rfl⟩

set_option maxRecDepth 100000 in
set_option maxHeartbeats 4000000 in
theorem c_X8_put (hD : ∀ P T, va_D A (wN ad cI cZ P T)) {P T : St} (okk : okK P) (x k v : Nat) (hx : x < 2 ^ 31) (hk : k < kn P) : XMI l D (tyz cI cZ) (wN ad cI cZ) A yX8_put cX8_put 4 (some .int) rmX8_put [.ref (ad 0), .int (nI x), .int (nI k), .int (nI v)] P T (fun r P' T' => r = nI (mv P x k v) ∧ P' = P ∧ T' = T) := by
  have hk6 := okk.1.2
  have hS144 := okk.2.1.2.2
  refine x_start_i (lv := [(0, .ref (ad 0)), (1, .int (nI x)), (2, .int (nI k)), (3, .int (nI v))]) (own := RX8) (by decide) rfl hD (Nat.le_of_ble_eq_true rfl) rfl ?_
  intro p e s m args below meth c C
  refine x_iload_n (q := 1) C dX8_put_0 rfl 1 rfl rfl ?_
  refine x_iload_n (q := 2) C dX8_put_1 rfl 3 rfl rfl ?_
  refine x_aload_n (q := 3) C dX8_put_2 rfl 0 rfl rfl ?_
  refine x_iload_n (q := 4) C dX8_put_3 rfl 1 rfl rfl ?_
  refine x_iload_n (q := 5) C dX8_put_4 rfl 2 rfl rfl ?_
  refine x_Vf (q := 8) (As := [.int (nI x), .int (nI k)]) (rest := [.int (nI v), .int (nI x)]) C (c_X8_get hD okk x k (by omega) (by omega)) xs_X8_get tim_X8_get tsel_X8_get tml_X8_94 (by decide) 0 rfl (ci := 8) rfl rfl rfl (Nat.le_of_ble_eq_true rfl) dX8_put_5 rfl ?_
  refine x_isub (q := 9) C dX8_put_8 rfl ?_
  refine x_aload_n (q := 10) C dX8_put_9 rfl 0 rfl rfl ?_
  refine x_iload_n (q := 11) C dX8_put_10 rfl 2 rfl rfl ?_
  refine x_Vf (q := 14) (As := [.int (nI k)]) (rest := [.int ((nI v) - (nI (val P x k))), .int (nI x)]) C (c_X8_step hD okk k (by omega)) xs_X8_step tim_X8_step tsel_X8_step tml_X8_90 (by decide) 0 rfl (ci := 8) rfl rfl rfl (Nat.le_of_ble_eq_true rfl) dX8_put_11 rfl ?_
  refine x_imul (q := 15) C dX8_put_14 rfl ?_
  refine x_iadd (q := 16) C dX8_put_15 rfl ?_
  exact x_iret C dX8_put_16 ⟨mv_eq P x k v, rfl, rfl⟩

set_option maxRecDepth 100000 in
set_option maxHeartbeats 4000000 in
theorem c_X8_isAllowed (hD : ∀ P T, va_D A (wN ad cI cZ P T)) {P T : St} (ok : okN P) (x : Nat) (hx : x < 2 ^ 31) : XMI l D (tyz cI cZ) (wN ad cI cZ) A yX8_isAllowed cX8_isAllowed 7 (some .boolean) rmX8_isAllowed [.ref (ad 0), .int (nI x)] P T (fun r P' T' => r = bI (alX (cX P) x) ∧ P' = P ∧ T' = T) := by
  have okc := okN_c ok
  have hk6 := okc_kn6 okc
  have hS144 := okc_S144 okc
  have hS1 := okc_S1 okc
  have hnr := okc_nr12 okc
  have hnt := okc_nt60 okc
  have hnz := okc_nz50 okc
  have hsd := okc_sdb okc
  have okk := okC_K okc
  refine x_start_i (lv := [(0, .ref (ad 0)), (1, .int (nI x))]) (own := RX8) (by decide) rfl hD (Nat.le_of_ble_eq_true rfl) rfl ?_
  intro p e s m args below meth c C
  refine x_iconst (q := 1) (v := nI 1) C dX8_isAllowed_0 (by decide) rfl ?_
  refine x_istore_n (q := 2) (lv' := [(0, .ref (ad 0)), (1, .int (nI x)), (2, .int (nI 1))]) C dX8_isAllowed_1 rfl (by decide) rfl rfl rfl ?_
  refine x_iconst (q := 3) (v := nI 0) C dX8_isAllowed_2 (by decide) rfl ?_
  refine x_istore_n (q := 4) (lv' := [(0, .ref (ad 0)), (1, .int (nI x)), (2, .int (nI 1)), (3, .int (nI 0))]) C dX8_isAllowed_3 rfl (by decide) rfl rfl rfl ?_
  have L4 : ∀ (f1 : Nat) (i : Nat), (i ≤ nr P) → nr P - i < f1 → XW p l e rmX8_isAllowed s m args below meth c D (wN ad cI cZ) A 7 (MQ below (XPI D (tyz cI cZ) (wN ad cI cZ) A (fun r P' T' => r = bI (alX (cX P) x) ∧ P' = P ∧ T' = T)) args s 0 0 A) 4 [(0, .ref (ad 0)), (1, .int (nI x)), (2, .int (bI (∀ j, j < i → ¬ agX (cX P) x j))), (3, .int (nI i))] [] P T := by
    intro f1
    induction f1 with
    | zero => intro i hi hm; exact absurd hm (Nat.not_lt_zero _)
    | succ f1 ih4 =>
      intro i hi hm4
      refine x_iload_n (q := 5) C dX8_isAllowed_4 rfl 3 rfl rfl ?_
      refine x_aload_n (q := 6) C dX8_isAllowed_5 rfl 0 rfl rfl ?_
      refine xg_X8_rules (q := 9) C tfl_X8_73 dX8_isAllowed_6 rfl ?_
      refine x_topn (nr P) (okc_nr (P := P) okc) ?_
      refine x_icmp_ge_n (q := 12) (tgt := 128) C dX8_isAllowed_9 (by omega) (by omega) (by decide) rfl (fun c9 => ?_) (fun c9 => ?_)
      · refine x_iload_n (q := 129) C dX8_isAllowed_128 rfl 2 rfl rfl ?_
        exact x_zret C dX8_isAllowed_129 bI_nar ⟨bI_congr ⟨fun h j hj => h j (by show j < i; have : nr (cX P) = nr P := rfl; omega), fun h j hj => h j (by show j < nr P; omega)⟩, rfl, rfl⟩
      · have h1k : rk1 (cX P) i < kn P := (ok.2.2.1 i (show i < nr P by omega)).1.2
        have h2k : rk2 (cX P) i < kn P := (ok.2.2.1 i (show i < nr P by omega)).2.2
        refine x_iconst (q := 13) (v := nI 5) C dX8_isAllowed_12 (by decide) rfl ?_
        refine x_iload_n (q := 14) C dX8_isAllowed_13 rfl 3 rfl rfl ?_
        refine x_imul_n (q := 15) C dX8_isAllowed_14 rfl ?_
        refine x_istore (q := 17) (lv' := [(0, .ref (ad 0)), (1, .int (nI x)), (2, .int (bI (∀ j, j < i → ¬ agX (cX P) x j))), (3, .int (nI i)), (4, .int (nI (5 * i)))]) C dX8_isAllowed_15 (by decide) rfl rfl rfl ?_
        refine x_aload_n (q := 18) C dX8_isAllowed_17 rfl 0 rfl rfl ?_
        refine x_iload_n (q := 19) C dX8_isAllowed_18 rfl 1 rfl rfl ?_
        refine x_aload_n (q := 20) C dX8_isAllowed_19 rfl 0 rfl rfl ?_
        refine xg_X8_ruleOf (q := 23) C tfl_X8_23 dX8_isAllowed_20 rfl ?_
        refine x_iload (q := 25) C dX8_isAllowed_23 4 rfl rfl ?_
        refine x_iconst (q := 26) (v := nI 1) C dX8_isAllowed_25 (by decide) rfl ?_
        refine x_iadd_n (q := 27) C dX8_isAllowed_26 rfl ?_
        refine xa_N4 (q := 28) C (by omega) dX8_isAllowed_27 rfl ?_
        refine x_topn (rk1 (cX P) i) (ok.2.2.1 i (show i < nr P by omega)).1.1 ?_
        refine x_Vf (q := 31) (As := [.int (nI x), .int (nI (rk1 (cX P) i))]) (rest := []) C (c_X8_get hD okk x (rk1 (cX P) i) (by omega) (by omega)) xs_X8_get tim_X8_get tsel_X8_get tml_X8_94 (by decide) 0 rfl (ci := 8) rfl rfl rfl (Nat.le_of_ble_eq_true rfl) dX8_isAllowed_28 rfl ?_
        refine x_aload_n (q := 32) C dX8_isAllowed_31 rfl 0 rfl rfl ?_
        refine xg_X8_ruleOf (q := 35) C tfl_X8_23 dX8_isAllowed_32 rfl ?_
        refine x_iload (q := 37) C dX8_isAllowed_35 4 rfl rfl ?_
        refine x_iconst (q := 38) (v := nI 2) C dX8_isAllowed_37 (by decide) rfl ?_
        refine x_iadd_n (q := 39) C dX8_isAllowed_38 rfl ?_
        refine xa_N4 (q := 40) C (by omega) dX8_isAllowed_39 rfl ?_
        refine x_icmp_ne (q := 43) (tgt := 47) C dX8_isAllowed_40 (by decide) rfl (fun c40 => ?_) (fun c40 => ?_)
        · refine x_iconst (q := 48) (v := nI 0) C dX8_isAllowed_47 (by decide) rfl ?_
          refine x_istore (q := 50) (lv' := [(0, .ref (ad 0)), (1, .int (nI x)), (2, .int (bI (∀ j, j < i → ¬ agX (cX P) x j))), (3, .int (nI i)), (4, .int (nI (5 * i))), (5, .int (nI 0))]) C dX8_isAllowed_48 (by decide) rfl rfl rfl ?_
          refine x_aload_n (q := 51) C dX8_isAllowed_50 rfl 0 rfl rfl ?_
          refine x_iload_n (q := 52) C dX8_isAllowed_51 rfl 1 rfl rfl ?_
          refine x_aload_n (q := 53) C dX8_isAllowed_52 rfl 0 rfl rfl ?_
          refine xg_X8_ruleOf (q := 56) C tfl_X8_23 dX8_isAllowed_53 rfl ?_
          refine x_iload (q := 58) C dX8_isAllowed_56 4 rfl rfl ?_
          refine x_iconst (q := 59) (v := nI 3) C dX8_isAllowed_58 (by decide) rfl ?_
          refine x_iadd_n (q := 60) C dX8_isAllowed_59 rfl ?_
          refine xa_N4 (q := 61) C (by omega) dX8_isAllowed_60 rfl ?_
          refine x_topn (rk2 (cX P) i) (ok.2.2.1 i (show i < nr P by omega)).2.1 ?_
          refine x_Vf (q := 64) (As := [.int (nI x), .int (nI (rk2 (cX P) i))]) (rest := []) C (c_X8_get hD okk x (rk2 (cX P) i) (by omega) (by omega)) xs_X8_get tim_X8_get tsel_X8_get tml_X8_94 (by decide) 0 rfl (ci := 8) rfl rfl rfl (Nat.le_of_ble_eq_true rfl) dX8_isAllowed_61 rfl ?_
          refine x_aload_n (q := 65) C dX8_isAllowed_64 rfl 0 rfl rfl ?_
          refine xg_X8_ruleOf (q := 68) C tfl_X8_23 dX8_isAllowed_65 rfl ?_
          refine x_iload (q := 70) C dX8_isAllowed_68 4 rfl rfl ?_
          refine x_iconst (q := 71) (v := nI 4) C dX8_isAllowed_70 (by decide) rfl ?_
          refine x_iadd_n (q := 72) C dX8_isAllowed_71 rfl ?_
          refine xa_N4 (q := 73) C (by omega) dX8_isAllowed_72 rfl ?_
          refine x_icmp_ne (q := 76) (tgt := 80) C dX8_isAllowed_73 (by decide) rfl (fun c73 => ?_) (fun c73 => ?_)
          · refine x_iconst (q := 81) (v := nI 0) C dX8_isAllowed_80 (by decide) rfl ?_
            refine x_istore (q := 83) (lv' := [(0, .ref (ad 0)), (1, .int (nI x)), (2, .int (bI (∀ j, j < i → ¬ agX (cX P) x j))), (3, .int (nI i)), (4, .int (nI (5 * i))), (5, .int (nI 0)), (6, .int (nI 0))]) C dX8_isAllowed_81 (by decide) rfl rfl rfl ?_
            refine x_iload_n (q := 84) C dX8_isAllowed_83 rfl 2 rfl rfl ?_
            refine x_if_eq_b (q := 87) (tgt := 120) C dX8_isAllowed_84 (by decide) rfl (fun c84 => ?_) (fun c84 => ?_)
            · refine x_iconst (q := 121) (v := nI 0) C dX8_isAllowed_120 (by decide) rfl ?_
              refine x_tope (bI (∀ j, j < i + 1 → ¬ agX (cX P) x j)) (by first | exact bI_f (P := ∀ j, j < i + 1 → ¬ agX (cX P) x j) (fun h => c84 (fun j hj => h j (by omega))) | exact bI_f (P := ∀ j, j < i + 1 → ¬ agX (cX P) x j) (fun h => h i (by omega) ((ag_c ok).mpr ⟨c40, by first | (rw [if_pos c100]; exact c73) | (rw [if_neg c100]; exact c73)⟩))) ?_
              refine x_istore_n (q := 122) (lv' := [(0, .ref (ad 0)), (1, .int (nI x)), (2, .int (bI (∀ j, j < i + 1 → ¬ agX (cX P) x j))), (3, .int (nI i)), (4, .int (nI (5 * i))), (5, .int (nI 0)), (6, .int (nI 0))]) C dX8_isAllowed_121 rfl (by decide) rfl rfl rfl ?_
              refine x_iinc (q := 125) (v := nI (i + 1)) (lv' := [(0, .ref (ad 0)), (1, .int (nI x)), (2, .int (bI (∀ j, j < i + 1 → ¬ agX (cX P) x j))), (3, .int (nI (i + 1))), (4, .int (nI (5 * i))), (5, .int (nI 0)), (6, .int (nI 0))]) C dX8_isAllowed_122 3 rfl (nI_add i 1) (by decide) rfl rfl rfl ?_
              refine x_goto (tgt := 4) C dX8_isAllowed_125 (by decide) ?_
              refine x_lv [0, 1, 2, 3] rfl ?_
              exact ih4 (i + 1) (by omega) (by omega)
            · refine x_iload (q := 89) C dX8_isAllowed_87 5 rfl rfl ?_
              refine x_if_eq_n (q := 92) (tgt := 116) C dX8_isAllowed_89 (by decide) (by decide) rfl (fun _ => ?_) (fun h => absurd h (by decide))
              refine x_iconst (q := 117) (v := nI 1) C dX8_isAllowed_116 (by decide) rfl ?_
              refine x_tope (bI (∀ j, j < i + 1 → ¬ agX (cX P) x j)) (bI_t (P := ∀ j, j < i + 1 → ¬ agX (cX P) x j) (lt_s c84 (fun h => by obtain ⟨h1, h2⟩ := (ag_c ok).mp h; first | exact c40 h1 | (rw [if_pos c100] at h2; first | exact h2 c73 | exact c73 h2) | (rw [if_neg c100] at h2; first | exact h2 c73 | exact c73 h2)))) ?_
              refine x_goto (tgt := 121) C dX8_isAllowed_117 (by decide) ?_
              refine x_istore_n (q := 122) (lv' := [(0, .ref (ad 0)), (1, .int (nI x)), (2, .int (bI (∀ j, j < i + 1 → ¬ agX (cX P) x j))), (3, .int (nI i)), (4, .int (nI (5 * i))), (5, .int (nI 0)), (6, .int (nI 0))]) C dX8_isAllowed_121 rfl (by decide) rfl rfl rfl ?_
              refine x_iinc (q := 125) (v := nI (i + 1)) (lv' := [(0, .ref (ad 0)), (1, .int (nI x)), (2, .int (bI (∀ j, j < i + 1 → ¬ agX (cX P) x j))), (3, .int (nI (i + 1))), (4, .int (nI (5 * i))), (5, .int (nI 0)), (6, .int (nI 0))]) C dX8_isAllowed_122 3 rfl (nI_add i 1) (by decide) rfl rfl rfl ?_
              refine x_goto (tgt := 4) C dX8_isAllowed_125 (by decide) ?_
              refine x_lv [0, 1, 2, 3] rfl ?_
              exact ih4 (i + 1) (by omega) (by omega)
          · refine x_iconst (q := 77) (v := nI 1) C dX8_isAllowed_76 (by decide) rfl ?_
            refine x_goto (tgt := 81) C dX8_isAllowed_77 (by decide) ?_
            refine x_istore (q := 83) (lv' := [(0, .ref (ad 0)), (1, .int (nI x)), (2, .int (bI (∀ j, j < i → ¬ agX (cX P) x j))), (3, .int (nI i)), (4, .int (nI (5 * i))), (5, .int (nI 0)), (6, .int (nI 1))]) C dX8_isAllowed_81 (by decide) rfl rfl rfl ?_
            refine x_iload_n (q := 84) C dX8_isAllowed_83 rfl 2 rfl rfl ?_
            refine x_if_eq_b (q := 87) (tgt := 120) C dX8_isAllowed_84 (by decide) rfl (fun c84 => ?_) (fun c84 => ?_)
            · refine x_iconst (q := 121) (v := nI 0) C dX8_isAllowed_120 (by decide) rfl ?_
              refine x_tope (bI (∀ j, j < i + 1 → ¬ agX (cX P) x j)) (by first | exact bI_f (P := ∀ j, j < i + 1 → ¬ agX (cX P) x j) (fun h => c84 (fun j hj => h j (by omega))) | exact bI_f (P := ∀ j, j < i + 1 → ¬ agX (cX P) x j) (fun h => h i (by omega) ((ag_c ok).mpr ⟨c40, by first | (rw [if_pos c100]; exact c73) | (rw [if_neg c100]; exact c73)⟩))) ?_
              refine x_istore_n (q := 122) (lv' := [(0, .ref (ad 0)), (1, .int (nI x)), (2, .int (bI (∀ j, j < i + 1 → ¬ agX (cX P) x j))), (3, .int (nI i)), (4, .int (nI (5 * i))), (5, .int (nI 0)), (6, .int (nI 1))]) C dX8_isAllowed_121 rfl (by decide) rfl rfl rfl ?_
              refine x_iinc (q := 125) (v := nI (i + 1)) (lv' := [(0, .ref (ad 0)), (1, .int (nI x)), (2, .int (bI (∀ j, j < i + 1 → ¬ agX (cX P) x j))), (3, .int (nI (i + 1))), (4, .int (nI (5 * i))), (5, .int (nI 0)), (6, .int (nI 1))]) C dX8_isAllowed_122 3 rfl (nI_add i 1) (by decide) rfl rfl rfl ?_
              refine x_goto (tgt := 4) C dX8_isAllowed_125 (by decide) ?_
              refine x_lv [0, 1, 2, 3] rfl ?_
              exact ih4 (i + 1) (by omega) (by omega)
            · refine x_iload (q := 89) C dX8_isAllowed_87 5 rfl rfl ?_
              refine x_if_eq_n (q := 92) (tgt := 116) C dX8_isAllowed_89 (by decide) (by decide) rfl (fun _ => ?_) (fun h => absurd h (by decide))
              refine x_iconst (q := 117) (v := nI 1) C dX8_isAllowed_116 (by decide) rfl ?_
              refine x_tope (bI (∀ j, j < i + 1 → ¬ agX (cX P) x j)) (bI_t (P := ∀ j, j < i + 1 → ¬ agX (cX P) x j) (lt_s c84 (fun h => by obtain ⟨h1, h2⟩ := (ag_c ok).mp h; first | exact c40 h1 | (rw [if_pos c100] at h2; first | exact h2 c73 | exact c73 h2) | (rw [if_neg c100] at h2; first | exact h2 c73 | exact c73 h2)))) ?_
              refine x_goto (tgt := 121) C dX8_isAllowed_117 (by decide) ?_
              refine x_istore_n (q := 122) (lv' := [(0, .ref (ad 0)), (1, .int (nI x)), (2, .int (bI (∀ j, j < i + 1 → ¬ agX (cX P) x j))), (3, .int (nI i)), (4, .int (nI (5 * i))), (5, .int (nI 0)), (6, .int (nI 1))]) C dX8_isAllowed_121 rfl (by decide) rfl rfl rfl ?_
              refine x_iinc (q := 125) (v := nI (i + 1)) (lv' := [(0, .ref (ad 0)), (1, .int (nI x)), (2, .int (bI (∀ j, j < i + 1 → ¬ agX (cX P) x j))), (3, .int (nI (i + 1))), (4, .int (nI (5 * i))), (5, .int (nI 0)), (6, .int (nI 1))]) C dX8_isAllowed_122 3 rfl (nI_add i 1) (by decide) rfl rfl rfl ?_
              refine x_goto (tgt := 4) C dX8_isAllowed_125 (by decide) ?_
              refine x_lv [0, 1, 2, 3] rfl ?_
              exact ih4 (i + 1) (by omega) (by omega)
        · refine x_iconst (q := 44) (v := nI 1) C dX8_isAllowed_43 (by decide) rfl ?_
          refine x_goto (tgt := 48) C dX8_isAllowed_44 (by decide) ?_
          refine x_istore (q := 50) (lv' := [(0, .ref (ad 0)), (1, .int (nI x)), (2, .int (bI (∀ j, j < i → ¬ agX (cX P) x j))), (3, .int (nI i)), (4, .int (nI (5 * i))), (5, .int (nI 1))]) C dX8_isAllowed_48 (by decide) rfl rfl rfl ?_
          refine x_aload_n (q := 51) C dX8_isAllowed_50 rfl 0 rfl rfl ?_
          refine x_iload_n (q := 52) C dX8_isAllowed_51 rfl 1 rfl rfl ?_
          refine x_aload_n (q := 53) C dX8_isAllowed_52 rfl 0 rfl rfl ?_
          refine xg_X8_ruleOf (q := 56) C tfl_X8_23 dX8_isAllowed_53 rfl ?_
          refine x_iload (q := 58) C dX8_isAllowed_56 4 rfl rfl ?_
          refine x_iconst (q := 59) (v := nI 3) C dX8_isAllowed_58 (by decide) rfl ?_
          refine x_iadd_n (q := 60) C dX8_isAllowed_59 rfl ?_
          refine xa_N4 (q := 61) C (by omega) dX8_isAllowed_60 rfl ?_
          refine x_topn (rk2 (cX P) i) (ok.2.2.1 i (show i < nr P by omega)).2.1 ?_
          refine x_Vf (q := 64) (As := [.int (nI x), .int (nI (rk2 (cX P) i))]) (rest := []) C (c_X8_get hD okk x (rk2 (cX P) i) (by omega) (by omega)) xs_X8_get tim_X8_get tsel_X8_get tml_X8_94 (by decide) 0 rfl (ci := 8) rfl rfl rfl (Nat.le_of_ble_eq_true rfl) dX8_isAllowed_61 rfl ?_
          refine x_aload_n (q := 65) C dX8_isAllowed_64 rfl 0 rfl rfl ?_
          refine xg_X8_ruleOf (q := 68) C tfl_X8_23 dX8_isAllowed_65 rfl ?_
          refine x_iload (q := 70) C dX8_isAllowed_68 4 rfl rfl ?_
          refine x_iconst (q := 71) (v := nI 4) C dX8_isAllowed_70 (by decide) rfl ?_
          refine x_iadd_n (q := 72) C dX8_isAllowed_71 rfl ?_
          refine xa_N4 (q := 73) C (by omega) dX8_isAllowed_72 rfl ?_
          refine x_icmp_ne (q := 76) (tgt := 80) C dX8_isAllowed_73 (by decide) rfl (fun c73 => ?_) (fun c73 => ?_)
          · refine x_iconst (q := 81) (v := nI 0) C dX8_isAllowed_80 (by decide) rfl ?_
            refine x_istore (q := 83) (lv' := [(0, .ref (ad 0)), (1, .int (nI x)), (2, .int (bI (∀ j, j < i → ¬ agX (cX P) x j))), (3, .int (nI i)), (4, .int (nI (5 * i))), (5, .int (nI 1)), (6, .int (nI 0))]) C dX8_isAllowed_81 (by decide) rfl rfl rfl ?_
            refine x_iload_n (q := 84) C dX8_isAllowed_83 rfl 2 rfl rfl ?_
            refine x_if_eq_b (q := 87) (tgt := 120) C dX8_isAllowed_84 (by decide) rfl (fun c84 => ?_) (fun c84 => ?_)
            · refine x_iconst (q := 121) (v := nI 0) C dX8_isAllowed_120 (by decide) rfl ?_
              refine x_tope (bI (∀ j, j < i + 1 → ¬ agX (cX P) x j)) (by first | exact bI_f (P := ∀ j, j < i + 1 → ¬ agX (cX P) x j) (fun h => c84 (fun j hj => h j (by omega))) | exact bI_f (P := ∀ j, j < i + 1 → ¬ agX (cX P) x j) (fun h => h i (by omega) ((ag_c ok).mpr ⟨c40, by first | (rw [if_pos c100]; exact c73) | (rw [if_neg c100]; exact c73)⟩))) ?_
              refine x_istore_n (q := 122) (lv' := [(0, .ref (ad 0)), (1, .int (nI x)), (2, .int (bI (∀ j, j < i + 1 → ¬ agX (cX P) x j))), (3, .int (nI i)), (4, .int (nI (5 * i))), (5, .int (nI 1)), (6, .int (nI 0))]) C dX8_isAllowed_121 rfl (by decide) rfl rfl rfl ?_
              refine x_iinc (q := 125) (v := nI (i + 1)) (lv' := [(0, .ref (ad 0)), (1, .int (nI x)), (2, .int (bI (∀ j, j < i + 1 → ¬ agX (cX P) x j))), (3, .int (nI (i + 1))), (4, .int (nI (5 * i))), (5, .int (nI 1)), (6, .int (nI 0))]) C dX8_isAllowed_122 3 rfl (nI_add i 1) (by decide) rfl rfl rfl ?_
              refine x_goto (tgt := 4) C dX8_isAllowed_125 (by decide) ?_
              refine x_lv [0, 1, 2, 3] rfl ?_
              exact ih4 (i + 1) (by omega) (by omega)
            · refine x_iload (q := 89) C dX8_isAllowed_87 5 rfl rfl ?_
              refine x_if_eq_n (q := 92) (tgt := 116) C dX8_isAllowed_89 (by decide) (by decide) rfl (fun h => absurd h (by decide)) (fun _ => ?_)
              refine x_aload_n (q := 93) C dX8_isAllowed_92 rfl 0 rfl rfl ?_
              refine xg_X8_ruleOf (q := 96) C tfl_X8_23 dX8_isAllowed_93 rfl ?_
              refine x_iload (q := 98) C dX8_isAllowed_96 4 rfl rfl ?_
              refine xa_N4 (q := 99) C (by omega) dX8_isAllowed_98 rfl ?_
              refine x_iconst (q := 100) (v := nI 1) C dX8_isAllowed_99 (by decide) rfl ?_
              refine x_icmp_ne (q := 103) (tgt := 111) C dX8_isAllowed_100 (by decide) rfl (fun c100 => ?_) (fun c100 => ?_)
              · refine x_iload (q := 113) C dX8_isAllowed_111 6 rfl rfl ?_
                refine x_if_ne_n (q := 116) (tgt := 120) C dX8_isAllowed_113 (by decide) (by decide) rfl (fun h => absurd h (by decide)) (fun _ => ?_)
                refine x_iconst (q := 117) (v := nI 1) C dX8_isAllowed_116 (by decide) rfl ?_
                refine x_tope (bI (∀ j, j < i + 1 → ¬ agX (cX P) x j)) (bI_t (P := ∀ j, j < i + 1 → ¬ agX (cX P) x j) (lt_s c84 (fun h => by obtain ⟨h1, h2⟩ := (ag_c ok).mp h; first | exact c40 h1 | (rw [if_pos c100] at h2; first | exact h2 c73 | exact c73 h2) | (rw [if_neg c100] at h2; first | exact h2 c73 | exact c73 h2)))) ?_
                refine x_goto (tgt := 121) C dX8_isAllowed_117 (by decide) ?_
                refine x_istore_n (q := 122) (lv' := [(0, .ref (ad 0)), (1, .int (nI x)), (2, .int (bI (∀ j, j < i + 1 → ¬ agX (cX P) x j))), (3, .int (nI i)), (4, .int (nI (5 * i))), (5, .int (nI 1)), (6, .int (nI 0))]) C dX8_isAllowed_121 rfl (by decide) rfl rfl rfl ?_
                refine x_iinc (q := 125) (v := nI (i + 1)) (lv' := [(0, .ref (ad 0)), (1, .int (nI x)), (2, .int (bI (∀ j, j < i + 1 → ¬ agX (cX P) x j))), (3, .int (nI (i + 1))), (4, .int (nI (5 * i))), (5, .int (nI 1)), (6, .int (nI 0))]) C dX8_isAllowed_122 3 rfl (nI_add i 1) (by decide) rfl rfl rfl ?_
                refine x_goto (tgt := 4) C dX8_isAllowed_125 (by decide) ?_
                refine x_lv [0, 1, 2, 3] rfl ?_
                exact ih4 (i + 1) (by omega) (by omega)
              · refine x_iload (q := 105) C dX8_isAllowed_103 6 rfl rfl ?_
                refine x_if_ne_n (q := 108) (tgt := 116) C dX8_isAllowed_105 (by decide) (by decide) rfl (fun h => absurd h (by decide)) (fun _ => ?_)
                refine x_goto (tgt := 120) C dX8_isAllowed_108 (by decide) ?_
                refine x_iconst (q := 121) (v := nI 0) C dX8_isAllowed_120 (by decide) rfl ?_
                refine x_tope (bI (∀ j, j < i + 1 → ¬ agX (cX P) x j)) (by first | exact bI_f (P := ∀ j, j < i + 1 → ¬ agX (cX P) x j) (fun h => c84 (fun j hj => h j (by omega))) | exact bI_f (P := ∀ j, j < i + 1 → ¬ agX (cX P) x j) (fun h => h i (by omega) ((ag_c ok).mpr ⟨c40, by first | (rw [if_pos c100]; exact c73) | (rw [if_neg c100]; exact c73)⟩))) ?_
                refine x_istore_n (q := 122) (lv' := [(0, .ref (ad 0)), (1, .int (nI x)), (2, .int (bI (∀ j, j < i + 1 → ¬ agX (cX P) x j))), (3, .int (nI i)), (4, .int (nI (5 * i))), (5, .int (nI 1)), (6, .int (nI 0))]) C dX8_isAllowed_121 rfl (by decide) rfl rfl rfl ?_
                refine x_iinc (q := 125) (v := nI (i + 1)) (lv' := [(0, .ref (ad 0)), (1, .int (nI x)), (2, .int (bI (∀ j, j < i + 1 → ¬ agX (cX P) x j))), (3, .int (nI (i + 1))), (4, .int (nI (5 * i))), (5, .int (nI 1)), (6, .int (nI 0))]) C dX8_isAllowed_122 3 rfl (nI_add i 1) (by decide) rfl rfl rfl ?_
                refine x_goto (tgt := 4) C dX8_isAllowed_125 (by decide) ?_
                refine x_lv [0, 1, 2, 3] rfl ?_
                exact ih4 (i + 1) (by omega) (by omega)
          · refine x_iconst (q := 77) (v := nI 1) C dX8_isAllowed_76 (by decide) rfl ?_
            refine x_goto (tgt := 81) C dX8_isAllowed_77 (by decide) ?_
            refine x_istore (q := 83) (lv' := [(0, .ref (ad 0)), (1, .int (nI x)), (2, .int (bI (∀ j, j < i → ¬ agX (cX P) x j))), (3, .int (nI i)), (4, .int (nI (5 * i))), (5, .int (nI 1)), (6, .int (nI 1))]) C dX8_isAllowed_81 (by decide) rfl rfl rfl ?_
            refine x_iload_n (q := 84) C dX8_isAllowed_83 rfl 2 rfl rfl ?_
            refine x_if_eq_b (q := 87) (tgt := 120) C dX8_isAllowed_84 (by decide) rfl (fun c84 => ?_) (fun c84 => ?_)
            · refine x_iconst (q := 121) (v := nI 0) C dX8_isAllowed_120 (by decide) rfl ?_
              refine x_tope (bI (∀ j, j < i + 1 → ¬ agX (cX P) x j)) (by first | exact bI_f (P := ∀ j, j < i + 1 → ¬ agX (cX P) x j) (fun h => c84 (fun j hj => h j (by omega))) | exact bI_f (P := ∀ j, j < i + 1 → ¬ agX (cX P) x j) (fun h => h i (by omega) ((ag_c ok).mpr ⟨c40, by first | (rw [if_pos c100]; exact c73) | (rw [if_neg c100]; exact c73)⟩))) ?_
              refine x_istore_n (q := 122) (lv' := [(0, .ref (ad 0)), (1, .int (nI x)), (2, .int (bI (∀ j, j < i + 1 → ¬ agX (cX P) x j))), (3, .int (nI i)), (4, .int (nI (5 * i))), (5, .int (nI 1)), (6, .int (nI 1))]) C dX8_isAllowed_121 rfl (by decide) rfl rfl rfl ?_
              refine x_iinc (q := 125) (v := nI (i + 1)) (lv' := [(0, .ref (ad 0)), (1, .int (nI x)), (2, .int (bI (∀ j, j < i + 1 → ¬ agX (cX P) x j))), (3, .int (nI (i + 1))), (4, .int (nI (5 * i))), (5, .int (nI 1)), (6, .int (nI 1))]) C dX8_isAllowed_122 3 rfl (nI_add i 1) (by decide) rfl rfl rfl ?_
              refine x_goto (tgt := 4) C dX8_isAllowed_125 (by decide) ?_
              refine x_lv [0, 1, 2, 3] rfl ?_
              exact ih4 (i + 1) (by omega) (by omega)
            · refine x_iload (q := 89) C dX8_isAllowed_87 5 rfl rfl ?_
              refine x_if_eq_n (q := 92) (tgt := 116) C dX8_isAllowed_89 (by decide) (by decide) rfl (fun h => absurd h (by decide)) (fun _ => ?_)
              refine x_aload_n (q := 93) C dX8_isAllowed_92 rfl 0 rfl rfl ?_
              refine xg_X8_ruleOf (q := 96) C tfl_X8_23 dX8_isAllowed_93 rfl ?_
              refine x_iload (q := 98) C dX8_isAllowed_96 4 rfl rfl ?_
              refine xa_N4 (q := 99) C (by omega) dX8_isAllowed_98 rfl ?_
              refine x_iconst (q := 100) (v := nI 1) C dX8_isAllowed_99 (by decide) rfl ?_
              refine x_icmp_ne (q := 103) (tgt := 111) C dX8_isAllowed_100 (by decide) rfl (fun c100 => ?_) (fun c100 => ?_)
              · refine x_iload (q := 113) C dX8_isAllowed_111 6 rfl rfl ?_
                refine x_if_ne_n (q := 116) (tgt := 120) C dX8_isAllowed_113 (by decide) (by decide) rfl (fun _ => ?_) (fun h => absurd h (by decide))
                refine x_iconst (q := 121) (v := nI 0) C dX8_isAllowed_120 (by decide) rfl ?_
                refine x_tope (bI (∀ j, j < i + 1 → ¬ agX (cX P) x j)) (by first | exact bI_f (P := ∀ j, j < i + 1 → ¬ agX (cX P) x j) (fun h => c84 (fun j hj => h j (by omega))) | exact bI_f (P := ∀ j, j < i + 1 → ¬ agX (cX P) x j) (fun h => h i (by omega) ((ag_c ok).mpr ⟨c40, by first | (rw [if_pos c100]; exact c73) | (rw [if_neg c100]; exact c73)⟩))) ?_
                refine x_istore_n (q := 122) (lv' := [(0, .ref (ad 0)), (1, .int (nI x)), (2, .int (bI (∀ j, j < i + 1 → ¬ agX (cX P) x j))), (3, .int (nI i)), (4, .int (nI (5 * i))), (5, .int (nI 1)), (6, .int (nI 1))]) C dX8_isAllowed_121 rfl (by decide) rfl rfl rfl ?_
                refine x_iinc (q := 125) (v := nI (i + 1)) (lv' := [(0, .ref (ad 0)), (1, .int (nI x)), (2, .int (bI (∀ j, j < i + 1 → ¬ agX (cX P) x j))), (3, .int (nI (i + 1))), (4, .int (nI (5 * i))), (5, .int (nI 1)), (6, .int (nI 1))]) C dX8_isAllowed_122 3 rfl (nI_add i 1) (by decide) rfl rfl rfl ?_
                refine x_goto (tgt := 4) C dX8_isAllowed_125 (by decide) ?_
                refine x_lv [0, 1, 2, 3] rfl ?_
                exact ih4 (i + 1) (by omega) (by omega)
              · refine x_iload (q := 105) C dX8_isAllowed_103 6 rfl rfl ?_
                refine x_if_ne_n (q := 108) (tgt := 116) C dX8_isAllowed_105 (by decide) (by decide) rfl (fun _ => ?_) (fun h => absurd h (by decide))
                refine x_iconst (q := 117) (v := nI 1) C dX8_isAllowed_116 (by decide) rfl ?_
                refine x_tope (bI (∀ j, j < i + 1 → ¬ agX (cX P) x j)) (bI_t (P := ∀ j, j < i + 1 → ¬ agX (cX P) x j) (lt_s c84 (fun h => by obtain ⟨h1, h2⟩ := (ag_c ok).mp h; first | exact c40 h1 | (rw [if_pos c100] at h2; first | exact h2 c73 | exact c73 h2) | (rw [if_neg c100] at h2; first | exact h2 c73 | exact c73 h2)))) ?_
                refine x_goto (tgt := 121) C dX8_isAllowed_117 (by decide) ?_
                refine x_istore_n (q := 122) (lv' := [(0, .ref (ad 0)), (1, .int (nI x)), (2, .int (bI (∀ j, j < i + 1 → ¬ agX (cX P) x j))), (3, .int (nI i)), (4, .int (nI (5 * i))), (5, .int (nI 1)), (6, .int (nI 1))]) C dX8_isAllowed_121 rfl (by decide) rfl rfl rfl ?_
                refine x_iinc (q := 125) (v := nI (i + 1)) (lv' := [(0, .ref (ad 0)), (1, .int (nI x)), (2, .int (bI (∀ j, j < i + 1 → ¬ agX (cX P) x j))), (3, .int (nI (i + 1))), (4, .int (nI (5 * i))), (5, .int (nI 1)), (6, .int (nI 1))]) C dX8_isAllowed_122 3 rfl (nI_add i 1) (by decide) rfl rfl rfl ?_
                refine x_goto (tgt := 4) C dX8_isAllowed_125 (by decide) ?_
                refine x_lv [0, 1, 2, 3] rfl ?_
                exact ih4 (i + 1) (by omega) (by omega)
  exact L4 _ 0 (Nat.zero_le _) (Nat.lt_succ_self _)

set_option maxRecDepth 100000 in
set_option maxHeartbeats 4000000 in
theorem c_X8_worthOf (hD : ∀ P T, va_D A (wN ad cI cZ P T)) {P T : St} (okk : okK P) (x : Nat) (hx : x < 2 ^ 31) : XMI l D (tyz cI cZ) (wN ad cI cZ) A yX8_worthOf cX8_worthOf 6 (some .int) rmX8_worthOf [.ref (ad 0), .int (nI x)] P T (fun r P' T' => r = wo P x ∧ P' = P ∧ T' = T) := by
  have hk6 := okk.1.2
  have hS144 := okk.2.1.2.2
  refine x_start_i (lv := [(0, .ref (ad 0)), (1, .int (nI x))]) (own := RX8) (by decide) rfl hD (Nat.le_of_ble_eq_true rfl) rfl ?_
  intro p e s m args below meth c C
  refine x_aload_n (q := 1) C dX8_worthOf_0 rfl 0 rfl rfl ?_
  refine xg_X8_base (q := 4) C tfl_X8_80 dX8_worthOf_1 rfl ?_
  refine x_istore_n (q := 5) (lv' := [(0, .ref (ad 0)), (1, .int (nI x)), (2, .int (P 23 0))]) C dX8_worthOf_4 rfl (by decide) rfl rfl rfl ?_
  refine x_iconst (q := 6) (v := nI 0) C dX8_worthOf_5 (by decide) rfl ?_
  refine x_istore_n (q := 7) (lv' := [(0, .ref (ad 0)), (1, .int (nI x)), (2, .int (P 23 0)), (3, .int (nI 0))]) C dX8_worthOf_6 rfl (by decide) rfl rfl rfl ?_
  have L7 : ∀ (f1 : Nat) (a : Nat) (z : Int32), (a ≤ kn P) → (z = P 23 0 + sm (fun a => P 9 (slv P x a) + sm (fun t => P 10 (slv P x a * 24 + slv P x (a + 1 + t))) (kn P - (a + 1))) a) → kn P - a < f1 → XW p l e rmX8_worthOf s m args below meth c D (wN ad cI cZ) A 6 (MQ below (XPI D (tyz cI cZ) (wN ad cI cZ) A (fun r P' T' => r = wo P x ∧ P' = P ∧ T' = T)) args s 0 0 A) 7 [(0, .ref (ad 0)), (1, .int (nI x)), (2, .int z), (3, .int (nI a))] [] P T := by
    intro f1
    induction f1 with
    | zero => intro a z ha hz hm; exact absurd hm (Nat.not_lt_zero _)
    | succ f1 ih7 =>
      intro a z ha hz hm7
      refine x_iload_n (q := 8) C dX8_worthOf_7 rfl 3 rfl rfl ?_
      refine x_aload_n (q := 9) C dX8_worthOf_8 rfl 0 rfl rfl ?_
      refine xg_X8_knobs (q := 12) C tfl_X8_47 dX8_worthOf_9 rfl ?_
      refine x_topn (kn P) okk.1.1 ?_
      refine x_icmp_ge_n (q := 15) (tgt := 89) C dX8_worthOf_12 (by omega) (by omega) (by decide) rfl (fun c12 => ?_) (fun c12 => ?_)
      · refine x_iload_n (q := 90) C dX8_worthOf_89 rfl 2 rfl rfl ?_
        exact x_iret C dX8_worthOf_90 ⟨by rw [hz, show a = kn P by omega, ← wo_N]; rfl, rfl, rfl⟩
      · refine x_iconst (q := 16) (v := nI 4) C dX8_worthOf_15 (by decide) rfl ?_
        refine x_iload_n (q := 17) C dX8_worthOf_16 rfl 3 rfl rfl ?_
        refine x_imul_n (q := 18) C dX8_worthOf_17 rfl ?_
        refine x_aload_n (q := 19) C dX8_worthOf_18 rfl 0 rfl rfl ?_
        refine x_iload_n (q := 20) C dX8_worthOf_19 rfl 1 rfl rfl ?_
        refine x_iload_n (q := 21) C dX8_worthOf_20 rfl 3 rfl rfl ?_
        refine x_Vf (q := 24) (As := [.int (nI x), .int (nI a)]) (rest := [.int (nI (4 * a))]) C (c_X8_get hD okk x a (by omega) (by omega)) xs_X8_get tim_X8_get tsel_X8_get tml_X8_94 (by decide) 0 rfl (ci := 8) rfl rfl rfl (Nat.le_of_ble_eq_true rfl) dX8_worthOf_21 rfl ?_
        refine x_iadd_n (q := 25) C dX8_worthOf_24 rfl ?_
        refine x_topn (slv P x a) (by rw [slv, Nat.mul_comm]) ?_
        refine x_istore (q := 27) (lv' := [(0, .ref (ad 0)), (1, .int (nI x)), (2, .int z), (3, .int (nI a)), (4, .int (nI (slv P x a)))]) C dX8_worthOf_25 (by decide) rfl rfl rfl ?_
        refine x_iload_n (q := 28) C dX8_worthOf_27 rfl 2 rfl rfl ?_
        refine x_aload_n (q := 29) C dX8_worthOf_28 rfl 0 rfl rfl ?_
        refine xg_X8_single (q := 32) C tfl_X8_26 dX8_worthOf_29 rfl ?_
        refine x_iload (q := 34) C dX8_worthOf_32 4 rfl rfl ?_
        refine xa_N5 (q := 35) C (okk_slv okk x (by omega)) dX8_worthOf_34 rfl ?_
        refine x_iadd (q := 36) C dX8_worthOf_35 rfl ?_
        refine x_topi (fun z2 hz2 => ?_)
        refine x_istore_n (q := 37) (lv' := [(0, .ref (ad 0)), (1, .int (nI x)), (2, .int z2), (3, .int (nI a)), (4, .int (nI (slv P x a)))]) C dX8_worthOf_36 rfl (by decide) rfl rfl rfl ?_
        have hw0 := hz2
        refine x_iload_n (q := 38) C dX8_worthOf_37 rfl 3 rfl rfl ?_
        refine x_iconst (q := 39) (v := nI 1) C dX8_worthOf_38 (by decide) rfl ?_
        refine x_iadd_n (q := 40) C dX8_worthOf_39 rfl ?_
        refine x_istore (q := 42) (lv' := [(0, .ref (ad 0)), (1, .int (nI x)), (2, .int z2), (3, .int (nI a)), (4, .int (nI (slv P x a))), (5, .int (nI (a + 1)))]) C dX8_worthOf_40 (by decide) rfl rfl rfl ?_
        have L42 : ∀ (f3 : Nat) (b : Nat) (y : Int32), (a + 1 ≤ b ∧ b ≤ kn P) → (y = z2 + sm (fun t => P 10 (slv P x a * 24 + slv P x (a + 1 + t))) (b - (a + 1))) → kn P - b < f3 → XW p l e rmX8_worthOf s m args below meth c D (wN ad cI cZ) A 6 (MQ below (XPI D (tyz cI cZ) (wN ad cI cZ) A (fun r P' T' => r = wo P x ∧ P' = P ∧ T' = T)) args s 0 0 A) 42 [(0, .ref (ad 0)), (1, .int (nI x)), (2, .int y), (3, .int (nI a)), (4, .int (nI (slv P x a))), (5, .int (nI b))] [] P T := by
          intro f3
          induction f3 with
          | zero => intro b y hb hy hm; exact absurd hm (Nat.not_lt_zero _)
          | succ f3 ih42 =>
            intro b y hb hy hm42
            refine x_iload (q := 44) C dX8_worthOf_42 5 rfl rfl ?_
            refine x_aload_n (q := 45) C dX8_worthOf_44 rfl 0 rfl rfl ?_
            refine xg_X8_knobs (q := 48) C tfl_X8_47 dX8_worthOf_45 rfl ?_
            refine x_topn (kn P) okk.1.1 ?_
            refine x_icmp_ge_n (q := 51) (tgt := 83) C dX8_worthOf_48 (by omega) (by omega) (by decide) rfl (fun c48 => ?_) (fun c48 => ?_)
            · refine x_iinc (q := 86) (v := nI (a + 1)) (lv' := [(0, .ref (ad 0)), (1, .int (nI x)), (2, .int y), (3, .int (nI (a + 1))), (4, .int (nI (slv P x a))), (5, .int (nI b))]) C dX8_worthOf_83 3 rfl (nI_add a 1) (by decide) rfl rfl rfl ?_
              refine x_goto (tgt := 7) C dX8_worthOf_86 (by decide) ?_
              refine x_lv [0, 1, 2, 3] rfl ?_
              exact ih7 (a + 1) _ (by omega) (by rw [hy, show b - (a + 1) = kn P - (a + 1) by omega, hw0, hz, sm]; simp only [Int32.add_assoc]) (by omega)
            · refine x_iload_n (q := 52) C dX8_worthOf_51 rfl 2 rfl rfl ?_
              refine x_aload_n (q := 53) C dX8_worthOf_52 rfl 0 rfl rfl ?_
              refine xg_X8_joints (q := 56) C tfl_X8_29 dX8_worthOf_53 rfl ?_
              refine x_bipush (q := 58) (v := nI 24) C dX8_worthOf_56 (by decide) rfl ?_
              refine x_iload (q := 60) C dX8_worthOf_58 4 rfl rfl ?_
              refine x_imul_n (q := 61) C dX8_worthOf_60 rfl ?_
              refine x_iconst (q := 62) (v := nI 4) C dX8_worthOf_61 (by decide) rfl ?_
              refine x_iload (q := 64) C dX8_worthOf_62 5 rfl rfl ?_
              refine x_imul_n (q := 65) C dX8_worthOf_64 rfl ?_
              refine x_iadd_n (q := 66) C dX8_worthOf_65 rfl ?_
              refine x_aload_n (q := 67) C dX8_worthOf_66 rfl 0 rfl rfl ?_
              refine x_iload_n (q := 68) C dX8_worthOf_67 rfl 1 rfl rfl ?_
              refine x_iload (q := 70) C dX8_worthOf_68 5 rfl rfl ?_
              refine x_Vf (q := 73) (As := [.int (nI x), .int (nI b)]) (rest := [.int (nI ((24 * (slv P x a)) + (4 * b))), .ref (ad 6), .int y]) C (c_X8_get hD okk x b (by omega) (by omega)) xs_X8_get tim_X8_get tsel_X8_get tml_X8_94 (by decide) 0 rfl (ci := 8) rfl rfl rfl (Nat.le_of_ble_eq_true rfl) dX8_worthOf_70 rfl ?_
              refine x_iadd_n (q := 74) C dX8_worthOf_73 rfl ?_
              refine x_topn (slv P x a * 24 + slv P x b) (by rw [slv, slv, Nat.mul_comm 24, Nat.mul_comm 4, Nat.add_assoc]) ?_
              refine xa_N6 (q := 75) C (by have := okk_slv okk x (k := a) (by omega); have := okk_slv okk x (k := b) (by omega); omega) dX8_worthOf_74 rfl ?_
              refine x_iadd (q := 76) C dX8_worthOf_75 rfl ?_
              refine x_topi (fun z4 hz4 => ?_)
              refine x_istore_n (q := 77) (lv' := [(0, .ref (ad 0)), (1, .int (nI x)), (2, .int z4), (3, .int (nI a)), (4, .int (nI (slv P x a))), (5, .int (nI b))]) C dX8_worthOf_76 rfl (by decide) rfl rfl rfl ?_
              refine x_iinc (q := 80) (v := nI (b + 1)) (lv' := [(0, .ref (ad 0)), (1, .int (nI x)), (2, .int z4), (3, .int (nI a)), (4, .int (nI (slv P x a))), (5, .int (nI (b + 1)))]) C dX8_worthOf_77 5 rfl (nI_add b 1) (by decide) rfl rfl rfl ?_
              refine x_goto (tgt := 42) C dX8_worthOf_80 (by decide) ?_
              exact ih42 (b + 1) _ (by omega) (by rw [hz4, hy, show b + 1 - (a + 1) = b - (a + 1) + 1 by omega, sm, show a + 1 + (b - (a + 1)) = b by omega, Int32.add_assoc]) (by omega)
        exact L42 _ (a + 1) _ ⟨Nat.le_refl _, by omega⟩ (by rw [Nat.sub_self]; exact (Int32.add_zero _).symm) (Nat.lt_succ_self _)
  exact L7 _ 0 _ (Nat.zero_le _) (Int32.add_zero _).symm (Nat.lt_succ_self _)

set_option maxRecDepth 100000 in
set_option maxHeartbeats 4000000 in
theorem c_X8_off (hD : ∀ P T, va_D A (wN ad cI cZ P T)) {P T : St} (ok : okN P) (x y : Nat) (hx : x < 2 ^ 31) (hy : y < 2 ^ 31) : XMI l D (tyz cI cZ) (wN ad cI cZ) A yX8_off cX8_off 6 (some .int) rmX8_off [.ref (ad 0), .int (nI x), .int (nI y)] P T (fun r P' T' => r = off P x y ∧ P' = P ∧ T' = T) := by
  have okc := okN_c ok
  have hk6 := okc_kn6 okc
  have hS144 := okc_S144 okc
  have hS1 := okc_S1 okc
  have hnr := okc_nr12 okc
  have hnt := okc_nt60 okc
  have hnz := okc_nz50 okc
  have hsd := okc_sdb okc
  have okk := okC_K okc
  refine x_start_i (lv := [(0, .ref (ad 0)), (1, .int (nI x)), (2, .int (nI y))]) (own := RX8) (by decide) rfl hD (Nat.le_of_ble_eq_true rfl) rfl ?_
  intro p e s m args below meth c C
  refine x_iconst (q := 1) (v := nI 0) C dX8_off_0 (by decide) rfl ?_
  refine x_istore_n (q := 2) (lv' := [(0, .ref (ad 0)), (1, .int (nI x)), (2, .int (nI y)), (3, .int (nI 0))]) C dX8_off_1 rfl (by decide) rfl rfl rfl ?_
  refine x_iconst (q := 3) (v := nI 0) C dX8_off_2 (by decide) rfl ?_
  refine x_istore (q := 5) (lv' := [(0, .ref (ad 0)), (1, .int (nI x)), (2, .int (nI y)), (3, .int (nI 0)), (4, .int (nI 0))]) C dX8_off_3 (by decide) rfl rfl rfl ?_
  have L5 : ∀ (f1 : Nat) (i : Nat) (z : Int32), (i ≤ kn P) → (z = sm (oft P x y) i) → kn P - i < f1 → XW p l e rmX8_off s m args below meth c D (wN ad cI cZ) A 6 (MQ below (XPI D (tyz cI cZ) (wN ad cI cZ) A (fun r P' T' => r = off P x y ∧ P' = P ∧ T' = T)) args s 0 0 A) 5 [(0, .ref (ad 0)), (1, .int (nI x)), (2, .int (nI y)), (3, .int z), (4, .int (nI i))] [] P T := by
    intro f1
    induction f1 with
    | zero => intro i z hi hz hm; exact absurd hm (Nat.not_lt_zero _)
    | succ f1 ih5 =>
      intro i z hi hz hm5
      refine x_iload (q := 7) C dX8_off_5 4 rfl rfl ?_
      refine x_aload_n (q := 8) C dX8_off_7 rfl 0 rfl rfl ?_
      refine xg_X8_knobs (q := 11) C tfl_X8_47 dX8_off_8 rfl ?_
      refine x_topn (kn P) (okc_kn (P := P) okc) ?_
      refine x_icmp_ge_n (q := 14) (tgt := 81) C dX8_off_11 (by omega) (by omega) (by decide) rfl (fun c11 => ?_) (fun c11 => ?_)
      · refine x_iload_n (q := 82) C dX8_off_81 rfl 3 rfl rfl ?_
        exact x_iret C dX8_off_82 ⟨by rw [hz, show i = kn P by omega]; rfl, rfl, rfl⟩
      · refine x_aload_n (q := 15) C dX8_off_14 rfl 0 rfl rfl ?_
        refine xg_X8_places (q := 18) C tfl_X8_17 dX8_off_15 rfl ?_
        refine x_iconst (q := 19) (v := nI 4) C dX8_off_18 (by decide) rfl ?_
        refine x_iload (q := 21) C dX8_off_19 4 rfl rfl ?_
        refine x_imul_n (q := 22) C dX8_off_21 rfl ?_
        refine x_aload_n (q := 23) C dX8_off_22 rfl 0 rfl rfl ?_
        refine x_iload_n (q := 24) C dX8_off_23 rfl 1 rfl rfl ?_
        refine x_iload (q := 26) C dX8_off_24 4 rfl rfl ?_
        refine x_Vf (q := 29) (As := [.int (nI x), .int (nI i)]) (rest := [.int (nI (4 * i)), .ref (ad 2)]) C (c_X8_get hD okk x i (by omega) (by omega)) xs_X8_get tim_X8_get tsel_X8_get tml_X8_94 (by decide) 0 rfl (ci := 8) rfl rfl rfl (Nat.le_of_ble_eq_true rfl) dX8_off_26 rfl ?_
        refine x_iadd_n (q := 30) C dX8_off_29 rfl ?_
        refine x_topn (slv P x i) (by rw [slv, Nat.mul_comm]) ?_
        refine xa_N2 (q := 31) C (slv_lt okc x (by omega)) dX8_off_30 rfl ?_
        refine x_aload_n (q := 32) C dX8_off_31 rfl 0 rfl rfl ?_
        refine xg_X8_places (q := 35) C tfl_X8_17 dX8_off_32 rfl ?_
        refine x_iconst (q := 36) (v := nI 4) C dX8_off_35 (by decide) rfl ?_
        refine x_iload (q := 38) C dX8_off_36 4 rfl rfl ?_
        refine x_imul_n (q := 39) C dX8_off_38 rfl ?_
        refine x_aload_n (q := 40) C dX8_off_39 rfl 0 rfl rfl ?_
        refine x_iload_n (q := 41) C dX8_off_40 rfl 2 rfl rfl ?_
        refine x_iload (q := 43) C dX8_off_41 4 rfl rfl ?_
        refine x_Vf (q := 46) (As := [.int (nI y), .int (nI i)]) (rest := [.int (nI (4 * i)), .ref (ad 2), .int (P 2 (slv P x i))]) C (c_X8_get hD okk y i (by omega) (by omega)) xs_X8_get tim_X8_get tsel_X8_get tml_X8_94 (by decide) 0 rfl (ci := 8) rfl rfl rfl (Nat.le_of_ble_eq_true rfl) dX8_off_43 rfl ?_
        refine x_iadd_n (q := 47) C dX8_off_46 rfl ?_
        refine x_topn (slv P y i) (by rw [slv, Nat.mul_comm]) ?_
        refine xa_N2 (q := 48) C (slv_lt okc y (by omega)) dX8_off_47 rfl ?_
        refine x_isub (q := 49) C dX8_off_48 rfl ?_
        refine x_istore (q := 51) (lv' := [(0, .ref (ad 0)), (1, .int (nI x)), (2, .int (nI y)), (3, .int z), (4, .int (nI i)), (5, .int ((P 2 (slv P x i)) - (P 2 (slv P y i))))]) C dX8_off_49 (by decide) rfl rfl rfl ?_
        refine x_iload_n (q := 52) C dX8_off_51 rfl 3 rfl rfl ?_
        refine x_iload (q := 54) C dX8_off_52 5 rfl rfl ?_
        refine x_if_ge (q := 57) (tgt := 63) C dX8_off_54 (by decide) rfl (fun c54 => ?_) (fun c54 => ?_)
        · refine x_iload (q := 65) C dX8_off_63 5 rfl rfl ?_
          refine x_aload_n (q := 66) C dX8_off_65 rfl 0 rfl rfl ?_
          refine xg_X8_steeps (q := 69) C tfl_X8_20 dX8_off_66 rfl ?_
          refine x_iload (q := 71) C dX8_off_69 4 rfl rfl ?_
          refine xa_N3 (q := 72) C (by omega) dX8_off_71 rfl ?_
          refine x_imul (q := 73) C dX8_off_72 rfl ?_
          refine x_iadd (q := 74) C dX8_off_73 rfl ?_
          refine x_topi (fun z2 hz2 => ?_)
          refine x_istore_n (q := 75) (lv' := [(0, .ref (ad 0)), (1, .int (nI x)), (2, .int (nI y)), (3, .int z2), (4, .int (nI i)), (5, .int ((P 2 (slv P x i)) - (P 2 (slv P y i))))]) C dX8_off_74 rfl (by decide) rfl rfl rfl ?_
          refine x_iinc (q := 78) (v := nI (i + 1)) (lv' := [(0, .ref (ad 0)), (1, .int (nI x)), (2, .int (nI y)), (3, .int z2), (4, .int (nI (i + 1))), (5, .int ((P 2 (slv P x i)) - (P 2 (slv P y i))))]) C dX8_off_75 4 rfl (nI_add i 1) (by decide) rfl rfl rfl ?_
          refine x_goto (tgt := 5) C dX8_off_78 (by decide) ?_
          refine x_lv [0, 1, 2, 3, 4] rfl ?_
          exact ih5 (i + 1) _ (by omega) (by rw [hz2, hz, sm, oft]; first | rw [← ab_pos c54] | rw [← ab_neg c54]) (by omega)
        · refine x_iload (q := 59) C dX8_off_57 5 rfl rfl ?_
          refine x_ineg (q := 60) C dX8_off_59 rfl ?_
          refine x_goto (tgt := 65) C dX8_off_60 (by decide) ?_
          refine x_aload_n (q := 66) C dX8_off_65 rfl 0 rfl rfl ?_
          refine xg_X8_steeps (q := 69) C tfl_X8_20 dX8_off_66 rfl ?_
          refine x_iload (q := 71) C dX8_off_69 4 rfl rfl ?_
          refine xa_N3 (q := 72) C (by omega) dX8_off_71 rfl ?_
          refine x_imul (q := 73) C dX8_off_72 rfl ?_
          refine x_iadd (q := 74) C dX8_off_73 rfl ?_
          refine x_topi (fun z3 hz3 => ?_)
          refine x_istore_n (q := 75) (lv' := [(0, .ref (ad 0)), (1, .int (nI x)), (2, .int (nI y)), (3, .int z3), (4, .int (nI i)), (5, .int ((P 2 (slv P x i)) - (P 2 (slv P y i))))]) C dX8_off_74 rfl (by decide) rfl rfl rfl ?_
          refine x_iinc (q := 78) (v := nI (i + 1)) (lv' := [(0, .ref (ad 0)), (1, .int (nI x)), (2, .int (nI y)), (3, .int z3), (4, .int (nI (i + 1))), (5, .int ((P 2 (slv P x i)) - (P 2 (slv P y i))))]) C dX8_off_75 4 rfl (nI_add i 1) (by decide) rfl rfl rfl ?_
          refine x_goto (tgt := 5) C dX8_off_78 (by decide) ?_
          refine x_lv [0, 1, 2, 3, 4] rfl ?_
          exact ih5 (i + 1) _ (by omega) (by rw [hz3, hz, sm, oft]; first | rw [← ab_pos c54] | rw [← ab_neg c54]) (by omega)
  exact L5 _ 0 0 (Nat.zero_le _) rfl (Nat.lt_succ_self _)

set_option maxRecDepth 100000 in
set_option maxHeartbeats 4000000 in
theorem c_X8_firstOf (hD : ∀ P T, va_D A (wN ad cI cZ P T)) {P T : St} (ok : okN P) (x : Nat) (hx : x < 2 ^ 31) : XMI l D (tyz cI cZ) (wN ad cI cZ) A yX8_firstOf cX8_firstOf 4 (some .int) rmX8_firstOf [.ref (ad 0), .int (nI x)] P T (fun r P' T' => r = foN P x ∧ P' = P ∧ T' = T) := by
  have okc := okN_c ok
  have hk6 := okc_kn6 okc
  have hS144 := okc_S144 okc
  have hS1 := okc_S1 okc
  have hnr := okc_nr12 okc
  have hnt := okc_nt60 okc
  have hnz := okc_nz50 okc
  have hsd := okc_sdb okc
  have okk := okC_K okc
  refine x_start_i (lv := [(0, .ref (ad 0)), (1, .int (nI x))]) (own := RX8) (by decide) rfl hD (Nat.le_of_ble_eq_true rfl) rfl ?_
  intro p e s m args below meth c C
  refine x_iconst (q := 1) (v := (-1)) C dX8_firstOf_0 (by decide) rfl ?_
  refine x_istore_n (q := 2) (lv' := [(0, .ref (ad 0)), (1, .int (nI x)), (2, .int ((-1)))]) C dX8_firstOf_1 rfl (by decide) rfl rfl rfl ?_
  refine x_aload_n (q := 3) C dX8_firstOf_2 rfl 0 rfl rfl ?_
  refine xg_X8_trials (q := 6) C tfl_X8_62 dX8_firstOf_3 rfl ?_
  refine x_topn (nt P) (okc_nt (P := P) okc) ?_
  refine x_iconst (q := 7) (v := nI 1) C dX8_firstOf_6 (by decide) rfl ?_
  refine x_isub (q := 8) C dX8_firstOf_7 rfl ?_
  refine x_istore_n (q := 9) (lv' := [(0, .ref (ad 0)), (1, .int (nI x)), (2, .int ((-1))), (3, .int ((nI (nt P)) - (nI 1)))]) C dX8_firstOf_8 rfl (by decide) rfl rfl rfl ?_
  have L9 : ∀ (f1 : Nat) (k : Nat) (z : Int32), (k ≤ nt P) → (fst1 P x k z) → k < f1 → XW p l e rmX8_firstOf s m args below meth c D (wN ad cI cZ) A 4 (MQ below (XPI D (tyz cI cZ) (wN ad cI cZ) A (fun r P' T' => r = foN P x ∧ P' = P ∧ T' = T)) args s 0 0 A) 9 [(0, .ref (ad 0)), (1, .int (nI x)), (2, .int z), (3, .int (nI k - nI 1))] [] P T := by
    intro f1
    induction f1 with
    | zero => intro k z hk hf hm; exact absurd hm (Nat.not_lt_zero _)
    | succ f1 ih9 =>
      intro k z hk hf hm9
      refine x_iload_n (q := 10) C dX8_firstOf_9 rfl 3 rfl rfl ?_
      refine x_if_lt (q := 13) (tgt := 35) C dX8_firstOf_10 (by decide) rfl (fun c10 => ?_) (fun c10 => ?_)
      · obtain rfl := (nI_m1lt (by omega)).mp c10
        refine x_iload_n (q := 36) C dX8_firstOf_35 rfl 2 rfl rfl ?_
        exact x_iret C dX8_firstOf_36 ⟨fst1_end hf, rfl, rfl⟩
      · have hk0 : 0 < k := Nat.pos_of_ne_zero (fun h => c10 ((nI_m1lt (by omega)).mpr h))
        rw [nI_m1 (show 1 ≤ k by omega)]
        have htS := okc_txS okc (i := k - 1) (by omega)
        refine x_aload_n (q := 14) C dX8_firstOf_13 rfl 0 rfl rfl ?_
        refine xg_X8_tried (q := 17) C tfl_X8_35 dX8_firstOf_14 rfl ?_
        refine x_iload_n (q := 18) C dX8_firstOf_17 rfl 3 rfl rfl ?_
        refine xa_N7 (q := 19) C (by omega) dX8_firstOf_18 rfl ?_
        refine x_topn (tx P (k - 1)) (okc_tx (P := P) okc (by omega)) ?_
        refine x_iload_n (q := 20) C dX8_firstOf_19 rfl 1 rfl rfl ?_
        refine x_icmp_ne_n (q := 23) (tgt := 27) C dX8_firstOf_20 (by omega) (by omega) (by decide) rfl (fun c20 => ?_) (fun c20 => ?_)
        · refine x_iload_n (q := 28) C dX8_firstOf_27 rfl 2 rfl rfl ?_
          refine x_istore_n (q := 29) (lv' := [(0, .ref (ad 0)), (1, .int (nI x)), (2, .int z), (3, .int (nI (k - 1)))]) C dX8_firstOf_28 rfl (by decide) rfl rfl rfl ?_
          refine x_iinc (q := 32) (v := nI (k - 1) - nI 1) (lv' := [(0, .ref (ad 0)), (1, .int (nI x)), (2, .int z), (3, .int (nI (k - 1) - nI 1))]) C dX8_firstOf_29 3 rfl (by rw [Int32.sub_eq_add_neg]; rfl) (by decide) rfl rfl rfl ?_
          refine x_goto (tgt := 9) C dX8_firstOf_32 (by decide) ?_
          exact ih9 (k - 1) z (by omega) (fst1_n (by rw [show k - 1 + 1 = k by omega]; exact hf) c20) (by omega)
        · refine x_iload_n (q := 24) C dX8_firstOf_23 rfl 3 rfl rfl ?_
          refine x_goto (tgt := 28) C dX8_firstOf_24 (by decide) ?_
          refine x_istore_n (q := 29) (lv' := [(0, .ref (ad 0)), (1, .int (nI x)), (2, .int (nI (k - 1))), (3, .int (nI (k - 1)))]) C dX8_firstOf_28 rfl (by decide) rfl rfl rfl ?_
          refine x_iinc (q := 32) (v := nI (k - 1) - nI 1) (lv' := [(0, .ref (ad 0)), (1, .int (nI x)), (2, .int (nI (k - 1))), (3, .int (nI (k - 1) - nI 1))]) C dX8_firstOf_29 3 rfl (by rw [Int32.sub_eq_add_neg]; rfl) (by decide) rfl rfl rfl ?_
          refine x_goto (tgt := 9) C dX8_firstOf_32 (by decide) ?_
          exact ih9 (k - 1) (nI (k - 1)) (by omega) (fst1_y (z := 0) (by omega) c20) (by omega)
  exact L9 _ (nt P) _ (Nat.le_refl _) (Or.inl ⟨rfl, fun j h1 h2 => by omega⟩) (Nat.lt_succ_self _)

end REFA
