section KNOBS
variable {l : Launch} {D : va_G} {ad : Nat → Nat} {cI cZ : ClassId} {A : Nat → Prop}

set_option maxRecDepth 100000 in
set_option maxHeartbeats 4000000 in
theorem c_X2_howMany (hD : ∀ P T, va_D A (wX ad cI cZ P T)) {P T : St} : XMI l D (tyz cI cZ) (wX ad cI cZ) A yX2_howMany cX2_howMany 1 (some .int) rmX2_howMany [.ref (ad 1)] P T (fun r P' T' => r = P 20 0 ∧ P' = P ∧ T' = T) := by
  refine x_start_i (lv := [(0, .ref (ad 1))]) (own := RX2) (by decide) rfl hD (Nat.le_of_ble_eq_true rfl) rfl ?_
  intro p e s m args below meth c C
  refine x_aload_n (q := 1) C dX2_howMany_0 rfl 0 rfl rfl ?_
  refine xg_X2_many (q := 4) C tfl_X2_9 dX2_howMany_1 rfl ?_
  exact x_iret C dX2_howMany_4 ⟨rfl, rfl, rfl⟩

set_option maxRecDepth 100000 in
set_option maxHeartbeats 4000000 in
theorem c_X2_howManySettings (hD : ∀ P T, va_D A (wX ad cI cZ P T)) {P T : St} : XMI l D (tyz cI cZ) (wX ad cI cZ) A yX2_howManySettings cX2_howManySettings 1 (some .int) rmX2_howManySettings [.ref (ad 1)] P T (fun r P' T' => r = P 21 0 ∧ P' = P ∧ T' = T) := by
  refine x_start_i (lv := [(0, .ref (ad 1))]) (own := RX2) (by decide) rfl hD (Nat.le_of_ble_eq_true rfl) rfl ?_
  intro p e s m args below meth c C
  refine x_aload_n (q := 1) C dX2_howManySettings_0 rfl 0 rfl rfl ?_
  refine xg_X2_settings (q := 4) C tfl_X2_15 dX2_howManySettings_1 rfl ?_
  exact x_iret C dX2_howManySettings_4 ⟨rfl, rfl, rfl⟩

set_option maxRecDepth 100000 in
set_option maxHeartbeats 4000000 in
theorem c_X2_slot (hD : ∀ P T, va_D A (wX ad cI cZ P T)) {P T : St} (k v : Nat) : XMI l D (tyz cI cZ) (wX ad cI cZ) A yX2_slot cX2_slot 2 (some .int) rmX2_slot [.int (nI k), .int (nI v)] P T (fun r P' T' => r = nI (k * 4 + v) ∧ P' = P ∧ T' = T) := by
  refine x_start_i (lv := [(0, .int (nI k)), (1, .int (nI v))]) (own := RX2) (by decide) rfl hD (Nat.le_of_ble_eq_true rfl) rfl ?_
  intro p e s m args below meth c C
  refine x_iload_n (q := 1) C dX2_slot_0 rfl 0 rfl rfl ?_
  refine x_iconst (q := 2) (v := nI 4) C dX2_slot_1 (by decide) rfl ?_
  refine x_imul_n (q := 3) C dX2_slot_2 rfl ?_
  refine x_iload_n (q := 4) C dX2_slot_3 rfl 1 rfl rfl ?_
  refine x_iadd_n (q := 5) C dX2_slot_4 rfl ?_
  exact x_iret C dX2_slot_5 ⟨rfl, rfl, rfl⟩

set_option maxRecDepth 100000 in
set_option maxHeartbeats 4000000 in
theorem c_X2_hasKnob (hD : ∀ P T, va_D A (wX ad cI cZ P T)) {P T : St} (k : Int32) : XMI l D (tyz cI cZ) (wX ad cI cZ) A yX2_hasKnob cX2_hasKnob 2 (some .boolean) rmX2_hasKnob [.ref (ad 1), .int k] P T (fun r P' T' => r = bI (isK P k) ∧ P' = P ∧ T' = T) := by
  refine x_start_i (lv := [(0, .ref (ad 1)), (1, .int k)]) (own := RX2) (by decide) rfl hD (Nat.le_of_ble_eq_true rfl) rfl ?_
  intro p e s m args below meth c C
  refine x_iload_n (q := 1) C dX2_hasKnob_0 rfl 1 rfl rfl ?_
  refine x_if_lt (q := 4) (tgt := 16) C dX2_hasKnob_1 (by decide) rfl (fun c1 => ?_) (fun c1 => ?_)
  · refine x_iconst (q := 17) (v := nI 0) C dX2_hasKnob_16 (by decide) rfl ?_
    exact x_zret C dX2_hasKnob_17 rfl ⟨bI_f (by simp only [isK, isS, fa_lt, fa_le] at *; omega), rfl, rfl⟩
  · refine x_iload_n (q := 5) C dX2_hasKnob_4 rfl 1 rfl rfl ?_
    refine x_aload_n (q := 6) C dX2_hasKnob_5 rfl 0 rfl rfl ?_
    refine xg_X2_many (q := 9) C tfl_X2_9 dX2_hasKnob_6 rfl ?_
    refine x_icmp_ge (q := 12) (tgt := 16) C dX2_hasKnob_9 (by decide) rfl (fun c9 => ?_) (fun c9 => ?_)
    · refine x_iconst (q := 17) (v := nI 0) C dX2_hasKnob_16 (by decide) rfl ?_
      exact x_zret C dX2_hasKnob_17 rfl ⟨bI_f (by simp only [isK, isS, fa_lt, fa_le] at *; omega), rfl, rfl⟩
    · refine x_iconst (q := 13) (v := nI 1) C dX2_hasKnob_12 (by decide) rfl ?_
      refine x_goto (tgt := 17) C dX2_hasKnob_13 (by decide) ?_
      exact x_zret C dX2_hasKnob_17 rfl ⟨bI_t (by simp only [isK, isS, fa_lt, fa_le] at *; omega), rfl, rfl⟩

set_option maxRecDepth 100000 in
set_option maxHeartbeats 4000000 in
theorem c_X2_hasSetting (hD : ∀ P T, va_D A (wX ad cI cZ P T)) {P T : St} (x : Int32) : XMI l D (tyz cI cZ) (wX ad cI cZ) A yX2_hasSetting cX2_hasSetting 2 (some .boolean) rmX2_hasSetting [.ref (ad 1), .int x] P T (fun r P' T' => r = bI (isS P x) ∧ P' = P ∧ T' = T) := by
  refine x_start_i (lv := [(0, .ref (ad 1)), (1, .int x)]) (own := RX2) (by decide) rfl hD (Nat.le_of_ble_eq_true rfl) rfl ?_
  intro p e s m args below meth c C
  refine x_iload_n (q := 1) C dX2_hasSetting_0 rfl 1 rfl rfl ?_
  refine x_if_lt (q := 4) (tgt := 16) C dX2_hasSetting_1 (by decide) rfl (fun c1 => ?_) (fun c1 => ?_)
  · refine x_iconst (q := 17) (v := nI 0) C dX2_hasSetting_16 (by decide) rfl ?_
    exact x_zret C dX2_hasSetting_17 rfl ⟨bI_f (by simp only [isK, isS, fa_lt, fa_le] at *; omega), rfl, rfl⟩
  · refine x_iload_n (q := 5) C dX2_hasSetting_4 rfl 1 rfl rfl ?_
    refine x_aload_n (q := 6) C dX2_hasSetting_5 rfl 0 rfl rfl ?_
    refine xg_X2_settings (q := 9) C tfl_X2_15 dX2_hasSetting_6 rfl ?_
    refine x_icmp_ge (q := 12) (tgt := 16) C dX2_hasSetting_9 (by decide) rfl (fun c9 => ?_) (fun c9 => ?_)
    · refine x_iconst (q := 17) (v := nI 0) C dX2_hasSetting_16 (by decide) rfl ?_
      exact x_zret C dX2_hasSetting_17 rfl ⟨bI_f (by simp only [isK, isS, fa_lt, fa_le] at *; omega), rfl, rfl⟩
    · refine x_iconst (q := 13) (v := nI 1) C dX2_hasSetting_12 (by decide) rfl ?_
      refine x_goto (tgt := 17) C dX2_hasSetting_13 (by decide) ?_
      exact x_zret C dX2_hasSetting_17 rfl ⟨bI_t (by simp only [isK, isS, fa_lt, fa_le] at *; omega), rfl, rfl⟩

set_option maxRecDepth 100000 in
set_option maxHeartbeats 4000000 in
theorem c_X2_hasValue (hD : ∀ P T, va_D A (wX ad cI cZ P T)) {P T : St} (ok : okX P) (k v : Int32) : XMI l D (tyz cI cZ) (wX ad cI cZ) A yX2_hasValue cX2_hasValue 3 (some .boolean) rmX2_hasValue [.ref (ad 1), .int k, .int v] P T (fun r P' T' => r = bI (isV P k v) ∧ P' = P ∧ T' = T) := by
  have okc := ok.1
  have hk6 := okc_kn6 okc
  have hS144 := okc_S144 okc
  have hS1 := okc_S1 okc
  have hnr := okc_nr12 okc
  have hnt := okc_nt60 okc
  have hnz := okc_nz50 okc
  have hsd := okc_sdb okc
  refine x_start_i (lv := [(0, .ref (ad 1)), (1, .int k), (2, .int v)]) (own := RX2) (by decide) rfl hD (Nat.le_of_ble_eq_true rfl) rfl ?_
  intro p e s m args below meth c C
  refine x_aload_n (q := 1) C dX2_hasValue_0 rfl 0 rfl rfl ?_
  refine x_iload_n (q := 2) C dX2_hasValue_1 rfl 1 rfl rfl ?_
  refine x_Vf (q := 5) (As := [.int k]) (rest := []) C (c_X2_hasKnob hD k ) xs_X2_hasKnob tim_X2_hasKnob tsel_X2_hasKnob tml_X2_41 (by decide) 1 rfl (ci := 2) rfl rfl rfl (Nat.le_of_ble_eq_true rfl) dX2_hasValue_2 rfl ?_
  refine x_if_eq_b (q := 8) (tgt := 26) C dX2_hasValue_5 (by decide) rfl (fun c5 => ?_) (fun c5 => ?_)
  · refine x_iconst (q := 27) (v := nI 0) C dX2_hasValue_26 (by decide) rfl ?_
    exact x_zret C dX2_hasValue_27 rfl ⟨bI_f (fun h => c5 h.1), rfl, rfl⟩
  · obtain ⟨a, ha, rfl⟩ := isK_nat okc c5
    refine x_iload_n (q := 9) C dX2_hasValue_8 rfl 2 rfl rfl ?_
    refine x_if_lt (q := 12) (tgt := 26) C dX2_hasValue_9 (by decide) rfl (fun c9 => ?_) (fun c9 => ?_)
    · refine x_iconst (q := 27) (v := nI 0) C dX2_hasValue_26 (by decide) rfl ?_
      exact x_zret C dX2_hasValue_27 rfl ⟨bI_f (fun h => by obtain ⟨_, h1, h2⟩ := h; rw [nI_clamp (by omega), okc_sz okc ha] at h2; simp only [fa_lt, fa_le] at *; omega), rfl, rfl⟩
    · refine x_iload_n (q := 13) C dX2_hasValue_12 rfl 2 rfl rfl ?_
      refine x_aload_n (q := 14) C dX2_hasValue_13 rfl 0 rfl rfl ?_
      refine xg_X2_sizes (q := 17) C tfl_X2_18 dX2_hasValue_14 rfl ?_
      refine x_iload_n (q := 18) C dX2_hasValue_17 rfl 1 rfl rfl ?_
      refine xa_X8 (q := 19) C (by omega) dX2_hasValue_18 rfl ?_
      refine x_topn (sz P a) (okc_sz (P := P) okc (by omega)) ?_
      refine x_icmp_ge (q := 22) (tgt := 26) C dX2_hasValue_19 (by decide) rfl (fun c19 => ?_) (fun c19 => ?_)
      · refine x_iconst (q := 27) (v := nI 0) C dX2_hasValue_26 (by decide) rfl ?_
        exact x_zret C dX2_hasValue_27 rfl ⟨bI_f (fun h => by obtain ⟨_, h1, h2⟩ := h; rw [nI_clamp (by omega), okc_sz okc ha] at h2; simp only [fa_lt, fa_le] at *; omega), rfl, rfl⟩
      · refine x_iconst (q := 23) (v := nI 1) C dX2_hasValue_22 (by decide) rfl ?_
        refine x_goto (tgt := 27) C dX2_hasValue_23 (by decide) ?_
        exact x_zret C dX2_hasValue_27 rfl ⟨bI_t ⟨c5, by simp only [fa_lt, fa_le] at *; omega, by rw [nI_clamp (by omega), okc_sz okc ha]; simp only [fa_lt, fa_le] at *; omega⟩, rfl, rfl⟩

set_option maxRecDepth 100000 in
set_option maxHeartbeats 4000000 in
theorem c_X2_hasRoomFor (hD : ∀ P T, va_D A (wX ad cI cZ P T)) {P T : St} (v : Int32) : XMI l D (tyz cI cZ) (wX ad cI cZ) A yX2_hasRoomFor cX2_hasRoomFor 2 (some .boolean) rmX2_hasRoomFor [.ref (ad 1), .int v] P T (fun r P' T' => r = bI (P 20 0 < nI 6 ∧ P 21 0 * v ≤ nI 144) ∧ P' = P ∧ T' = T) := by
  refine x_start_i (lv := [(0, .ref (ad 1)), (1, .int v)]) (own := RX2) (by decide) rfl hD (Nat.le_of_ble_eq_true rfl) rfl ?_
  intro p e s m args below meth c C
  refine x_aload_n (q := 1) C dX2_hasRoomFor_0 rfl 0 rfl rfl ?_
  refine xg_X2_many (q := 4) C tfl_X2_9 dX2_hasRoomFor_1 rfl ?_
  refine x_bipush (q := 6) (v := nI 6) C dX2_hasRoomFor_4 (by decide) rfl ?_
  refine x_icmp_ge (q := 9) (tgt := 25) C dX2_hasRoomFor_6 (by decide) rfl (fun c6 => ?_) (fun c6 => ?_)
  · refine x_iconst (q := 26) (v := nI 0) C dX2_hasRoomFor_25 (by decide) rfl ?_
    exact x_zret C dX2_hasRoomFor_26 rfl ⟨bI_f (by simp only [isK, isS, fa_lt, fa_le] at *; omega), rfl, rfl⟩
  · refine x_aload_n (q := 10) C dX2_hasRoomFor_9 rfl 0 rfl rfl ?_
    refine xg_X2_settings (q := 13) C tfl_X2_15 dX2_hasRoomFor_10 rfl ?_
    refine x_iload_n (q := 14) C dX2_hasRoomFor_13 rfl 1 rfl rfl ?_
    refine x_imul (q := 15) C dX2_hasRoomFor_14 rfl ?_
    refine x_sipush (q := 18) (v := nI 144) C dX2_hasRoomFor_15 (by decide) rfl ?_
    refine x_icmp_gt (q := 21) (tgt := 25) C dX2_hasRoomFor_18 (by decide) rfl (fun c18 => ?_) (fun c18 => ?_)
    · refine x_iconst (q := 26) (v := nI 0) C dX2_hasRoomFor_25 (by decide) rfl ?_
      exact x_zret C dX2_hasRoomFor_26 rfl ⟨bI_f (by simp only [isK, isS, fa_lt, fa_le] at *; omega), rfl, rfl⟩
    · refine x_iconst (q := 22) (v := nI 1) C dX2_hasRoomFor_21 (by decide) rfl ?_
      refine x_goto (tgt := 26) C dX2_hasRoomFor_22 (by decide) ?_
      exact x_zret C dX2_hasRoomFor_26 rfl ⟨bI_t (by simp only [isK, isS, fa_lt, fa_le] at *; omega), rfl, rfl⟩

set_option maxRecDepth 100000 in
set_option maxHeartbeats 4000000 in
theorem c_X2_changePlace (hD : ∀ P T, va_D A (wX ad cI cZ P T)) {P T : St} (k v : Nat) (hk : k < 6) (hv : v < 4) (x : Int32) : XMI l D (tyz cI cZ) (wX ad cI cZ) A yX2_changePlace cX2_changePlace 5 (some .int) rmX2_changePlace [.ref (ad 1), .int (nI k), .int (nI v), .int x] P T (fun r P' T' => r = P 2 (k * 4 + v) ∧ P' = st1 P 2 (k * 4 + v) x ∧ T' = T) := by
  refine x_start_i (lv := [(0, .ref (ad 1)), (1, .int (nI k)), (2, .int (nI v)), (3, .int x)]) (own := RX2) (by decide) rfl hD (Nat.le_of_ble_eq_true rfl) rfl ?_
  intro p e s m args below meth c C
  refine x_aload_n (q := 1) C dX2_changePlace_0 rfl 0 rfl rfl ?_
  refine xg_X2_places (q := 4) C tfl_X2_25 dX2_changePlace_1 rfl ?_
  refine x_iload_n (q := 5) C dX2_changePlace_4 rfl 1 rfl rfl ?_
  refine x_iload_n (q := 6) C dX2_changePlace_5 rfl 2 rfl rfl ?_
  refine x_Sf (q := 9) (As := [.int (nI k), .int (nI v)]) (rest := [.ref (ad 10)]) C (c_X2_slot hD k v ) xs_X2_slot tst_X2_slot tml_X2_37 (by decide) rfl rfl (Nat.le_of_ble_eq_true rfl) dX2_changePlace_6 rfl ?_
  refine xa_X10 (q := 10) C (by omega) dX2_changePlace_9 rfl ?_
  refine x_topi (fun z1 hz1 => ?_)
  refine x_istore (q := 12) (lv' := [(0, .ref (ad 1)), (1, .int (nI k)), (2, .int (nI v)), (3, .int x), (4, .int z1)]) C dX2_changePlace_10 (by decide) rfl rfl rfl ?_
  refine x_aload_n (q := 13) C dX2_changePlace_12 rfl 0 rfl rfl ?_
  refine xg_X2_places (q := 16) C tfl_X2_25 dX2_changePlace_13 rfl ?_
  refine x_iload_n (q := 17) C dX2_changePlace_16 rfl 1 rfl rfl ?_
  refine x_iload_n (q := 18) C dX2_changePlace_17 rfl 2 rfl rfl ?_
  refine x_Sf (q := 21) (As := [.int (nI k), .int (nI v)]) (rest := [.ref (ad 10)]) C (c_X2_slot hD k v ) xs_X2_slot tst_X2_slot tml_X2_37 (by decide) rfl rfl (Nat.le_of_ble_eq_true rfl) dX2_changePlace_18 rfl ?_
  refine x_iload_n (q := 22) C dX2_changePlace_21 rfl 3 rfl rfl ?_
  refine xs_X10 (q := 23) C (by omega) dX2_changePlace_22 rfl ?_
  refine x_iload (q := 25) C dX2_changePlace_23 4 rfl rfl ?_
  exact x_iret C dX2_changePlace_25 ⟨hz1, rfl, rfl⟩

set_option maxRecDepth 100000 in
set_option maxHeartbeats 4000000 in
theorem c_X2_changeSteepness (hD : ∀ P T, va_D A (wX ad cI cZ P T)) {P T : St} (k : Nat) (hk : k < 6) (x : Int32) : XMI l D (tyz cI cZ) (wX ad cI cZ) A yX2_changeSteepness cX2_changeSteepness 4 (some .int) rmX2_changeSteepness [.ref (ad 1), .int (nI k), .int x] P T (fun r P' T' => r = P 3 k ∧ P' = st1 P 3 k x ∧ T' = T) := by
  refine x_start_i (lv := [(0, .ref (ad 1)), (1, .int (nI k)), (2, .int x)]) (own := RX2) (by decide) rfl hD (Nat.le_of_ble_eq_true rfl) rfl ?_
  intro p e s m args below meth c C
  refine x_aload_n (q := 1) C dX2_changeSteepness_0 rfl 0 rfl rfl ?_
  refine xg_X2_steepness (q := 4) C tfl_X2_28 dX2_changeSteepness_1 rfl ?_
  refine x_iload_n (q := 5) C dX2_changeSteepness_4 rfl 1 rfl rfl ?_
  refine xa_X11 (q := 6) C (by omega) dX2_changeSteepness_5 rfl ?_
  refine x_istore_n (q := 7) (lv' := [(0, .ref (ad 1)), (1, .int (nI k)), (2, .int x), (3, .int (P 3 k))]) C dX2_changeSteepness_6 rfl (by decide) rfl rfl rfl ?_
  refine x_aload_n (q := 8) C dX2_changeSteepness_7 rfl 0 rfl rfl ?_
  refine xg_X2_steepness (q := 11) C tfl_X2_28 dX2_changeSteepness_8 rfl ?_
  refine x_iload_n (q := 12) C dX2_changeSteepness_11 rfl 1 rfl rfl ?_
  refine x_iload_n (q := 13) C dX2_changeSteepness_12 rfl 2 rfl rfl ?_
  refine xs_X11 (q := 14) C (by omega) dX2_changeSteepness_13 rfl ?_
  refine x_iload_n (q := 15) C dX2_changeSteepness_14 rfl 3 rfl rfl ?_
  exact x_iret C dX2_changeSteepness_15 ⟨rfl, rfl, rfl⟩

set_option maxRecDepth 100000 in
set_option maxHeartbeats 4000000 in
theorem c_X2_valueIn (hD : ∀ P T, va_D A (wX ad cI cZ P T)) {P T : St} (ok : okX P) (x k : Nat) (hx : x < 2 ^ 31) (hk : k < kn P) : XMI l D (tyz cI cZ) (wX ad cI cZ) A yX2_valueIn cX2_valueIn 3 (some .int) rmX2_valueIn [.ref (ad 1), .int (nI x), .int (nI k)] P T (fun r P' T' => r = nI (val P x k) ∧ P' = P ∧ T' = T) := by
  have okc := ok.1
  have hk6 := okc_kn6 okc
  have hS144 := okc_S144 okc
  have hS1 := okc_S1 okc
  have hnr := okc_nr12 okc
  have hnt := okc_nt60 okc
  have hnz := okc_nz50 okc
  have hsd := okc_sdb okc
  refine x_start_i (lv := [(0, .ref (ad 1)), (1, .int (nI x)), (2, .int (nI k))]) (own := RX2) (by decide) rfl hD (Nat.le_of_ble_eq_true rfl) rfl ?_
  intro p e s m args below meth c C
  refine x_iload_n (q := 1) C dX2_valueIn_0 rfl 1 rfl rfl ?_
  refine x_aload_n (q := 2) C dX2_valueIn_1 rfl 0 rfl rfl ?_
  refine xg_X2_strides (q := 5) C tfl_X2_22 dX2_valueIn_2 rfl ?_
  refine x_iload_n (q := 6) C dX2_valueIn_5 rfl 2 rfl rfl ?_
  refine xa_X9 (q := 7) C (by omega) dX2_valueIn_6 rfl ?_
  refine x_topn (pst (sz P) k) (ok.2.1 _ (by omega)) ?_
  refine x_idiv_n (q := 8) C dX2_valueIn_7 hx (okc_p0 okc hk) (by have := okc_pS okc hk; omega) rfl ?_
  refine x_aload_n (q := 9) C dX2_valueIn_8 rfl 0 rfl rfl ?_
  refine xg_X2_sizes (q := 12) C tfl_X2_18 dX2_valueIn_9 rfl ?_
  refine x_iload_n (q := 13) C dX2_valueIn_12 rfl 2 rfl rfl ?_
  refine xa_X8 (q := 14) C (by omega) dX2_valueIn_13 rfl ?_
  refine x_topn (sz P k) (okc_sz (P := P) okc (by omega)) ?_
  refine x_irem_n (q := 15) C dX2_valueIn_14 (Nat.lt_of_le_of_lt (Nat.div_le_self _ _) hx) (by have := okc_sz2 okc hk; omega) (by have := okc_sz2 okc hk; omega) rfl ?_
  exact x_iret C dX2_valueIn_15 ⟨rfl, rfl, rfl⟩

set_option maxRecDepth 100000 in
set_option maxHeartbeats 4000000 in
theorem c_X2_moved (hD : ∀ P T, va_D A (wX ad cI cZ P T)) {P T : St} (ok : okX P) (x k v : Nat) (hx : x < 2 ^ 31) (hk : k < kn P) : XMI l D (tyz cI cZ) (wX ad cI cZ) A yX2_moved cX2_moved 4 (some .int) rmX2_moved [.ref (ad 1), .int (nI x), .int (nI k), .int (nI v)] P T (fun r P' T' => r = nI (mv P x k v) ∧ P' = P ∧ T' = T) := by
  have okc := ok.1
  have hk6 := okc_kn6 okc
  have hS144 := okc_S144 okc
  have hS1 := okc_S1 okc
  have hnr := okc_nr12 okc
  have hnt := okc_nt60 okc
  have hnz := okc_nz50 okc
  have hsd := okc_sdb okc
  refine x_start_i (lv := [(0, .ref (ad 1)), (1, .int (nI x)), (2, .int (nI k)), (3, .int (nI v))]) (own := RX2) (by decide) rfl hD (Nat.le_of_ble_eq_true rfl) rfl ?_
  intro p e s m args below meth c C
  refine x_iload_n (q := 1) C dX2_moved_0 rfl 1 rfl rfl ?_
  refine x_iload_n (q := 2) C dX2_moved_1 rfl 3 rfl rfl ?_
  refine x_aload_n (q := 3) C dX2_moved_2 rfl 0 rfl rfl ?_
  refine x_iload_n (q := 4) C dX2_moved_3 rfl 1 rfl rfl ?_
  refine x_iload_n (q := 5) C dX2_moved_4 rfl 2 rfl rfl ?_
  refine x_Vf (q := 8) (As := [.int (nI x), .int (nI k)]) (rest := [.int (nI v), .int (nI x)]) C (c_X2_valueIn hD ok x k (by omega) (by omega)) xs_X2_valueIn tim_X2_valueIn tsel_X2_valueIn tml_X2_45 (by decide) 1 rfl (ci := 2) rfl rfl rfl (Nat.le_of_ble_eq_true rfl) dX2_moved_5 rfl ?_
  refine x_isub (q := 9) C dX2_moved_8 rfl ?_
  refine x_aload_n (q := 10) C dX2_moved_9 rfl 0 rfl rfl ?_
  refine xg_X2_strides (q := 13) C tfl_X2_22 dX2_moved_10 rfl ?_
  refine x_iload_n (q := 14) C dX2_moved_13 rfl 2 rfl rfl ?_
  refine xa_X9 (q := 15) C (by omega) dX2_moved_14 rfl ?_
  refine x_topn (pst (sz P) k) (ok.2.1 _ (by omega)) ?_
  refine x_imul (q := 16) C dX2_moved_15 rfl ?_
  refine x_iadd (q := 17) C dX2_moved_16 rfl ?_
  exact x_iret C dX2_moved_17 ⟨mv_eq P x k v, rfl, rfl⟩

set_option maxRecDepth 100000 in
set_option maxHeartbeats 4000000 in
theorem c_X2_off (hD : ∀ P T, va_D A (wX ad cI cZ P T)) {P T : St} (ok : okX P) (x y : Nat) (hx : x < 2 ^ 31) (hy : y < 2 ^ 31) : XMI l D (tyz cI cZ) (wX ad cI cZ) A yX2_off cX2_off 6 (some .int) rmX2_off [.ref (ad 1), .int (nI x), .int (nI y)] P T (fun r P' T' => r = off P x y ∧ P' = P ∧ T' = T) := by
  have okc := ok.1
  have hk6 := okc_kn6 okc
  have hS144 := okc_S144 okc
  have hS1 := okc_S1 okc
  have hnr := okc_nr12 okc
  have hnt := okc_nt60 okc
  have hnz := okc_nz50 okc
  have hsd := okc_sdb okc
  refine x_start_i (lv := [(0, .ref (ad 1)), (1, .int (nI x)), (2, .int (nI y))]) (own := RX2) (by decide) rfl hD (Nat.le_of_ble_eq_true rfl) rfl ?_
  intro p e s m args below meth c C
  refine x_iconst (q := 1) (v := nI 0) C dX2_off_0 (by decide) rfl ?_
  refine x_istore_n (q := 2) (lv' := [(0, .ref (ad 1)), (1, .int (nI x)), (2, .int (nI y)), (3, .int (nI 0))]) C dX2_off_1 rfl (by decide) rfl rfl rfl ?_
  refine x_iconst (q := 3) (v := nI 0) C dX2_off_2 (by decide) rfl ?_
  refine x_istore (q := 5) (lv' := [(0, .ref (ad 1)), (1, .int (nI x)), (2, .int (nI y)), (3, .int (nI 0)), (4, .int (nI 0))]) C dX2_off_3 (by decide) rfl rfl rfl ?_
  have L5 : ∀ (f1 : Nat) (i : Nat) (a : Int32), (i ≤ kn P) → (a = sm (oft P x y) i) → kn P - i < f1 → XW p l e rmX2_off s m args below meth c D (wX ad cI cZ) A 6 (MQ below (XPI D (tyz cI cZ) (wX ad cI cZ) A (fun r P' T' => r = off P x y ∧ P' = P ∧ T' = T)) args s 0 0 A) 5 [(0, .ref (ad 1)), (1, .int (nI x)), (2, .int (nI y)), (3, .int a), (4, .int (nI i))] [] P T := by
    intro f1
    induction f1 with
    | zero => intro i a hi ha hm; exact absurd hm (Nat.not_lt_zero _)
    | succ f1 ih5 =>
      intro i a hi ha hm5
      refine x_iload (q := 7) C dX2_off_5 4 rfl rfl ?_
      refine x_aload_n (q := 8) C dX2_off_7 rfl 0 rfl rfl ?_
      refine xg_X2_many (q := 11) C tfl_X2_9 dX2_off_8 rfl ?_
      refine x_topn (kn P) (okc_kn (P := P) okc) ?_
      refine x_icmp_ge_n (q := 14) (tgt := 73) C dX2_off_11 (by omega) (by omega) (by decide) rfl (fun c11 => ?_) (fun c11 => ?_)
      · refine x_iload_n (q := 74) C dX2_off_73 rfl 3 rfl rfl ?_
        exact x_iret C dX2_off_74 ⟨by rw [ha, show i = kn P by omega]; rfl, rfl, rfl⟩
      · refine x_aload_n (q := 15) C dX2_off_14 rfl 0 rfl rfl ?_
        refine xg_X2_places (q := 18) C tfl_X2_25 dX2_off_15 rfl ?_
        refine x_iload (q := 20) C dX2_off_18 4 rfl rfl ?_
        refine x_aload_n (q := 21) C dX2_off_20 rfl 0 rfl rfl ?_
        refine x_iload_n (q := 22) C dX2_off_21 rfl 1 rfl rfl ?_
        refine x_iload (q := 24) C dX2_off_22 4 rfl rfl ?_
        refine x_Vf (q := 27) (As := [.int (nI x), .int (nI i)]) (rest := [.int (nI i), .ref (ad 10)]) C (c_X2_valueIn hD ok x i (by omega) (by omega)) xs_X2_valueIn tim_X2_valueIn tsel_X2_valueIn tml_X2_45 (by decide) 1 rfl (ci := 2) rfl rfl rfl (Nat.le_of_ble_eq_true rfl) dX2_off_24 rfl ?_
        refine x_Sf (q := 30) (As := [.int (nI i), .int (nI (val P x i))]) (rest := [.ref (ad 10)]) C (c_X2_slot hD i (val P x i) ) xs_X2_slot tst_X2_slot tml_X2_37 (by decide) rfl rfl (Nat.le_of_ble_eq_true rfl) dX2_off_27 rfl ?_
        refine xa_X10 (q := 31) C (slv_lt okc x (by omega)) dX2_off_30 rfl ?_
        refine x_aload_n (q := 32) C dX2_off_31 rfl 0 rfl rfl ?_
        refine xg_X2_places (q := 35) C tfl_X2_25 dX2_off_32 rfl ?_
        refine x_iload (q := 37) C dX2_off_35 4 rfl rfl ?_
        refine x_aload_n (q := 38) C dX2_off_37 rfl 0 rfl rfl ?_
        refine x_iload_n (q := 39) C dX2_off_38 rfl 2 rfl rfl ?_
        refine x_iload (q := 41) C dX2_off_39 4 rfl rfl ?_
        refine x_Vf (q := 44) (As := [.int (nI y), .int (nI i)]) (rest := [.int (nI i), .ref (ad 10), .int (P 2 (i * 4 + (val P x i)))]) C (c_X2_valueIn hD ok y i (by omega) (by omega)) xs_X2_valueIn tim_X2_valueIn tsel_X2_valueIn tml_X2_45 (by decide) 1 rfl (ci := 2) rfl rfl rfl (Nat.le_of_ble_eq_true rfl) dX2_off_41 rfl ?_
        refine x_Sf (q := 47) (As := [.int (nI i), .int (nI (val P y i))]) (rest := [.ref (ad 10), .int (P 2 (i * 4 + (val P x i)))]) C (c_X2_slot hD i (val P y i) ) xs_X2_slot tst_X2_slot tml_X2_37 (by decide) rfl rfl (Nat.le_of_ble_eq_true rfl) dX2_off_44 rfl ?_
        refine xa_X10 (q := 48) C (slv_lt okc y (by omega)) dX2_off_47 rfl ?_
        refine x_isub (q := 49) C dX2_off_48 rfl ?_
        refine x_topi (fun z2 hz2 => ?_)
        refine x_istore (q := 51) (lv' := [(0, .ref (ad 1)), (1, .int (nI x)), (2, .int (nI y)), (3, .int a), (4, .int (nI i)), (5, .int z2)]) C dX2_off_49 (by decide) rfl rfl rfl ?_
        refine x_iload_n (q := 52) C dX2_off_51 rfl 3 rfl rfl ?_
        refine x_iload (q := 54) C dX2_off_52 5 rfl rfl ?_
        refine x_mabs (q := 57) C tml_X2_48 tst_Mabs tini_Math tco_Mabs (by decide) (Nat.le_of_ble_eq_true rfl) dX2_off_54 rfl ?_
        refine x_aload_n (q := 58) C dX2_off_57 rfl 0 rfl rfl ?_
        refine xg_X2_steepness (q := 61) C tfl_X2_28 dX2_off_58 rfl ?_
        refine x_iload (q := 63) C dX2_off_61 4 rfl rfl ?_
        refine xa_X11 (q := 64) C (by omega) dX2_off_63 rfl ?_
        refine x_imul (q := 65) C dX2_off_64 rfl ?_
        refine x_iadd (q := 66) C dX2_off_65 rfl ?_
        refine x_topi (fun z3 hz3 => ?_)
        refine x_istore_n (q := 67) (lv' := [(0, .ref (ad 1)), (1, .int (nI x)), (2, .int (nI y)), (3, .int z3), (4, .int (nI i)), (5, .int z2)]) C dX2_off_66 rfl (by decide) rfl rfl rfl ?_
        refine x_iinc (q := 70) (v := nI (i + 1)) (lv' := [(0, .ref (ad 1)), (1, .int (nI x)), (2, .int (nI y)), (3, .int z3), (4, .int (nI (i + 1))), (5, .int z2)]) C dX2_off_67 4 rfl (nI_add i 1) (by decide) rfl rfl rfl ?_
        refine x_goto (tgt := 5) C dX2_off_70 (by decide) ?_
        refine x_lv [0, 1, 2, 3, 4] rfl ?_
        exact ih5 (i + 1) z3 (by omega) (by rw [hz3, hz2, ha]; rfl) (by omega)
  exact L5 _ 0 0 (Nat.zero_le _) rfl (Nat.lt_succ_self _)

set_option maxRecDepth 100000 in
set_option maxHeartbeats 4000000 in
theorem c_X2_add (hD : ∀ P T, va_D A (wX ad cI cZ P T)) {P T : St} (ok : okX P) (v : Nat) (hv : v ≤ 4) (hk : kn P < 6) : XMI l D (tyz cI cZ) (wX ad cI cZ) A yX2_add cX2_add 4 (some .int) rmX2_add [.ref (ad 1), .int (nI v)] P T (fun r P' T' => r = nI (kn P) ∧ addR P v P' ∧ T' = T) := by
  have okc := ok.1
  have hk6 := okc_kn6 okc
  have hS144 := okc_S144 okc
  have hS1 := okc_S1 okc
  have hnr := okc_nr12 okc
  have hnt := okc_nt60 okc
  have hnz := okc_nz50 okc
  have hsd := okc_sdb okc
  refine x_start_i (lv := [(0, .ref (ad 1)), (1, .int (nI v))]) (own := RX2) (by decide) rfl hD (Nat.le_of_ble_eq_true rfl) rfl ?_
  intro p e s m args below meth c C
  refine x_aload_n (q := 1) C dX2_add_0 rfl 0 rfl rfl ?_
  refine xg_X2_many (q := 4) C tfl_X2_9 dX2_add_1 rfl ?_
  refine x_topn (kn P) (okc_kn (P := P) okc) ?_
  refine x_istore_n (q := 5) (lv' := [(0, .ref (ad 1)), (1, .int (nI v)), (2, .int (nI (kn P)))]) C dX2_add_4 rfl (by decide) rfl rfl rfl ?_
  refine x_aload_n (q := 6) C dX2_add_5 rfl 0 rfl rfl ?_
  refine xg_X2_sizes (q := 9) C tfl_X2_18 dX2_add_6 rfl ?_
  refine x_iload_n (q := 10) C dX2_add_9 rfl 2 rfl rfl ?_
  refine x_iload_n (q := 11) C dX2_add_10 rfl 1 rfl rfl ?_
  refine xs_X8 (q := 12) C (by omega) dX2_add_11 rfl ?_
  refine x_aload_n (q := 13) C dX2_add_12 rfl 0 rfl rfl ?_
  refine xg_X2_strides (q := 16) C tfl_X2_22 dX2_add_13 rfl ?_
  refine x_iload_n (q := 17) C dX2_add_16 rfl 2 rfl rfl ?_
  refine x_aload_n (q := 18) C dX2_add_17 rfl 0 rfl rfl ?_
  refine xg_X2_settings (q := 21) C tfl_X2_15 dX2_add_18 rfl ?_
  refine x_topn (nS P) (okc_S (P := P) okc) ?_
  refine xs_X9 (q := 22) C (by omega) dX2_add_21 rfl ?_
  refine x_iconst (q := 23) (v := nI 0) C dX2_add_22 (by decide) rfl ?_
  refine x_istore_n (q := 24) (lv' := [(0, .ref (ad 1)), (1, .int (nI v)), (2, .int (nI (kn P))), (3, .int (nI 0))]) C dX2_add_23 rfl (by decide) rfl rfl rfl ?_
  have L24 : ∀ (f1 : Nat) (j : Nat) (Pq : St), (j ≤ v) → (∀ a, a ≠ 2 → Pq a = (st1 (st1 P 0 (kn P) (nI v)) 1 (kn P) (nI (nS P))) a) → (∀ i, Pq 2 i = if kn P * 4 ≤ i ∧ i < kn P * 4 + j then nI (i - kn P * 4) else P 2 i) → v - j < f1 → XW p l e rmX2_add s m args below meth c D (wX ad cI cZ) A 4 (MQ below (XPI D (tyz cI cZ) (wX ad cI cZ) A (fun r P' T' => r = nI (kn P) ∧ addR P v P' ∧ T' = T)) args s 0 0 A) 24 [(0, .ref (ad 1)), (1, .int (nI v)), (2, .int (nI (kn P))), (3, .int (nI j))] [] Pq T := by
    intro f1
    induction f1 with
    | zero => intro j Pq hj hq hq2 hm; exact absurd hm (Nat.not_lt_zero _)
    | succ f1 ih24 =>
      intro j Pq hj hq hq2 hm24
      refine x_iload_n (q := 25) C dX2_add_24 rfl 3 rfl rfl ?_
      refine x_iload_n (q := 26) C dX2_add_25 rfl 1 rfl rfl ?_
      refine x_icmp_ge_n (q := 29) (tgt := 46) C dX2_add_26 (by omega) (by omega) (by decide) rfl (fun c26 => ?_) (fun c26 => ?_)
      · refine x_aload_n (q := 47) C dX2_add_46 rfl 0 rfl rfl ?_
        refine x_dup (q := 48) C dX2_add_47 rfl rfl ?_
        refine xg_X2_settings (q := 51) C tfl_X2_15 dX2_add_48 rfl ?_
        refine x_topn (nS P) (by rw [hq 21 (by decide)]; exact okc_S (P := P) okc) ?_
        refine x_iload_n (q := 52) C dX2_add_51 rfl 1 rfl rfl ?_
        refine x_imul_n (q := 53) C dX2_add_52 rfl ?_
        refine xp_X2_settings (q := 56) C tfl_X2_15 dX2_add_53 rfl ?_
        refine x_aload_n (q := 57) C dX2_add_56 rfl 0 rfl rfl ?_
        refine x_dup (q := 58) C dX2_add_57 rfl rfl ?_
        refine xg_X2_many (q := 61) C tfl_X2_9 dX2_add_58 rfl ?_
        refine x_topn (kn P) (by rw [st1_ne (by decide), hq 20 (by decide)]; exact okc_kn (P := P) okc) ?_
        refine x_iconst (q := 62) (v := nI 1) C dX2_add_61 (by decide) rfl ?_
        refine x_iadd_n (q := 63) C dX2_add_62 rfl ?_
        refine xp_X2_many (q := 66) C tfl_X2_9 dX2_add_63 rfl ?_
        refine x_iload_n (q := 67) C dX2_add_66 rfl 2 rfl rfl ?_
        exact x_iret C dX2_add_67 ⟨rfl, ⟨by rw [st1_eq, st1_ne (by decide), hq 20 (by decide)]; rfl, by rw [st1_ne (by decide), st1_eq, hq 21 (by decide)]; rfl, by rw [st1_ne (by decide), st1_ne (by decide), hq 0 (by decide)]; rfl, by rw [st1_ne (by decide), st1_ne (by decide), hq 1 (by decide)]; rfl, fun i => by rw [st1_ne (by decide), st1_ne (by decide), hq2, show j = v by omega], fun j h0 h1 h2 h3 h4 => by rw [st1_ne h3, st1_ne h4, hq j h2, st1_ne h1, st1_ne h0]⟩, rfl⟩
      · refine x_aload_n (q := 30) C dX2_add_29 rfl 0 rfl rfl ?_
        refine xg_X2_places (q := 33) C tfl_X2_25 dX2_add_30 rfl ?_
        refine x_iload_n (q := 34) C dX2_add_33 rfl 2 rfl rfl ?_
        refine x_iload_n (q := 35) C dX2_add_34 rfl 3 rfl rfl ?_
        refine x_Sf (q := 38) (As := [.int (nI (kn P)), .int (nI j)]) (rest := [.ref (ad 10)]) C (c_X2_slot hD (kn P) j ) xs_X2_slot tst_X2_slot tml_X2_37 (by decide) rfl rfl (Nat.le_of_ble_eq_true rfl) dX2_add_35 rfl ?_
        refine x_iload_n (q := 39) C dX2_add_38 rfl 3 rfl rfl ?_
        refine xs_X10 (q := 40) C (by omega) dX2_add_39 rfl ?_
        refine x_iinc (q := 43) (v := nI (j + 1)) (lv' := [(0, .ref (ad 1)), (1, .int (nI v)), (2, .int (nI (kn P))), (3, .int (nI (j + 1)))]) C dX2_add_40 3 rfl (nI_add j 1) (by decide) rfl rfl rfl ?_
        refine x_goto (tgt := 24) C dX2_add_43 (by decide) ?_
        exact ih24 (j + 1) _ (by omega) (fun a h => by rw [st1_ne h]; exact hq a h) (fun i => by rw [st1_eq]; by_cases h : i = kn P * 4 + j <;> simp only [upd, h, if_true, if_false, hq2] <;> (first | (rw [if_pos (by omega)]; congr 1; omega) | (split <;> (first | (rw [if_pos (by omega)]; done) | (rw [if_neg (by omega)]; done))))) (by omega)
  exact L24 _ 0 _ (Nat.zero_le _) (fun _ _ => rfl) (fun i => by rw [if_neg (by omega)]; rfl) (Nat.lt_succ_self _)

end KNOBS
