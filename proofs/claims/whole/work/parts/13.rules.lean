section RULES
variable {l : Launch} {D : va_G} {ad : Nat → Nat} {cI cZ : ClassId} {A : Nat → Prop}

set_option maxRecDepth 100000 in
set_option maxHeartbeats 4000000 in
theorem c_X5_add (hD : ∀ P T, va_D A (wX ad cI cZ P T)) {P T : St} (ok : okX P) (nb a v b x : Int32) (hnb : vp_nar .boolean nb = nb) (hn : nr P < 12) : XMV l D (tyz cI cZ) (wX ad cI cZ) A yX5_add cX5_add 6 none rmX5_add [.ref (ad 2), .int nb, .int a, .int v, .int b, .int x] P T (fun P' T' => P' = st1 (st1 (st1 (st1 (st1 (st1 P 4 (nr P) nb) 5 (nr P) a) 6 (nr P) v) 7 (nr P) b) 8 (nr P) x) 22 0 (nI (nr P + 1)) ∧ T' = T) := by
  have okc := ok.1
  have hk6 := okc_kn6 okc
  have hS144 := okc_S144 okc
  have hS1 := okc_S1 okc
  have hnr := okc_nr12 okc
  have hnt := okc_nt60 okc
  have hnz := okc_nz50 okc
  have hsd := okc_sdb okc
  refine x_start_v (lv := [(0, .ref (ad 2)), (1, .int nb), (2, .int a), (3, .int v), (4, .int b), (5, .int x)]) (own := RX5) (by decide) rfl hD (Nat.le_of_ble_eq_true rfl) rfl ?_
  intro p e s m args below meth c C
  refine x_aload_n (q := 1) C dX5_add_0 rfl 0 rfl rfl ?_
  refine xg_X5_needs (q := 4) C tfl_X5_15 dX5_add_1 rfl ?_
  refine x_aload_n (q := 5) C dX5_add_4 rfl 0 rfl rfl ?_
  refine xg_X5_many (q := 8) C tfl_X5_9 dX5_add_5 rfl ?_
  refine x_topn (nr P) (okc_nr (P := P) okc) ?_
  refine x_iload_n (q := 9) C dX5_add_8 rfl 1 rfl rfl ?_
  refine xs_X12 (q := 10) C (by omega) hnb dX5_add_9 rfl ?_
  refine x_aload_n (q := 11) C dX5_add_10 rfl 0 rfl rfl ?_
  refine xg_X5_firstKnobs (q := 14) C tfl_X5_19 dX5_add_11 rfl ?_
  refine x_aload_n (q := 15) C dX5_add_14 rfl 0 rfl rfl ?_
  refine xg_X5_many (q := 18) C tfl_X5_9 dX5_add_15 rfl ?_
  refine x_topn (nr P) (okc_nr (P := P) okc) ?_
  refine x_iload_n (q := 19) C dX5_add_18 rfl 2 rfl rfl ?_
  refine xs_X13 (q := 20) C (by omega) dX5_add_19 rfl ?_
  refine x_aload_n (q := 21) C dX5_add_20 rfl 0 rfl rfl ?_
  refine xg_X5_firstValues (q := 24) C tfl_X5_23 dX5_add_21 rfl ?_
  refine x_aload_n (q := 25) C dX5_add_24 rfl 0 rfl rfl ?_
  refine xg_X5_many (q := 28) C tfl_X5_9 dX5_add_25 rfl ?_
  refine x_topn (nr P) (okc_nr (P := P) okc) ?_
  refine x_iload_n (q := 29) C dX5_add_28 rfl 3 rfl rfl ?_
  refine xs_X14 (q := 30) C (by omega) dX5_add_29 rfl ?_
  refine x_aload_n (q := 31) C dX5_add_30 rfl 0 rfl rfl ?_
  refine xg_X5_secondKnobs (q := 34) C tfl_X5_26 dX5_add_31 rfl ?_
  refine x_aload_n (q := 35) C dX5_add_34 rfl 0 rfl rfl ?_
  refine xg_X5_many (q := 38) C tfl_X5_9 dX5_add_35 rfl ?_
  refine x_topn (nr P) (okc_nr (P := P) okc) ?_
  refine x_iload (q := 40) C dX5_add_38 4 rfl rfl ?_
  refine xs_X15 (q := 41) C (by omega) dX5_add_40 rfl ?_
  refine x_aload_n (q := 42) C dX5_add_41 rfl 0 rfl rfl ?_
  refine xg_X5_secondValues (q := 45) C tfl_X5_29 dX5_add_42 rfl ?_
  refine x_aload_n (q := 46) C dX5_add_45 rfl 0 rfl rfl ?_
  refine xg_X5_many (q := 49) C tfl_X5_9 dX5_add_46 rfl ?_
  refine x_topn (nr P) (okc_nr (P := P) okc) ?_
  refine x_iload (q := 51) C dX5_add_49 5 rfl rfl ?_
  refine xs_X16 (q := 52) C (by omega) dX5_add_51 rfl ?_
  refine x_aload_n (q := 53) C dX5_add_52 rfl 0 rfl rfl ?_
  refine x_dup (q := 54) C dX5_add_53 rfl rfl ?_
  refine xg_X5_many (q := 57) C tfl_X5_9 dX5_add_54 rfl ?_
  refine x_topn (nr P) (okc_nr (P := P) okc) ?_
  refine x_iconst (q := 58) (v := nI 1) C dX5_add_57 (by decide) rfl ?_
  refine x_iadd_n (q := 59) C dX5_add_58 rfl ?_
  refine xp_X5_many (q := 62) C tfl_X5_9 dX5_add_59 rfl ?_
  exact x_vret C dX5_add_62 ⟨rfl, rfl⟩

set_option maxRecDepth 100000 in
set_option maxHeartbeats 4000000 in
theorem c_X5_dropLatest (hD : ∀ P T, va_D A (wX ad cI cZ P T)) {P T : St} (ok : okX P) (hn : 0 < nr P) : XMV l D (tyz cI cZ) (wX ad cI cZ) A yX5_dropLatest cX5_dropLatest 1 none rmX5_dropLatest [.ref (ad 2)] P T (fun P' T' => P' = st1 P 22 0 (nI (nr P - 1)) ∧ T' = T) := by
  have okc := ok.1
  have hk6 := okc_kn6 okc
  have hS144 := okc_S144 okc
  have hS1 := okc_S1 okc
  have hnr := okc_nr12 okc
  have hnt := okc_nt60 okc
  have hnz := okc_nz50 okc
  have hsd := okc_sdb okc
  refine x_start_v (lv := [(0, .ref (ad 2))]) (own := RX5) (by decide) rfl hD (Nat.le_of_ble_eq_true rfl) rfl ?_
  intro p e s m args below meth c C
  refine x_aload_n (q := 1) C dX5_dropLatest_0 rfl 0 rfl rfl ?_
  refine x_dup (q := 2) C dX5_dropLatest_1 rfl rfl ?_
  refine xg_X5_many (q := 5) C tfl_X5_9 dX5_dropLatest_2 rfl ?_
  refine x_topn (nr P) (okc_nr (P := P) okc) ?_
  refine x_iconst (q := 6) (v := nI 1) C dX5_dropLatest_5 (by decide) rfl ?_
  refine x_isub_n (q := 7) C dX5_dropLatest_6 (by omega) rfl ?_
  refine xp_X5_many (q := 10) C tfl_X5_9 dX5_dropLatest_7 rfl ?_
  exact x_vret C dX5_dropLatest_10 ⟨rfl, rfl⟩

set_option maxRecDepth 100000 in
set_option maxHeartbeats 4000000 in
theorem c_X5_isAgainst (hD : ∀ P T, va_D A (wX ad cI cZ P T)) {P T : St} (ok : okX P) (i x : Nat) (hi : i < nr P) (hx : x < 2 ^ 31) : XMI l D (tyz cI cZ) (wX ad cI cZ) A yX5_isAgainst cX5_isAgainst 5 (some .boolean) rmX5_isAgainst [.ref (ad 2), .int (nI i), .int (nI x), .ref (ad 1)] P T (fun r P' T' => r = bI (agX P x i) ∧ P' = P ∧ T' = T) := by
  have okc := ok.1
  have hk6 := okc_kn6 okc
  have hS144 := okc_S144 okc
  have hS1 := okc_S1 okc
  have hnr := okc_nr12 okc
  have hnt := okc_nt60 okc
  have hnz := okc_nz50 okc
  have hsd := okc_sdb okc
  have h51 := (ok.2.2.1 i hi).1.2
  have h72 := (ok.2.2.1 i hi).2.2
  refine x_start_i (lv := [(0, .ref (ad 2)), (1, .int (nI i)), (2, .int (nI x)), (3, .ref (ad 1))]) (own := RX5) (by decide) rfl hD (Nat.le_of_ble_eq_true rfl) rfl ?_
  intro p e s m args below meth c C
  refine x_aload_n (q := 1) C dX5_isAgainst_0 rfl 3 rfl rfl ?_
  refine x_iload_n (q := 2) C dX5_isAgainst_1 rfl 2 rfl rfl ?_
  refine x_aload_n (q := 3) C dX5_isAgainst_2 rfl 0 rfl rfl ?_
  refine xg_X5_firstKnobs (q := 6) C tfl_X5_19 dX5_isAgainst_3 rfl ?_
  refine x_iload_n (q := 7) C dX5_isAgainst_6 rfl 1 rfl rfl ?_
  refine xa_X13 (q := 8) C (by omega) dX5_isAgainst_7 rfl ?_
  refine x_topn (rk1 P i) (ok.2.2.1 _ (by omega)).1.1 ?_
  refine x_Vf (q := 11) (As := [.int (nI x), .int (nI (rk1 P i))]) (rest := []) C (c_X2_valueIn hD ok x (rk1 P i) (by omega) (by omega)) xs_X2_valueIn tim_X2_valueIn tsel_X2_valueIn tml_X5_36 (by decide) 1 rfl (ci := 2) rfl rfl rfl (Nat.le_of_ble_eq_true rfl) dX5_isAgainst_8 rfl ?_
  refine x_aload_n (q := 12) C dX5_isAgainst_11 rfl 0 rfl rfl ?_
  refine xg_X5_firstValues (q := 15) C tfl_X5_23 dX5_isAgainst_12 rfl ?_
  refine x_iload_n (q := 16) C dX5_isAgainst_15 rfl 1 rfl rfl ?_
  refine xa_X14 (q := 17) C (by omega) dX5_isAgainst_16 rfl ?_
  refine x_icmp_eq (q := 20) (tgt := 22) C dX5_isAgainst_17 (by decide) rfl (fun c17 => ?_) (fun c17 => ?_)
  · refine x_aload_n (q := 23) C dX5_isAgainst_22 rfl 3 rfl rfl ?_
    refine x_iload_n (q := 24) C dX5_isAgainst_23 rfl 2 rfl rfl ?_
    refine x_aload_n (q := 25) C dX5_isAgainst_24 rfl 0 rfl rfl ?_
    refine xg_X5_secondKnobs (q := 28) C tfl_X5_26 dX5_isAgainst_25 rfl ?_
    refine x_iload_n (q := 29) C dX5_isAgainst_28 rfl 1 rfl rfl ?_
    refine xa_X15 (q := 30) C (by omega) dX5_isAgainst_29 rfl ?_
    refine x_topn (rk2 P i) (ok.2.2.1 _ (by omega)).2.1 ?_
    refine x_Vf (q := 33) (As := [.int (nI x), .int (nI (rk2 P i))]) (rest := []) C (c_X2_valueIn hD ok x (rk2 P i) (by omega) (by omega)) xs_X2_valueIn tim_X2_valueIn tsel_X2_valueIn tml_X5_36 (by decide) 1 rfl (ci := 2) rfl rfl rfl (Nat.le_of_ble_eq_true rfl) dX5_isAgainst_30 rfl ?_
    refine x_aload_n (q := 34) C dX5_isAgainst_33 rfl 0 rfl rfl ?_
    refine xg_X5_secondValues (q := 37) C tfl_X5_29 dX5_isAgainst_34 rfl ?_
    refine x_iload_n (q := 38) C dX5_isAgainst_37 rfl 1 rfl rfl ?_
    refine xa_X16 (q := 39) C (by omega) dX5_isAgainst_38 rfl ?_
    refine x_icmp_ne (q := 42) (tgt := 46) C dX5_isAgainst_39 (by decide) rfl (fun c39 => ?_) (fun c39 => ?_)
    · refine x_iconst (q := 47) (v := nI 0) C dX5_isAgainst_46 (by decide) rfl ?_
      refine x_istore (q := 49) (lv' := [(0, .ref (ad 2)), (1, .int (nI i)), (2, .int (nI x)), (3, .ref (ad 1)), (4, .int (nI 0))]) C dX5_isAgainst_47 (by decide) rfl rfl rfl ?_
      refine x_iload (q := 51) C dX5_isAgainst_49 4 rfl rfl ?_
      refine x_aload_n (q := 52) C dX5_isAgainst_51 rfl 0 rfl rfl ?_
      refine xg_X5_needs (q := 55) C tfl_X5_15 dX5_isAgainst_52 rfl ?_
      refine x_iload_n (q := 56) C dX5_isAgainst_55 rfl 1 rfl rfl ?_
      refine xa_X12 (q := 57) C (by omega) dX5_isAgainst_56 rfl ?_
      refine x_icmp_eq (q := 60) (tgt := 64) C dX5_isAgainst_57 (by decide) rfl (fun c57 => ?_) (fun c57 => ?_)
      · refine x_iconst (q := 65) (v := nI 0) C dX5_isAgainst_64 (by decide) rfl ?_
        exact x_zret C dX5_isAgainst_65 rfl ⟨bI_f (fun h => h.2 (by rw [← bI_f c39]; exact c57)), rfl, rfl⟩
      · refine x_iconst (q := 61) (v := nI 1) C dX5_isAgainst_60 (by decide) rfl ?_
        refine x_goto (tgt := 65) C dX5_isAgainst_61 (by decide) ?_
        exact x_zret C dX5_isAgainst_65 rfl ⟨bI_t ⟨c17, by rw [← bI_f c39]; exact c57⟩, rfl, rfl⟩
    · refine x_iconst (q := 43) (v := nI 1) C dX5_isAgainst_42 (by decide) rfl ?_
      refine x_goto (tgt := 47) C dX5_isAgainst_43 (by decide) ?_
      refine x_istore (q := 49) (lv' := [(0, .ref (ad 2)), (1, .int (nI i)), (2, .int (nI x)), (3, .ref (ad 1)), (4, .int (nI 1))]) C dX5_isAgainst_47 (by decide) rfl rfl rfl ?_
      refine x_iload (q := 51) C dX5_isAgainst_49 4 rfl rfl ?_
      refine x_aload_n (q := 52) C dX5_isAgainst_51 rfl 0 rfl rfl ?_
      refine xg_X5_needs (q := 55) C tfl_X5_15 dX5_isAgainst_52 rfl ?_
      refine x_iload_n (q := 56) C dX5_isAgainst_55 rfl 1 rfl rfl ?_
      refine xa_X12 (q := 57) C (by omega) dX5_isAgainst_56 rfl ?_
      refine x_icmp_eq (q := 60) (tgt := 64) C dX5_isAgainst_57 (by decide) rfl (fun c57 => ?_) (fun c57 => ?_)
      · refine x_iconst (q := 65) (v := nI 0) C dX5_isAgainst_64 (by decide) rfl ?_
        exact x_zret C dX5_isAgainst_65 rfl ⟨bI_f (fun h => h.2 (by rw [← bI_t c39]; exact c57)), rfl, rfl⟩
      · refine x_iconst (q := 61) (v := nI 1) C dX5_isAgainst_60 (by decide) rfl ?_
        refine x_goto (tgt := 65) C dX5_isAgainst_61 (by decide) ?_
        exact x_zret C dX5_isAgainst_65 rfl ⟨bI_t ⟨c17, by rw [← bI_t c39]; exact c57⟩, rfl, rfl⟩
  · refine x_iconst (q := 21) (v := nI 0) C dX5_isAgainst_20 (by decide) rfl ?_
    exact x_zret C dX5_isAgainst_21 rfl ⟨bI_f (fun h => c17 h.1), rfl, rfl⟩

set_option maxRecDepth 100000 in
set_option maxHeartbeats 4000000 in
theorem c_X5_allow (hD : ∀ P T, va_D A (wX ad cI cZ P T)) {P T : St} (ok : okX P) (x : Nat) (hx : x < 2 ^ 31) : XMI l D (tyz cI cZ) (wX ad cI cZ) A yX5_allow cX5_allow 4 (some .boolean) rmX5_allow [.ref (ad 2), .int (nI x), .ref (ad 1)] P T (fun r P' T' => r = bI (alX P x) ∧ P' = P ∧ T' = T) := by
  have okc := ok.1
  have hk6 := okc_kn6 okc
  have hS144 := okc_S144 okc
  have hS1 := okc_S1 okc
  have hnr := okc_nr12 okc
  have hnt := okc_nt60 okc
  have hnz := okc_nz50 okc
  have hsd := okc_sdb okc
  refine x_start_i (lv := [(0, .ref (ad 2)), (1, .int (nI x)), (2, .ref (ad 1))]) (own := RX5) (by decide) rfl hD (Nat.le_of_ble_eq_true rfl) rfl ?_
  intro p e s m args below meth c C
  refine x_iconst (q := 1) (v := nI 0) C dX5_allow_0 (by decide) rfl ?_
  refine x_istore_n (q := 2) (lv' := [(0, .ref (ad 2)), (1, .int (nI x)), (2, .ref (ad 1)), (3, .int (nI 0))]) C dX5_allow_1 rfl (by decide) rfl rfl rfl ?_
  have L2 : ∀ (f1 : Nat) (i : Nat), (i ≤ nr P) → (∀ j, j < i → ¬ agX P x j) → nr P - i < f1 → XW p l e rmX5_allow s m args below meth c D (wX ad cI cZ) A 4 (MQ below (XPI D (tyz cI cZ) (wX ad cI cZ) A (fun r P' T' => r = bI (alX P x) ∧ P' = P ∧ T' = T)) args s 0 0 A) 2 [(0, .ref (ad 2)), (1, .int (nI x)), (2, .ref (ad 1)), (3, .int (nI i))] [] P T := by
    intro f1
    induction f1 with
    | zero => intro i hi hq hm; exact absurd hm (Nat.not_lt_zero _)
    | succ f1 ih2 =>
      intro i hi hq hm2
      refine x_iload_n (q := 3) C dX5_allow_2 rfl 3 rfl rfl ?_
      refine x_aload_n (q := 4) C dX5_allow_3 rfl 0 rfl rfl ?_
      refine xg_X5_many (q := 7) C tfl_X5_9 dX5_allow_4 rfl ?_
      refine x_topn (nr P) (okc_nr (P := P) okc) ?_
      refine x_icmp_ge_n (q := 10) (tgt := 28) C dX5_allow_7 (by omega) (by omega) (by decide) rfl (fun c7 => ?_) (fun c7 => ?_)
      · refine x_iconst (q := 29) (v := nI 1) C dX5_allow_28 (by decide) rfl ?_
        exact x_zret C dX5_allow_29 rfl ⟨bI_t (fun j hj => hq j (by omega)), rfl, rfl⟩
      · refine x_aload_n (q := 11) C dX5_allow_10 rfl 0 rfl rfl ?_
        refine x_iload_n (q := 12) C dX5_allow_11 rfl 3 rfl rfl ?_
        refine x_iload_n (q := 13) C dX5_allow_12 rfl 1 rfl rfl ?_
        refine x_aload_n (q := 14) C dX5_allow_13 rfl 2 rfl rfl ?_
        refine x_Vf (q := 17) (As := [.int (nI i), .int (nI x), .ref (ad 1)]) (rest := []) C (c_X5_isAgainst hD ok i x (by omega) (by omega)) xs_X5_isAgainst tim_X5_isAgainst tsel_X5_isAgainst tml_X5_32 (by decide) 2 rfl (ci := 5) rfl rfl rfl (Nat.le_of_ble_eq_true rfl) dX5_allow_14 rfl ?_
        refine x_if_eq_b (q := 20) (tgt := 22) C dX5_allow_17 (by decide) rfl (fun c17 => ?_) (fun c17 => ?_)
        · refine x_iinc (q := 25) (v := nI (i + 1)) (lv' := [(0, .ref (ad 2)), (1, .int (nI x)), (2, .ref (ad 1)), (3, .int (nI (i + 1)))]) C dX5_allow_22 3 rfl (nI_add i 1) (by decide) rfl rfl rfl ?_
          refine x_goto (tgt := 2) C dX5_allow_25 (by decide) ?_
          exact ih2 (i + 1) (by omega) (lt_s hq c17) (by omega)
        · refine x_iconst (q := 21) (v := nI 0) C dX5_allow_20 (by decide) rfl ?_
          exact x_zret C dX5_allow_21 rfl ⟨bI_f (fun h => h i (by omega) c17), rfl, rfl⟩
  exact L2 _ 0 (Nat.zero_le _) (fun j hj => absurd hj (Nat.not_lt_zero j)) (Nat.lt_succ_self _)

set_option maxRecDepth 100000 in
set_option maxHeartbeats 4000000 in
theorem c_X1_changeSingle (hD : ∀ P T, va_D A (wX ad cI cZ P T)) {P T : St} (k v : Nat) (hk : k < 6) (hv : v < 4) (x : Int32) : XMI l D (tyz cI cZ) (wX ad cI cZ) A yX1_changeSingle cX1_changeSingle 6 (some .int) rmX1_changeSingle [.ref (ad 3), .int (nI k), .int (nI v), .int x] P T (fun r P' T' => r = P 9 (k * 4 + v) ∧ P' = st1 P 9 (k * 4 + v) x ∧ T' = T) := by
  refine x_start_i (lv := [(0, .ref (ad 3)), (1, .int (nI k)), (2, .int (nI v)), (3, .int x)]) (own := RX1) (by decide) rfl hD (Nat.le_of_ble_eq_true rfl) rfl ?_
  intro p e s m args below meth c C
  refine x_iload_n (q := 1) C dX1_changeSingle_0 rfl 1 rfl rfl ?_
  refine x_iload_n (q := 2) C dX1_changeSingle_1 rfl 2 rfl rfl ?_
  refine x_Sf (q := 5) (As := [.int (nI k), .int (nI v)]) (rest := []) C (c_X2_slot hD k v ) xs_X2_slot tst_X2_slot tml_X1_25 (by decide) rfl rfl (Nat.le_of_ble_eq_true rfl) dX1_changeSingle_2 rfl ?_
  refine x_namen (fun n1 hn1 => ?_)
  refine x_istore (q := 7) (lv' := [(0, .ref (ad 3)), (1, .int (nI k)), (2, .int (nI v)), (3, .int x), (4, .int (nI n1))]) C dX1_changeSingle_5 (by decide) rfl rfl rfl ?_
  refine x_aload_n (q := 8) C dX1_changeSingle_7 rfl 0 rfl rfl ?_
  refine xg_X1_singles (q := 11) C tfl_X1_15 dX1_changeSingle_8 rfl ?_
  refine x_iload (q := 13) C dX1_changeSingle_11 4 rfl rfl ?_
  refine xa_X17 (q := 14) C (by omega) dX1_changeSingle_13 rfl ?_
  refine x_istore (q := 16) (lv' := [(0, .ref (ad 3)), (1, .int (nI k)), (2, .int (nI v)), (3, .int x), (4, .int (nI n1)), (5, .int (P 9 n1))]) C dX1_changeSingle_14 (by decide) rfl rfl rfl ?_
  refine x_aload_n (q := 17) C dX1_changeSingle_16 rfl 0 rfl rfl ?_
  refine xg_X1_singles (q := 20) C tfl_X1_15 dX1_changeSingle_17 rfl ?_
  refine x_iload (q := 22) C dX1_changeSingle_20 4 rfl rfl ?_
  refine x_iload_n (q := 23) C dX1_changeSingle_22 rfl 3 rfl rfl ?_
  refine xs_X17 (q := 24) C (by omega) dX1_changeSingle_23 rfl ?_
  refine x_iload (q := 26) C dX1_changeSingle_24 5 rfl rfl ?_
  exact x_iret C dX1_changeSingle_26 ⟨by rw [hn1], by rw [hn1], rfl⟩

set_option maxRecDepth 100000 in
set_option maxHeartbeats 4000000 in
theorem c_X1_changeJoint (hD : ∀ P T, va_D A (wX ad cI cZ P T)) {P T : St} (k v b y : Nat) (hk : k < 6) (hv : v < 4) (hb : b < 6) (hy : y < 4) (x : Int32) : XMI l D (tyz cI cZ) (wX ad cI cZ) A yX1_changeJoint cX1_changeJoint 8 (some .int) rmX1_changeJoint [.ref (ad 3), .int (nI k), .int (nI v), .int (nI b), .int (nI y), .int x] P T (fun r P' T' => r = P 10 ((k * 4 + v) * 24 + (b * 4 + y)) ∧ P' = st1 P 10 ((k * 4 + v) * 24 + (b * 4 + y)) x ∧ T' = T) := by
  refine x_start_i (lv := [(0, .ref (ad 3)), (1, .int (nI k)), (2, .int (nI v)), (3, .int (nI b)), (4, .int (nI y)), (5, .int x)]) (own := RX1) (by decide) rfl hD (Nat.le_of_ble_eq_true rfl) rfl ?_
  intro p e s m args below meth c C
  refine x_iload_n (q := 1) C dX1_changeJoint_0 rfl 1 rfl rfl ?_
  refine x_iload_n (q := 2) C dX1_changeJoint_1 rfl 2 rfl rfl ?_
  refine x_Sf (q := 5) (As := [.int (nI k), .int (nI v)]) (rest := []) C (c_X2_slot hD k v ) xs_X2_slot tst_X2_slot tml_X1_25 (by decide) rfl rfl (Nat.le_of_ble_eq_true rfl) dX1_changeJoint_2 rfl ?_
  refine x_bipush (q := 7) (v := nI 24) C dX1_changeJoint_5 (by decide) rfl ?_
  refine x_imul_n (q := 8) C dX1_changeJoint_7 rfl ?_
  refine x_iload_n (q := 9) C dX1_changeJoint_8 rfl 3 rfl rfl ?_
  refine x_iload (q := 11) C dX1_changeJoint_9 4 rfl rfl ?_
  refine x_Sf (q := 14) (As := [.int (nI b), .int (nI y)]) (rest := [.int (nI ((k * 4 + v) * 24))]) C (c_X2_slot hD b y ) xs_X2_slot tst_X2_slot tml_X1_25 (by decide) rfl rfl (Nat.le_of_ble_eq_true rfl) dX1_changeJoint_11 rfl ?_
  refine x_iadd_n (q := 15) C dX1_changeJoint_14 rfl ?_
  refine x_namen (fun n1 hn1 => ?_)
  refine x_istore (q := 17) (lv' := [(0, .ref (ad 3)), (1, .int (nI k)), (2, .int (nI v)), (3, .int (nI b)), (4, .int (nI y)), (5, .int x), (6, .int (nI n1))]) C dX1_changeJoint_15 (by decide) rfl rfl rfl ?_
  refine x_aload_n (q := 18) C dX1_changeJoint_17 rfl 0 rfl rfl ?_
  refine xg_X1_joints (q := 21) C tfl_X1_19 dX1_changeJoint_18 rfl ?_
  refine x_iload (q := 23) C dX1_changeJoint_21 6 rfl rfl ?_
  refine xa_X18 (q := 24) C (by omega) dX1_changeJoint_23 rfl ?_
  refine x_istore (q := 26) (lv' := [(0, .ref (ad 3)), (1, .int (nI k)), (2, .int (nI v)), (3, .int (nI b)), (4, .int (nI y)), (5, .int x), (6, .int (nI n1)), (7, .int (P 10 n1))]) C dX1_changeJoint_24 (by decide) rfl rfl rfl ?_
  refine x_aload_n (q := 27) C dX1_changeJoint_26 rfl 0 rfl rfl ?_
  refine xg_X1_joints (q := 30) C tfl_X1_19 dX1_changeJoint_27 rfl ?_
  refine x_iload (q := 32) C dX1_changeJoint_30 6 rfl rfl ?_
  refine x_iload (q := 34) C dX1_changeJoint_32 5 rfl rfl ?_
  refine xs_X18 (q := 35) C (by omega) dX1_changeJoint_34 rfl ?_
  refine x_iload (q := 37) C dX1_changeJoint_35 7 rfl rfl ?_
  exact x_iret C dX1_changeJoint_37 ⟨by rw [hn1], by rw [hn1], rfl⟩

set_option maxRecDepth 100000 in
set_option maxHeartbeats 4000000 in
theorem c_X1_sumFor (hD : ∀ P T, va_D A (wX ad cI cZ P T)) {P T : St} (ok : okX P) (x : Nat) (hx : x < 2 ^ 31) : XMI l D (tyz cI cZ) (wX ad cI cZ) A yX1_sumFor cX1_sumFor 6 (some .int) rmX1_sumFor [.ref (ad 3), .int (nI x), .ref (ad 1)] P T (fun r P' T' => r = wo P x ∧ P' = P ∧ ∀ j, j ≠ 11 → T' j = T j) := by
  have okc := ok.1
  have hk6 := okc_kn6 okc
  have hS144 := okc_S144 okc
  have hS1 := okc_S1 okc
  have hnr := okc_nr12 okc
  have hnt := okc_nt60 okc
  have hnz := okc_nz50 okc
  have hsd := okc_sdb okc
  refine x_start_i (lv := [(0, .ref (ad 3)), (1, .int (nI x)), (2, .ref (ad 1))]) (own := RX1) (by decide) rfl hD (Nat.le_of_ble_eq_true rfl) rfl ?_
  intro p e s m args below meth c C
  refine x_aload_n (q := 1) C dX1_sumFor_0 rfl 0 rfl rfl ?_
  refine xg_X1_base (q := 4) C tfl_X1_9 dX1_sumFor_1 rfl ?_
  refine x_istore_n (q := 5) (lv' := [(0, .ref (ad 3)), (1, .int (nI x)), (2, .ref (ad 1)), (3, .int (P 23 0))]) C dX1_sumFor_4 rfl (by decide) rfl rfl rfl ?_
  refine x_iconst (q := 6) (v := nI 0) C dX1_sumFor_5 (by decide) rfl ?_
  refine x_istore (q := 8) (lv' := [(0, .ref (ad 3)), (1, .int (nI x)), (2, .ref (ad 1)), (3, .int (P 23 0)), (4, .int (nI 0))]) C dX1_sumFor_6 (by decide) rfl rfl rfl ?_
  have L8 : ∀ (f1 : Nat) (b : Nat) (a : Int32) (Tq : St), (b ≤ kn P) → (a = P 23 0 + sm (wot P x) b) → (∀ j, j ≠ 11 → Tq j = T j) → (∀ j, j < b → Tq 11 j = nI (slv P x j)) → kn P - b < f1 → XW p l e rmX1_sumFor s m args below meth c D (wX ad cI cZ) A 6 (MQ below (XPI D (tyz cI cZ) (wX ad cI cZ) A (fun r P' T' => r = wo P x ∧ P' = P ∧ ∀ j, j ≠ 11 → T' j = T j)) args s 0 0 A) 8 [(0, .ref (ad 3)), (1, .int (nI x)), (2, .ref (ad 1)), (3, .int a), (4, .int (nI b))] [] P Tq := by
    intro f1
    induction f1 with
    | zero => intro b a Tq hb ha hT hs hm; exact absurd hm (Nat.not_lt_zero _)
    | succ f1 ih8 =>
      intro b a Tq hb ha hT hs hm8
      refine x_iload (q := 10) C dX1_sumFor_8 4 rfl rfl ?_
      refine x_aload_n (q := 11) C dX1_sumFor_10 rfl 2 rfl rfl ?_
      refine x_Vf (q := 14) (As := []) (rest := [.int (nI b)]) C (c_X2_howMany hD ) xs_X2_howMany tim_X2_howMany tsel_X2_howMany tml_X1_31 (by decide) 1 rfl (ci := 2) rfl rfl rfl (Nat.le_of_ble_eq_true rfl) dX1_sumFor_11 rfl ?_
      refine x_topn (kn P) (okc_kn (P := P) okc) ?_
      refine x_icmp_ge_n (q := 17) (tgt := 99) C dX1_sumFor_14 (by omega) (by omega) (by decide) rfl (fun c14 => ?_) (fun c14 => ?_)
      · refine x_iload_n (q := 100) C dX1_sumFor_99 rfl 3 rfl rfl ?_
        exact x_iret C dX1_sumFor_100 ⟨by rw [ha, show b = kn P by omega]; rfl, rfl, hT⟩
      · refine x_aload_n (q := 18) C dX1_sumFor_17 rfl 0 rfl rfl ?_
        refine xg_X1_slots (q := 21) C tfl_X1_22 dX1_sumFor_18 rfl ?_
        refine x_iload (q := 23) C dX1_sumFor_21 4 rfl rfl ?_
        refine x_iload (q := 25) C dX1_sumFor_23 4 rfl rfl ?_
        refine x_aload_n (q := 26) C dX1_sumFor_25 rfl 2 rfl rfl ?_
        refine x_iload_n (q := 27) C dX1_sumFor_26 rfl 1 rfl rfl ?_
        refine x_iload (q := 29) C dX1_sumFor_27 4 rfl rfl ?_
        refine x_Vf (q := 32) (As := [.int (nI x), .int (nI b)]) (rest := [.int (nI b), .int (nI b), .ref (ad 19)]) C (c_X2_valueIn hD ok x b (by omega) (by omega)) xs_X2_valueIn tim_X2_valueIn tsel_X2_valueIn tml_X1_35 (by decide) 1 rfl (ci := 2) rfl rfl rfl (Nat.le_of_ble_eq_true rfl) dX1_sumFor_29 rfl ?_
        refine x_Sf (q := 35) (As := [.int (nI b), .int (nI (val P x b))]) (rest := [.int (nI b), .ref (ad 19)]) C (c_X2_slot hD b (val P x b) ) xs_X2_slot tst_X2_slot tml_X1_25 (by decide) rfl rfl (Nat.le_of_ble_eq_true rfl) dX1_sumFor_32 rfl ?_
        refine xs_X19 (q := 36) C (by omega) dX1_sumFor_35 rfl ?_
        refine x_iload_n (q := 37) C dX1_sumFor_36 rfl 3 rfl rfl ?_
        refine x_aload_n (q := 38) C dX1_sumFor_37 rfl 0 rfl rfl ?_
        refine xg_X1_singles (q := 41) C tfl_X1_15 dX1_sumFor_38 rfl ?_
        refine x_aload_n (q := 42) C dX1_sumFor_41 rfl 0 rfl rfl ?_
        refine xg_X1_slots (q := 45) C tfl_X1_22 dX1_sumFor_42 rfl ?_
        refine x_iload (q := 47) C dX1_sumFor_45 4 rfl rfl ?_
        refine xa_X19 (q := 48) C (by omega) dX1_sumFor_47 rfl ?_
        refine x_topn (slv P x b) st1_at ?_
        refine xa_X17 (q := 49) C (slv_lt okc x (by omega)) dX1_sumFor_48 rfl ?_
        refine x_iadd (q := 50) C dX1_sumFor_49 rfl ?_
        refine x_topi (fun z2 hz2 => ?_)
        refine x_istore_n (q := 51) (lv' := [(0, .ref (ad 3)), (1, .int (nI x)), (2, .ref (ad 1)), (3, .int z2), (4, .int (nI b))]) C dX1_sumFor_50 rfl (by decide) rfl rfl rfl ?_
        have hz := hz2
        refine x_iconst (q := 52) (v := nI 0) C dX1_sumFor_51 (by decide) rfl ?_
        refine x_istore (q := 54) (lv' := [(0, .ref (ad 3)), (1, .int (nI x)), (2, .ref (ad 1)), (3, .int z2), (4, .int (nI b)), (5, .int (nI 0))]) C dX1_sumFor_52 (by decide) rfl rfl rfl ?_
        have L54 : ∀ (f3 : Nat) (a2 : Nat) (c2 : Int32), (a2 ≤ b) → (c2 = z2 + sm (wjt P x b) a2) → b - a2 < f3 → XW p l e rmX1_sumFor s m args below meth c D (wX ad cI cZ) A 6 (MQ below (XPI D (tyz cI cZ) (wX ad cI cZ) A (fun r P' T' => r = wo P x ∧ P' = P ∧ ∀ j, j ≠ 11 → T' j = T j)) args s 0 0 A) 54 [(0, .ref (ad 3)), (1, .int (nI x)), (2, .ref (ad 1)), (3, .int c2), (4, .int (nI b)), (5, .int (nI a2))] [] P (st1 Tq 11 b (nI (b * 4 + (val P x b)))) := by
          intro f3
          induction f3 with
          | zero => intro a2 c2 h2 ha2 hm; exact absurd hm (Nat.not_lt_zero _)
          | succ f3 ih54 =>
            intro a2 c2 h2 ha2 hm54
            refine x_iload (q := 56) C dX1_sumFor_54 5 rfl rfl ?_
            refine x_iload (q := 58) C dX1_sumFor_56 4 rfl rfl ?_
            refine x_icmp_ge_n (q := 61) (tgt := 93) C dX1_sumFor_58 (by omega) (by omega) (by decide) rfl (fun c58 => ?_) (fun c58 => ?_)
            · refine x_iinc (q := 96) (v := nI (b + 1)) (lv' := [(0, .ref (ad 3)), (1, .int (nI x)), (2, .ref (ad 1)), (3, .int c2), (4, .int (nI (b + 1))), (5, .int (nI a2))]) C dX1_sumFor_93 4 rfl (nI_add b 1) (by decide) rfl rfl rfl ?_
              refine x_goto (tgt := 8) C dX1_sumFor_96 (by decide) ?_
              refine x_lv [0, 1, 2, 3, 4] rfl ?_
              exact ih8 (b + 1) _ _ (by omega) (by rw [ha2, show a2 = b by omega, hz, sm, wot, Int32.add_assoc, ha, Int32.add_assoc]) (fun j hj => by rw [st1_ne hj]; exact hT j hj) (lt_s (fun j hj => by rw [st1_no (by omega)]; exact hs j hj) st1_at) (by omega)
            · refine x_iload_n (q := 62) C dX1_sumFor_61 rfl 3 rfl rfl ?_
              refine x_aload_n (q := 63) C dX1_sumFor_62 rfl 0 rfl rfl ?_
              refine xg_X1_joints (q := 66) C tfl_X1_19 dX1_sumFor_63 rfl ?_
              refine x_aload_n (q := 67) C dX1_sumFor_66 rfl 0 rfl rfl ?_
              refine xg_X1_slots (q := 70) C tfl_X1_22 dX1_sumFor_67 rfl ?_
              refine x_iload (q := 72) C dX1_sumFor_70 5 rfl rfl ?_
              refine xa_X19 (q := 73) C (by omega) dX1_sumFor_72 rfl ?_
              refine x_topn (slv P x a2) (by rw [st1_no (by omega)]; exact hs a2 (by omega)) ?_
              refine x_bipush (q := 75) (v := nI 24) C dX1_sumFor_73 (by decide) rfl ?_
              refine x_imul_n (q := 76) C dX1_sumFor_75 rfl ?_
              refine x_aload_n (q := 77) C dX1_sumFor_76 rfl 0 rfl rfl ?_
              refine xg_X1_slots (q := 80) C tfl_X1_22 dX1_sumFor_77 rfl ?_
              refine x_iload (q := 82) C dX1_sumFor_80 4 rfl rfl ?_
              refine xa_X19 (q := 83) C (by omega) dX1_sumFor_82 rfl ?_
              refine x_topn (slv P x b) st1_at ?_
              refine x_iadd_n (q := 84) C dX1_sumFor_83 rfl ?_
              refine xa_X18 (q := 85) C (by have := slv_lt okc x (k := a2) (by omega); have := slv_lt okc x (k := b) (by omega); omega) dX1_sumFor_84 rfl ?_
              refine x_iadd (q := 86) C dX1_sumFor_85 rfl ?_
              refine x_topi (fun z4 hz4 => ?_)
              refine x_istore_n (q := 87) (lv' := [(0, .ref (ad 3)), (1, .int (nI x)), (2, .ref (ad 1)), (3, .int z4), (4, .int (nI b)), (5, .int (nI a2))]) C dX1_sumFor_86 rfl (by decide) rfl rfl rfl ?_
              refine x_iinc (q := 90) (v := nI (a2 + 1)) (lv' := [(0, .ref (ad 3)), (1, .int (nI x)), (2, .ref (ad 1)), (3, .int z4), (4, .int (nI b)), (5, .int (nI (a2 + 1)))]) C dX1_sumFor_87 5 rfl (nI_add a2 1) (by decide) rfl rfl rfl ?_
              refine x_goto (tgt := 54) C dX1_sumFor_90 (by decide) ?_
              exact ih54 (a2 + 1) _ (by omega) (by rw [hz4, ha2, sm, Int32.add_assoc]; rfl) (by omega)
        exact L54 _ 0 _ (Nat.zero_le _) (Int32.add_zero _).symm (Nat.lt_succ_self _)
  exact L8 _ 0 _ _ (Nat.zero_le _) (Int32.add_zero _).symm (fun _ _ => rfl) (fun j hj => absurd hj (Nat.not_lt_zero j)) (Nat.lt_succ_self _)

end RULES
