section OPEN
variable {l : Launch} {D : va_G} {ad : Nat → Nat} {cI cZ : ClassId} {A : Nat → Prop}

set_option maxRecDepth 100000 in
set_option maxHeartbeats 4000000 in
theorem c_X3_howMany (hD : ∀ P T, va_D A (wX ad cI cZ P T)) {P T : St} : XMI l D (tyz cI cZ) (wX ad cI cZ) A yX3_howMany cX3_howMany 1 (some .int) rmX3_howMany [.ref (ad 5)] P T (fun r P' T' => r = T 27 0 ∧ P' = P ∧ T' = T) := by
  refine x_start_i (lv := [(0, .ref (ad 5))]) (own := RX3) (by decide) rfl hD (Nat.le_of_ble_eq_true rfl) rfl ?_
  intro p e s m args below meth c C
  refine x_aload_n (q := 1) C dX3_howMany_0 rfl 0 rfl rfl ?_
  refine xg_X3_many (q := 4) C tfl_X3_9 dX3_howMany_1 rfl ?_
  exact x_iret C dX3_howMany_4 ⟨rfl, rfl, rfl⟩

set_option maxRecDepth 100000 in
set_option maxHeartbeats 4000000 in
theorem c_X3_settingAt (hD : ∀ P T, va_D A (wX ad cI cZ P T)) {P T : St} (i : Nat) (hi : i < 144) : XMI l D (tyz cI cZ) (wX ad cI cZ) A yX3_settingAt cX3_settingAt 2 (some .int) rmX3_settingAt [.ref (ad 5), .int (nI i)] P T (fun r P' T' => r = T 14 i ∧ P' = P ∧ T' = T) := by
  refine x_start_i (lv := [(0, .ref (ad 5)), (1, .int (nI i))]) (own := RX3) (by decide) rfl hD (Nat.le_of_ble_eq_true rfl) rfl ?_
  intro p e s m args below meth c C
  refine x_aload_n (q := 1) C dX3_settingAt_0 rfl 0 rfl rfl ?_
  refine xg_X3_settings (q := 4) C tfl_X3_15 dX3_settingAt_1 rfl ?_
  refine x_iload_n (q := 5) C dX3_settingAt_4 rfl 1 rfl rfl ?_
  refine xa_X22 (q := 6) C (by omega) dX3_settingAt_5 rfl ?_
  exact x_iret C dX3_settingAt_6 ⟨rfl, rfl, rfl⟩

set_option maxRecDepth 100000 in
set_option maxHeartbeats 4000000 in
theorem c_X3_worthAt (hD : ∀ P T, va_D A (wX ad cI cZ P T)) {P T : St} (i : Nat) (hi : i < 144) : XMI l D (tyz cI cZ) (wX ad cI cZ) A yX3_worthAt cX3_worthAt 2 (some .int) rmX3_worthAt [.ref (ad 5), .int (nI i)] P T (fun r P' T' => r = T 15 i ∧ P' = P ∧ T' = T) := by
  refine x_start_i (lv := [(0, .ref (ad 5)), (1, .int (nI i))]) (own := RX3) (by decide) rfl hD (Nat.le_of_ble_eq_true rfl) rfl ?_
  intro p e s m args below meth c C
  refine x_aload_n (q := 1) C dX3_worthAt_0 rfl 0 rfl rfl ?_
  refine xg_X3_worths (q := 4) C tfl_X3_19 dX3_worthAt_1 rfl ?_
  refine x_iload_n (q := 5) C dX3_worthAt_4 rfl 1 rfl rfl ?_
  refine xa_X23 (q := 6) C (by omega) dX3_worthAt_5 rfl ?_
  exact x_iret C dX3_worthAt_6 ⟨rfl, rfl, rfl⟩

set_option maxRecDepth 100000 in
set_option maxHeartbeats 4000000 in
theorem c_X0_floorOf (hD : ∀ P T, va_D A (wX ad cI cZ P T)) {P T : St} (i : Nat) (hi : i < 144) : XMI l D (tyz cI cZ) (wX ad cI cZ) A yX0_floorOf cX0_floorOf 2 (some .int) rmX0_floorOf [.ref (ad 6), .int (nI i)] P T (fun r P' T' => r = T 16 i ∧ P' = P ∧ T' = T) := by
  refine x_start_i (lv := [(0, .ref (ad 6)), (1, .int (nI i))]) (own := RX0) (by decide) rfl hD (Nat.le_of_ble_eq_true rfl) rfl ?_
  intro p e s m args below meth c C
  refine x_aload_n (q := 1) C dX0_floorOf_0 rfl 0 rfl rfl ?_
  refine xg_X0_floors (q := 4) C tfl_X0_9 dX0_floorOf_1 rfl ?_
  refine x_iload_n (q := 5) C dX0_floorOf_4 rfl 1 rfl rfl ?_
  refine xa_X24 (q := 6) C (by omega) dX0_floorOf_5 rfl ?_
  exact x_iret C dX0_floorOf_6 ⟨rfl, rfl, rfl⟩

set_option maxRecDepth 100000 in
set_option maxHeartbeats 4000000 in
theorem c_X0_roofOf (hD : ∀ P T, va_D A (wX ad cI cZ P T)) {P T : St} (i : Nat) (hi : i < 144) : XMI l D (tyz cI cZ) (wX ad cI cZ) A yX0_roofOf cX0_roofOf 2 (some .int) rmX0_roofOf [.ref (ad 6), .int (nI i)] P T (fun r P' T' => r = T 17 i ∧ P' = P ∧ T' = T) := by
  refine x_start_i (lv := [(0, .ref (ad 6)), (1, .int (nI i))]) (own := RX0) (by decide) rfl hD (Nat.le_of_ble_eq_true rfl) rfl ?_
  intro p e s m args below meth c C
  refine x_aload_n (q := 1) C dX0_roofOf_0 rfl 0 rfl rfl ?_
  refine xg_X0_roofs (q := 4) C tfl_X0_15 dX0_roofOf_1 rfl ?_
  refine x_iload_n (q := 5) C dX0_roofOf_4 rfl 1 rfl rfl ?_
  refine xa_X25 (q := 6) C (by omega) dX0_roofOf_5 rfl ?_
  exact x_iret C dX0_roofOf_6 ⟨rfl, rfl, rfl⟩

set_option maxRecDepth 100000 in
set_option maxHeartbeats 4000000 in
theorem c_X4_countingWays (hD : ∀ P T, va_D A (wX ad cI cZ P T)) {P T : St} : XMI l D (tyz cI cZ) (wX ad cI cZ) A yX4_countingWays cX4_countingWays 1 (some .int) rmX4_countingWays [.ref (ad 7)] P T (fun r P' T' => r = T 29 0 ∧ P' = P ∧ T' = T) := by
  refine x_start_i (lv := [(0, .ref (ad 7))]) (own := RX4) (by decide) rfl hD (Nat.le_of_ble_eq_true rfl) rfl ?_
  intro p e s m args below meth c C
  refine x_aload_n (q := 1) C dX4_countingWays_0 rfl 0 rfl rfl ?_
  refine xg_X4_counting (q := 4) C tfl_X4_15 dX4_countingWays_1 rfl ?_
  exact x_iret C dX4_countingWays_4 ⟨rfl, rfl, rfl⟩

set_option maxRecDepth 100000 in
set_option maxHeartbeats 4000000 in
theorem c_X4_allWays (hD : ∀ P T, va_D A (wX ad cI cZ P T)) {P T : St} : XMI l D (tyz cI cZ) (wX ad cI cZ) A yX4_allWays cX4_allWays 1 (some .int) rmX4_allWays [.ref (ad 7)] P T (fun r P' T' => r = T 30 0 ∧ P' = P ∧ T' = T) := by
  refine x_start_i (lv := [(0, .ref (ad 7))]) (own := RX4) (by decide) rfl hD (Nat.le_of_ble_eq_true rfl) rfl ?_
  intro p e s m args below meth c C
  refine x_aload_n (q := 1) C dX4_allWays_0 rfl 0 rfl rfl ?_
  refine xg_X4_all (q := 4) C tfl_X4_18 dX4_allWays_1 rfl ?_
  exact x_iret C dX4_allWays_4 ⟨rfl, rfl, rfl⟩

set_option maxRecDepth 100000 in
set_option maxHeartbeats 4000000 in
theorem c_X3_gather (hD : ∀ P T, va_D A (wX ad cI cZ P T)) {P T : St} (ok : okX P) : XMV l D (tyz cI cZ) (wX ad cI cZ) A yX3_gather cX3_gather 4 none rmX3_gather [.ref (ad 5), .ref (ad 1), .ref (ad 2)] P T (fun P' T' => P' = P ∧ (∀ j, j ≠ 14 → j ≠ 27 → T' j = T j) ∧ opn T' (alL P (nS P))) := by
  have okc := ok.1
  have hk6 := okc_kn6 okc
  have hS144 := okc_S144 okc
  have hS1 := okc_S1 okc
  have hnr := okc_nr12 okc
  have hnt := okc_nt60 okc
  have hnz := okc_nz50 okc
  have hsd := okc_sdb okc
  refine x_start_v (lv := [(0, .ref (ad 5)), (1, .ref (ad 1)), (2, .ref (ad 2))]) (own := RX3) (by decide) rfl hD (Nat.le_of_ble_eq_true rfl) rfl ?_
  intro p e s m args below meth c C
  refine x_aload_n (q := 1) C dX3_gather_0 rfl 0 rfl rfl ?_
  refine x_iconst (q := 2) (v := nI 0) C dX3_gather_1 (by decide) rfl ?_
  refine xp_X3_many (q := 5) C tfl_X3_9 dX3_gather_2 rfl ?_
  refine x_iconst (q := 6) (v := nI 0) C dX3_gather_5 (by decide) rfl ?_
  refine x_istore_n (q := 7) (lv' := [(0, .ref (ad 5)), (1, .ref (ad 1)), (2, .ref (ad 2)), (3, .int (nI 0))]) C dX3_gather_6 rfl (by decide) rfl rfl rfl ?_
  have L7 : ∀ (f1 : Nat) (x : Nat) (Tq : St), (x ≤ nS P) → (∀ j, j ≠ 14 → j ≠ 27 → Tq j = T j) → (opn Tq (alL P x)) → nS P - x < f1 → XW p l e rmX3_gather s m args below meth c D (wX ad cI cZ) A 4 (MQ below (XPV D (tyz cI cZ) (wX ad cI cZ) A (fun P' T' => P' = P ∧ (∀ j, j ≠ 14 → j ≠ 27 → T' j = T j) ∧ opn T' (alL P (nS P)))) args s 0 0 A) 7 [(0, .ref (ad 5)), (1, .ref (ad 1)), (2, .ref (ad 2)), (3, .int (nI x))] [] P Tq := by
    intro f1
    induction f1 with
    | zero => intro x Tq hx hT hO hm; exact absurd hm (Nat.not_lt_zero _)
    | succ f1 ih7 =>
      intro x Tq hx hT hO hm7
      refine x_iload_n (q := 8) C dX3_gather_7 rfl 3 rfl rfl ?_
      refine x_aload_n (q := 9) C dX3_gather_8 rfl 1 rfl rfl ?_
      refine x_Vf (q := 12) (As := []) (rest := [.int (nI x)]) C (c_X2_howManySettings hD ) xs_X2_howManySettings tim_X2_howManySettings tsel_X2_howManySettings tml_X3_22 (by decide) 1 rfl (ci := 2) rfl rfl rfl (Nat.le_of_ble_eq_true rfl) dX3_gather_9 rfl ?_
      refine x_topn (nS P) (okc_S (P := P) okc) ?_
      refine x_icmp_ge_n (q := 15) (tgt := 50) C dX3_gather_12 (by omega) (by omega) (by decide) rfl (fun c12 => ?_) (fun c12 => ?_)
      · exact x_vret C dX3_gather_50 ⟨rfl, hT, by rw [show nS P = x by omega]; exact hO⟩
      · refine x_aload_n (q := 16) C dX3_gather_15 rfl 2 rfl rfl ?_
        refine x_iload_n (q := 17) C dX3_gather_16 rfl 3 rfl rfl ?_
        refine x_aload_n (q := 18) C dX3_gather_17 rfl 1 rfl rfl ?_
        refine x_Vf (q := 21) (As := [.int (nI x), .ref (ad 1)]) (rest := []) C (c_X5_allow hD ok x (by omega)) xs_X5_allow tim_X5_allow tsel_X5_allow tml_X3_28 (by decide) 2 rfl (ci := 5) rfl rfl rfl (Nat.le_of_ble_eq_true rfl) dX3_gather_18 rfl ?_
        refine x_if_eq_b (q := 24) (tgt := 44) C dX3_gather_21 (by decide) rfl (fun c21 => ?_) (fun c21 => ?_)
        · refine x_iinc (q := 47) (v := nI (x + 1)) (lv' := [(0, .ref (ad 5)), (1, .ref (ad 1)), (2, .ref (ad 2)), (3, .int (nI (x + 1)))]) C dX3_gather_44 3 rfl (nI_add x 1) (by decide) rfl rfl rfl ?_
          refine x_goto (tgt := 7) C dX3_gather_47 (by decide) ?_
          exact ih7 (x + 1) _ (by omega) hT (by rw [alL_n c21]; exact hO) (by omega)
        · refine x_aload_n (q := 25) C dX3_gather_24 rfl 0 rfl rfl ?_
          refine xg_X3_settings (q := 28) C tfl_X3_15 dX3_gather_25 rfl ?_
          refine x_aload_n (q := 29) C dX3_gather_28 rfl 0 rfl rfl ?_
          refine xg_X3_many (q := 32) C tfl_X3_9 dX3_gather_29 rfl ?_
          refine x_topn ((alL P x).length) hO.1 ?_
          refine x_iload_n (q := 33) C dX3_gather_32 rfl 3 rfl rfl ?_
          refine xs_X22 (q := 34) C (by have := alL_len P x; omega) dX3_gather_33 rfl ?_
          refine x_aload_n (q := 35) C dX3_gather_34 rfl 0 rfl rfl ?_
          refine x_dup (q := 36) C dX3_gather_35 rfl rfl ?_
          refine xg_X3_many (q := 39) C tfl_X3_9 dX3_gather_36 rfl ?_
          refine x_topn ((alL P x).length) hO.1 ?_
          refine x_iconst (q := 40) (v := nI 1) C dX3_gather_39 (by decide) rfl ?_
          refine x_iadd_n (q := 41) C dX3_gather_40 rfl ?_
          refine xp_X3_many (q := 44) C tfl_X3_9 dX3_gather_41 rfl ?_
          refine x_iinc (q := 47) (v := nI (x + 1)) (lv' := [(0, .ref (ad 5)), (1, .ref (ad 1)), (2, .ref (ad 2)), (3, .int (nI (x + 1)))]) C dX3_gather_44 3 rfl (nI_add x 1) (by decide) rfl rfl rfl ?_
          refine x_goto (tgt := 7) C dX3_gather_47 (by decide) ?_
          exact ih7 (x + 1) _ (by omega) (fun j h1 h2 => by rw [st1_ne h2, st1_ne h1]; exact hT j h1 h2) (by rw [alL_y c21]; exact opn_push hO) (by omega)
  exact L7 _ 0 _ (Nat.zero_le _) (fun j h1 h2 => st1_ne h2) ⟨st1_at, fun i hi => absurd hi (Nat.not_lt_zero i)⟩ (Nat.lt_succ_self _)

set_option maxRecDepth 100000 in
set_option maxHeartbeats 4000000 in
theorem c_X3_weigh (hD : ∀ P T, va_D A (wX ad cI cZ P T)) {P T : St} (ok : okX P) (L : List Nat) (hO : opn T L) (hlen : L.length ≤ 144) (hb : ∀ x ∈ L, x < 144) : XMV l D (tyz cI cZ) (wX ad cI cZ) A yX3_weigh cX3_weigh 4 none rmX3_weigh [.ref (ad 5), .ref (ad 1), .ref (ad 3)] P T (fun P' T' => P' = P ∧ (∀ j, j ≠ 11 → j ≠ 15 → T' j = T j) ∧ ∀ i, i < L.length → T' 15 i = wo P (L.getD i 0)) := by
  have okc := ok.1
  have hk6 := okc_kn6 okc
  have hS144 := okc_S144 okc
  have hS1 := okc_S1 okc
  have hnr := okc_nr12 okc
  have hnt := okc_nt60 okc
  have hnz := okc_nz50 okc
  have hsd := okc_sdb okc
  refine x_start_v (lv := [(0, .ref (ad 5)), (1, .ref (ad 1)), (2, .ref (ad 3))]) (own := RX3) (by decide) rfl hD (Nat.le_of_ble_eq_true rfl) rfl ?_
  intro p e s m args below meth c C
  refine x_iconst (q := 1) (v := nI 0) C dX3_weigh_0 (by decide) rfl ?_
  refine x_istore_n (q := 2) (lv' := [(0, .ref (ad 5)), (1, .ref (ad 1)), (2, .ref (ad 3)), (3, .int (nI 0))]) C dX3_weigh_1 rfl (by decide) rfl rfl rfl ?_
  have L2 : ∀ (f1 : Nat) (i : Nat) (Tq : St), (i ≤ L.length) → (∀ j, j ≠ 11 → j ≠ 15 → Tq j = T j) → (∀ j, j < i → Tq 15 j = wo P (L.getD j 0)) → L.length - i < f1 → XW p l e rmX3_weigh s m args below meth c D (wX ad cI cZ) A 4 (MQ below (XPV D (tyz cI cZ) (wX ad cI cZ) A (fun P' T' => P' = P ∧ (∀ j, j ≠ 11 → j ≠ 15 → T' j = T j) ∧ ∀ i, i < L.length → T' 15 i = wo P (L.getD i 0))) args s 0 0 A) 2 [(0, .ref (ad 5)), (1, .ref (ad 1)), (2, .ref (ad 3)), (3, .int (nI i))] [] P Tq := by
    intro f1
    induction f1 with
    | zero => intro i Tq hi hT hW hm; exact absurd hm (Nat.not_lt_zero _)
    | succ f1 ih2 =>
      intro i Tq hi hT hW hm2
      refine x_iload_n (q := 3) C dX3_weigh_2 rfl 3 rfl rfl ?_
      refine x_aload_n (q := 4) C dX3_weigh_3 rfl 0 rfl rfl ?_
      refine xg_X3_many (q := 7) C tfl_X3_9 dX3_weigh_4 rfl ?_
      refine x_topn (L.length) (by rw [hT 27 (by decide) (by decide)]; exact hO.1) ?_
      refine x_icmp_ge_n (q := 10) (tgt := 33) C dX3_weigh_7 (by omega) (by omega) (by decide) rfl (fun c7 => ?_) (fun c7 => ?_)
      · exact x_vret C dX3_weigh_33 ⟨rfl, hT, fun j hj => hW j (by omega)⟩
      · have hLb := hb _ (getD_mem (L := L) (i := i) (by omega))
        refine x_aload_n (q := 11) C dX3_weigh_10 rfl 0 rfl rfl ?_
        refine xg_X3_worths (q := 14) C tfl_X3_19 dX3_weigh_11 rfl ?_
        refine x_iload_n (q := 15) C dX3_weigh_14 rfl 3 rfl rfl ?_
        refine x_aload_n (q := 16) C dX3_weigh_15 rfl 2 rfl rfl ?_
        refine x_aload_n (q := 17) C dX3_weigh_16 rfl 0 rfl rfl ?_
        refine xg_X3_settings (q := 20) C tfl_X3_15 dX3_weigh_17 rfl ?_
        refine x_iload_n (q := 21) C dX3_weigh_20 rfl 3 rfl rfl ?_
        refine xa_X22 (q := 22) C (by omega) dX3_weigh_21 rfl ?_
        refine x_topn (L.getD i 0) (by rw [hT 14 (by decide) (by decide)]; exact hO.2 i (by omega)) ?_
        refine x_aload_n (q := 23) C dX3_weigh_22 rfl 1 rfl rfl ?_
        refine x_Vi (q := 26) (As := [.int (nI (L.getD i 0)), .ref (ad 1)]) (rest := [.int (nI i), .ref (ad 23)]) C (c_X1_sumFor hD ok (L.getD i 0) (by omega)) xs_X1_sumFor tim_X1_sumFor tsel_X1_sumFor tml_X3_34 (by decide) 3 rfl (ci := 1) rfl rfl rfl (Nat.le_of_ble_eq_true rfl) dX3_weigh_23 rfl (fun rz Pz T23 hT23 => ?_)
        obtain ⟨hrz, hPz, hT23⟩ := hT23
        rw [hrz, hPz]; clear hrz hPz Pz rz
        refine xs_X23 (q := 27) C (by omega) dX3_weigh_26 rfl ?_
        refine x_iinc (q := 30) (v := nI (i + 1)) (lv' := [(0, .ref (ad 5)), (1, .ref (ad 1)), (2, .ref (ad 3)), (3, .int (nI (i + 1)))]) C dX3_weigh_27 3 rfl (nI_add i 1) (by decide) rfl rfl rfl ?_
        refine x_goto (tgt := 2) C dX3_weigh_30 (by decide) ?_
        exact ih2 (i + 1) _ (by omega) (fun j h1 h2 => by rw [st1_ne h2, hT23 j h1]; exact hT j h1 h2) (lt_s (fun j hj => by rw [st1_no (by omega), hT23 15 (by decide)]; exact hW j hj) st1_at) (by omega)
  exact L2 _ 0 _ (Nat.zero_le _) (fun _ _ _ => rfl) (fun j hj => absurd hj (Nat.not_lt_zero j)) (Nat.lt_succ_self _)

end OPEN
