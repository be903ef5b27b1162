section BENCHB
variable {l : Launch} {D : va_G} {ad : Nat → Nat} {cI cZ : ClassId} {A : Nat → Prop}

set_option maxRecDepth 100000 in
set_option maxHeartbeats 4000000 in
theorem c_X7_bestSetting (hD : ∀ P T, va_D A (wX ad cI cZ P T)) {P T : St} (ok : okX P) : XMI l D (tyz cI cZ) (wX ad cI cZ) A yX7_bestSetting cX7_bestSetting 5 (some .int) rmX7_bestSetting [.ref (ad 0)] P T (fun r P' _ => r = nov (lsA P) (bso P (lsA P).length) ∧ P' = P) := by
  have okc := ok.1
  have hk6 := okc_kn6 okc
  have hS144 := okc_S144 okc
  have hS1 := okc_S1 okc
  have hnr := okc_nr12 okc
  have hnt := okc_nt60 okc
  have hnz := okc_nz50 okc
  have hsd := okc_sdb okc
  have hLl := lsA_len okc
  have hLb := lsA_b okc
  refine x_start_i (lv := [(0, .ref (ad 0))]) (own := RX7) (by decide) rfl hD (Nat.le_of_ble_eq_true rfl) rfl ?_
  intro p e s m args below meth c C
  refine x_aload_n (q := 1) C dX7_bestSetting_0 rfl 0 rfl rfl ?_
  refine xg_X7_open (q := 4) C tfl_X7_40 dX7_bestSetting_1 rfl ?_
  refine x_aload_n (q := 5) C dX7_bestSetting_4 rfl 0 rfl rfl ?_
  refine xg_X7_knobs (q := 8) C tfl_X7_10 dX7_bestSetting_5 rfl ?_
  refine x_aload_n (q := 9) C dX7_bestSetting_8 rfl 0 rfl rfl ?_
  refine xg_X7_rules (q := 12) C tfl_X7_19 dX7_bestSetting_9 rfl ?_
  refine x_Vv (q := 15) (As := [.ref (ad 1), .ref (ad 2)]) (rest := []) C (c_X3_gather hD ok) xs_X3_gather tim_X3_gather tsel_X3_gather tml_X7_133 (by decide) 5 rfl (ci := 3) rfl rfl rfl (Nat.le_of_ble_eq_true rfl) dX7_bestSetting_12 rfl (fun Pz T12 hg => ?_)
  obtain ⟨hPz, hT12, hO12⟩ := hg
  rw [hPz]; clear hPz Pz
  refine x_bipush (q := 17) (v := (-4)) C dX7_bestSetting_15 (by decide) rfl ?_
  refine x_istore_n (q := 18) (lv' := [(0, .ref (ad 0)), (1, .int ((-4)))]) C dX7_bestSetting_17 rfl (by decide) rfl rfl rfl ?_
  refine x_iconst (q := 19) (v := nI 0) C dX7_bestSetting_18 (by decide) rfl ?_
  refine x_istore_n (q := 20) (lv' := [(0, .ref (ad 0)), (1, .int ((-4))), (2, .int (nI 0))]) C dX7_bestSetting_19 rfl (by decide) rfl rfl rfl ?_
  refine x_iconst (q := 21) (v := nI 0) C dX7_bestSetting_20 (by decide) rfl ?_
  refine x_istore_n (q := 22) (lv' := [(0, .ref (ad 0)), (1, .int ((-4))), (2, .int (nI 0)), (3, .int (nI 0))]) C dX7_bestSetting_21 rfl (by decide) rfl rfl rfl ?_
  have L22 : ∀ (f4 : Nat) (i : Nat) (o : Option Nat) (Tq : St), (i ≤ (lsA P).length) → (o = bso P i) → (opn Tq (lsA P)) → (lsA P).length - i < f4 → XW p l e rmX7_bestSetting s m args below meth c D (wX ad cI cZ) A 5 (MQ below (XPI D (tyz cI cZ) (wX ad cI cZ) A (fun r P' _ => r = nov (lsA P) (bso P (lsA P).length) ∧ P' = P)) args s 0 0 A) 22 [(0, .ref (ad 0)), (1, .int (nov (lsA P) o)), (2, .int (wov P o)), (3, .int (nI i))] [] P Tq := by
    intro f4
    induction f4 with
    | zero => intro i o Tq hi ho hO hm; exact absurd hm (Nat.not_lt_zero _)
    | succ f4 ih22 =>
      intro i o Tq hi ho hO hm22
      refine x_iload_n (q := 23) C dX7_bestSetting_22 rfl 3 rfl rfl ?_
      refine x_aload_n (q := 24) C dX7_bestSetting_23 rfl 0 rfl rfl ?_
      refine xg_X7_open (q := 27) C tfl_X7_40 dX7_bestSetting_24 rfl ?_
      refine x_Vf (q := 30) (As := []) (rest := [.int (nI i)]) C (c_X3_howMany hD ) xs_X3_howMany tim_X3_howMany tsel_X3_howMany tml_X7_137 (by decide) 5 rfl (ci := 3) rfl rfl rfl (Nat.le_of_ble_eq_true rfl) dX7_bestSetting_27 rfl ?_
      refine x_topn ((lsA P).length) hO.1 ?_
      refine x_icmp_ge_n (q := 33) (tgt := 84) C dX7_bestSetting_30 (by omega) (by omega) (by decide) rfl (fun c30 => ?_) (fun c30 => ?_)
      · refine x_iload_n (q := 85) C dX7_bestSetting_84 rfl 1 rfl rfl ?_
        exact x_iret C dX7_bestSetting_85 ⟨by rw [ho, show i = (lsA P).length by omega], rfl⟩
      · have hg := lsA_get (P := P) (i := i) (by omega)
        refine x_aload_n (q := 34) C dX7_bestSetting_33 rfl 0 rfl rfl ?_
        refine xg_X7_effects (q := 37) C tfl_X7_26 dX7_bestSetting_34 rfl ?_
        refine x_aload_n (q := 38) C dX7_bestSetting_37 rfl 0 rfl rfl ?_
        refine xg_X7_open (q := 41) C tfl_X7_40 dX7_bestSetting_38 rfl ?_
        refine x_iload_n (q := 42) C dX7_bestSetting_41 rfl 3 rfl rfl ?_
        refine x_Vf (q := 45) (As := [.int (nI i)]) (rest := [.ref (ad 3)]) C (c_X3_settingAt hD i (by omega)) xs_X3_settingAt tim_X3_settingAt tsel_X3_settingAt tml_X7_225 (by decide) 5 rfl (ci := 3) rfl rfl rfl (Nat.le_of_ble_eq_true rfl) dX7_bestSetting_42 rfl ?_
        refine x_topn ((lsA P).getD i 0) (hO.2 i (by omega)) ?_
        refine x_aload_n (q := 46) C dX7_bestSetting_45 rfl 0 rfl rfl ?_
        refine xg_X7_knobs (q := 49) C tfl_X7_10 dX7_bestSetting_46 rfl ?_
        refine x_Vi (q := 52) (As := [.int (nI ((lsA P).getD i 0)), .ref (ad 1)]) (rest := []) C (c_X1_sumFor hD ok ((lsA P).getD i 0) (by omega)) xs_X1_sumFor tim_X1_sumFor tsel_X1_sumFor tml_X7_139 (by decide) 3 rfl (ci := 1) rfl rfl rfl (Nat.le_of_ble_eq_true rfl) dX7_bestSetting_49 rfl (fun rz Pz T49 hT49 => ?_)
        obtain ⟨hrz, hPz, hT49⟩ := hT49
        rw [hrz, hPz]; clear hrz hPz Pz rz
        refine x_istore (q := 54) (lv' := [(0, .ref (ad 0)), (1, .int (nov (lsA P) o)), (2, .int (wov P o)), (3, .int (nI i)), (4, .int (wo P ((lsA P).getD i 0)))]) C dX7_bestSetting_52 (by decide) rfl rfl rfl ?_
        refine x_iload_n (q := 55) C dX7_bestSetting_54 rfl 1 rfl rfl ?_
        refine x_bipush (q := 57) (v := (-4)) C dX7_bestSetting_55 (by decide) rfl ?_
        refine x_icmp_eq (q := 60) (tgt := 66) C dX7_bestSetting_57 (by decide) rfl (fun c57 => ?_) (fun c57 => ?_)
        · obtain rfl := nov_none hLb hi (fun j hj => nxo_lt (by rw [← hj, ho]; rfl)) c57
          refine x_aload_n (q := 67) C dX7_bestSetting_66 rfl 0 rfl rfl ?_
          refine xg_X7_open (q := 70) C tfl_X7_40 dX7_bestSetting_67 rfl ?_
          refine x_iload_n (q := 71) C dX7_bestSetting_70 rfl 3 rfl rfl ?_
          refine x_Vf (q := 74) (As := [.int (nI i)]) (rest := []) C (c_X3_settingAt hD i (by omega)) xs_X3_settingAt tim_X3_settingAt tsel_X3_settingAt tml_X7_225 (by decide) 5 rfl (ci := 3) rfl rfl rfl (Nat.le_of_ble_eq_true rfl) dX7_bestSetting_71 rfl ?_
          refine x_topn ((lsA P).getD i 0) (by rw [hT49 14 (by decide)]; exact hO.2 i (by omega)) ?_
          refine x_istore_n (q := 75) (lv' := [(0, .ref (ad 0)), (1, .int (nI ((lsA P).getD i 0))), (2, .int (wov P none)), (3, .int (nI i)), (4, .int (wo P ((lsA P).getD i 0)))]) C dX7_bestSetting_74 rfl (by decide) rfl rfl rfl ?_
          refine x_iload (q := 77) C dX7_bestSetting_75 4 rfl rfl ?_
          refine x_istore_n (q := 78) (lv' := [(0, .ref (ad 0)), (1, .int (nI ((lsA P).getD i 0))), (2, .int (wo P ((lsA P).getD i 0))), (3, .int (nI i)), (4, .int (wo P ((lsA P).getD i 0)))]) C dX7_bestSetting_77 rfl (by decide) rfl rfl rfl ?_
          refine x_iinc (q := 81) (v := nI (i + 1)) (lv' := [(0, .ref (ad 0)), (1, .int (nI ((lsA P).getD i 0))), (2, .int (wo P ((lsA P).getD i 0))), (3, .int (nI (i + 1))), (4, .int (wo P ((lsA P).getD i 0)))]) C dX7_bestSetting_78 3 rfl (nI_add i 1) (by decide) rfl rfl rfl ?_
          refine x_goto (tgt := 22) C dX7_bestSetting_81 (by decide) ?_
          refine x_lv [0, 1, 2, 3] rfl ?_
          exact ih22 (i + 1) (some i) _ (by omega) (by first | exact (nxo_in0 (f := wl P (lsA P)) (n := i) (mi_le _) ho.symm).symm | exact (nxo_in1 (f := wl P (lsA P)) (n := i) (mi_le _) ho.symm (fa_of_nle c63)).symm) (opn_keep hO (hT49 27 (by decide)) (hT49 14 (by decide))) (by omega)
        · obtain ⟨j, rfl⟩ := nov_some c57
          refine x_iload (q := 62) C dX7_bestSetting_60 4 rfl rfl ?_
          refine x_iload_n (q := 63) C dX7_bestSetting_62 rfl 2 rfl rfl ?_
          refine x_icmp_le (q := 66) (tgt := 78) C dX7_bestSetting_63 (by decide) rfl (fun c63 => ?_) (fun c63 => ?_)
          · refine x_iinc (q := 81) (v := nI (i + 1)) (lv' := [(0, .ref (ad 0)), (1, .int (nov (lsA P) (some j))), (2, .int (wov P (some j))), (3, .int (nI (i + 1))), (4, .int (wo P ((lsA P).getD i 0)))]) C dX7_bestSetting_78 3 rfl (nI_add i 1) (by decide) rfl rfl rfl ?_
            refine x_goto (tgt := 22) C dX7_bestSetting_81 (by decide) ?_
            refine x_lv [0, 1, 2, 3] rfl ?_
            exact ih22 (i + 1) (some j) _ (by omega) (nxo_no (f := wl P (lsA P)) (n := i) ho.symm c63).symm (opn_keep hO (hT49 27 (by decide)) (hT49 14 (by decide))) (by omega)
          · refine x_aload_n (q := 67) C dX7_bestSetting_66 rfl 0 rfl rfl ?_
            refine xg_X7_open (q := 70) C tfl_X7_40 dX7_bestSetting_67 rfl ?_
            refine x_iload_n (q := 71) C dX7_bestSetting_70 rfl 3 rfl rfl ?_
            refine x_Vf (q := 74) (As := [.int (nI i)]) (rest := []) C (c_X3_settingAt hD i (by omega)) xs_X3_settingAt tim_X3_settingAt tsel_X3_settingAt tml_X7_225 (by decide) 5 rfl (ci := 3) rfl rfl rfl (Nat.le_of_ble_eq_true rfl) dX7_bestSetting_71 rfl ?_
            refine x_topn ((lsA P).getD i 0) (by rw [hT49 14 (by decide)]; exact hO.2 i (by omega)) ?_
            refine x_istore_n (q := 75) (lv' := [(0, .ref (ad 0)), (1, .int (nI ((lsA P).getD i 0))), (2, .int (wov P (some j))), (3, .int (nI i)), (4, .int (wo P ((lsA P).getD i 0)))]) C dX7_bestSetting_74 rfl (by decide) rfl rfl rfl ?_
            refine x_iload (q := 77) C dX7_bestSetting_75 4 rfl rfl ?_
            refine x_istore_n (q := 78) (lv' := [(0, .ref (ad 0)), (1, .int (nI ((lsA P).getD i 0))), (2, .int (wo P ((lsA P).getD i 0))), (3, .int (nI i)), (4, .int (wo P ((lsA P).getD i 0)))]) C dX7_bestSetting_77 rfl (by decide) rfl rfl rfl ?_
            refine x_iinc (q := 81) (v := nI (i + 1)) (lv' := [(0, .ref (ad 0)), (1, .int (nI ((lsA P).getD i 0))), (2, .int (wo P ((lsA P).getD i 0))), (3, .int (nI (i + 1))), (4, .int (wo P ((lsA P).getD i 0)))]) C dX7_bestSetting_78 3 rfl (nI_add i 1) (by decide) rfl rfl rfl ?_
            refine x_goto (tgt := 22) C dX7_bestSetting_81 (by decide) ?_
            refine x_lv [0, 1, 2, 3] rfl ?_
            exact ih22 (i + 1) (some i) _ (by omega) (by first | exact (nxo_in0 (f := wl P (lsA P)) (n := i) (mi_le _) ho.symm).symm | exact (nxo_in1 (f := wl P (lsA P)) (n := i) (mi_le _) ho.symm (fa_of_nle c63)).symm) (opn_keep hO (hT49 27 (by decide)) (hT49 14 (by decide))) (by omega)
  exact L22 _ 0 none _ (Nat.zero_le _) rfl hO12 (Nat.lt_succ_self _)

set_option maxRecDepth 100000 in
set_option maxHeartbeats 4000000 in
theorem c_X7_best (hD : ∀ P T, va_D A (wX ad cI cZ P T)) {P T : St} (ok : okX P) (x : Int32) : XMI l D (tyz cI cZ) (wX ad cI cZ) A yX7_best cX7_best 3 (some .int) rmX7_best [.ref (ad 0), .int x] P T (fun r P' _ => r = FbestX P x ∧ P' = P) := by
  have okc := ok.1
  have hk6 := okc_kn6 okc
  have hS144 := okc_S144 okc
  have hS1 := okc_S1 okc
  have hnr := okc_nr12 okc
  have hnt := okc_nt60 okc
  have hnz := okc_nz50 okc
  have hsd := okc_sdb okc
  have hLl := lsA_len okc
  have hLb := lsA_b okc
  refine x_start_i (lv := [(0, .ref (ad 0)), (1, .int x)]) (own := RX7) (by decide) rfl hD (Nat.le_of_ble_eq_true rfl) rfl ?_
  intro p e s m args below meth c C
  refine x_iload_n (q := 1) C dX7_best_0 rfl 1 rfl rfl ?_
  refine x_iconst (q := 2) (v := nI 0) C dX7_best_1 (by decide) rfl ?_
  refine x_iconst (q := 3) (v := nI 1) C dX7_best_2 (by decide) rfl ?_
  refine x_Sf (q := 6) (As := [.int x, .int (nI 0), .int (nI 1)]) (rest := []) C (c_X7_isWithin hD x (nI 0) (nI 1) ) xs_X7_isWithin tst_X7_isWithin tml_X7_58 (by decide) rfl rfl (Nat.le_of_ble_eq_true rfl) dX7_best_3 rfl ?_
  refine x_if_ne_b (q := 9) (tgt := 12) C dX7_best_6 (by decide) rfl (fun c6 => ?_) (fun c6 => ?_)
  · refine x_aload_n (q := 13) C dX7_best_12 rfl 0 rfl rfl ?_
    refine x_Vi (q := 16) (As := []) (rest := []) C (c_X7_bestSetting hD ok) xs_X7_bestSetting tim_X7_bestSetting tsel_X7_bestSetting tml_X7_144 (by decide) 0 rfl (ci := 7) rfl rfl rfl (Nat.le_of_ble_eq_true rfl) dX7_best_13 rfl (fun rz Pz T13 hg => ?_)
    obtain ⟨hrz, hPz⟩ := hg
    rw [hrz, hPz]; clear hrz hPz Pz rz
    refine x_istore_n (q := 17) (lv' := [(0, .ref (ad 0)), (1, .int x), (2, .int (nov (lsA P) (bso P (lsA P).length)))]) C dX7_best_16 rfl (by decide) rfl rfl rfl ?_
    refine x_iload_n (q := 18) C dX7_best_17 rfl 1 rfl rfl ?_
    refine x_iconst (q := 19) (v := nI 1) C dX7_best_18 (by decide) rfl ?_
    refine x_icmp_ne (q := 22) (tgt := 24) C dX7_best_19 (by decide) rfl (fun c19 => ?_) (fun c19 => ?_)
    · refine x_iload_n (q := 25) C dX7_best_24 rfl 2 rfl rfl ?_
      refine x_bipush (q := 27) (v := (-4)) C dX7_best_25 (by decide) rfl ?_
      refine x_icmp_ne (q := 30) (tgt := 35) C dX7_best_27 (by decide) rfl (fun c27 => ?_) (fun c27 => ?_)
      · obtain ⟨j, hj⟩ := nov_some c27
        have hjl := nxo_lt hj
        have hg := lsA_get (P := P) (i := j) hjl
        rw [hj]
        rw [show nov (lsA P) (some j) = nI ((lsA P).getD j 0) from rfl]
        refine x_aload_n (q := 36) C dX7_best_35 rfl 0 rfl rfl ?_
        refine xg_X7_effects (q := 39) C tfl_X7_26 dX7_best_36 rfl ?_
        refine x_iload_n (q := 40) C dX7_best_39 rfl 2 rfl rfl ?_
        refine x_aload_n (q := 41) C dX7_best_40 rfl 0 rfl rfl ?_
        refine xg_X7_knobs (q := 44) C tfl_X7_10 dX7_best_41 rfl ?_
        refine x_Vi (q := 47) (As := [.int (nI ((lsA P).getD j 0)), .ref (ad 1)]) (rest := []) C (c_X1_sumFor hD ok ((lsA P).getD j 0) (by omega)) xs_X1_sumFor tim_X1_sumFor tsel_X1_sumFor tml_X7_139 (by decide) 3 rfl (ci := 1) rfl rfl rfl (Nat.le_of_ble_eq_true rfl) dX7_best_44 rfl (fun rz Pz T44 hT44 => ?_)
        obtain ⟨hrz, hPz, hT44⟩ := hT44
        rw [hrz, hPz]; clear hrz hPz Pz rz
        exact x_iret C dX7_best_47 ⟨by rw [FbestX, if_pos c6, if_neg c19, hj]; rfl, rfl⟩
      · have hb0 : bso P (lsA P).length = none := nov_none hLb (Nat.le_refl _) (fun j hj => nxo_lt hj) c27
        refine x_ldc (q := 32) C tk_X7_138 dX7_best_30 rfl ?_
        refine x_goto (tgt := 47) C dX7_best_32 (by decide) ?_
        exact x_iret C dX7_best_47 ⟨by rw [FbestX, if_pos c6, if_neg c19, hb0], rfl⟩
    · refine x_iload_n (q := 23) C dX7_best_22 rfl 2 rfl rfl ?_
      exact x_iret C dX7_best_23 ⟨by rw [FbestX, if_pos c6, if_pos c19], rfl⟩
  · refine x_ldc (q := 11) C tk_X7_143 dX7_best_9 rfl ?_
    exact x_iret C dX7_best_11 ⟨if_f c6, rfl⟩

set_option maxRecDepth 100000 in
set_option maxHeartbeats 4000000 in
theorem c_X7_isToldSmoothnessTrue (hD : ∀ P T, va_D A (wX ad cI cZ P T)) {P T : St} (ok : okX P) (hO : opn T (lsA P)) : XMI l D (tyz cI cZ) (wX ad cI cZ) A yX7_isToldSmoothnessTrue cX7_isToldSmoothnessTrue 4 (some .boolean) rmX7_isToldSmoothnessTrue [.ref (ad 0)] P T (fun r P' _ => r = bI (smP P) ∧ P' = P) := by
  have okc := ok.1
  have hk6 := okc_kn6 okc
  have hS144 := okc_S144 okc
  have hS1 := okc_S1 okc
  have hnr := okc_nr12 okc
  have hnt := okc_nt60 okc
  have hnz := okc_nz50 okc
  have hsd := okc_sdb okc
  have hLl := lsA_len okc
  have hLb := lsA_b okc
  refine x_start_i (lv := [(0, .ref (ad 0))]) (own := RX7) (by decide) rfl hD (Nat.le_of_ble_eq_true rfl) rfl ?_
  intro p e s m args below meth c C
  refine x_aload_n (q := 1) C dX7_isToldSmoothnessTrue_0 rfl 0 rfl rfl ?_
  refine xg_X7_open (q := 4) C tfl_X7_40 dX7_isToldSmoothnessTrue_1 rfl ?_
  refine x_aload_n (q := 5) C dX7_isToldSmoothnessTrue_4 rfl 0 rfl rfl ?_
  refine xg_X7_knobs (q := 8) C tfl_X7_10 dX7_isToldSmoothnessTrue_5 rfl ?_
  refine x_aload_n (q := 9) C dX7_isToldSmoothnessTrue_8 rfl 0 rfl rfl ?_
  refine xg_X7_effects (q := 12) C tfl_X7_26 dX7_isToldSmoothnessTrue_9 rfl ?_
  refine x_Vv (q := 15) (As := [.ref (ad 1), .ref (ad 3)]) (rest := []) C (c_X3_weigh hD ok (lsA P) hO hLl hLb) xs_X3_weigh tim_X3_weigh tsel_X3_weigh tml_X7_226 (by decide) 5 rfl (ci := 3) rfl rfl rfl (Nat.le_of_ble_eq_true rfl) dX7_isToldSmoothnessTrue_12 rfl (fun Pz T12 hg => ?_)
  obtain ⟨hPz, hT12, hW12⟩ := hg
  rw [hPz]; clear hPz Pz
  refine x_iconst (q := 16) (v := nI 1) C dX7_isToldSmoothnessTrue_15 (by decide) rfl ?_
  refine x_istore_n (q := 17) (lv' := [(0, .ref (ad 0)), (1, .int (nI 1))]) C dX7_isToldSmoothnessTrue_16 rfl (by decide) rfl rfl rfl ?_
  have L17 : ∀ (f4 : Nat) (i : Nat), (1 ≤ i ∧ (i ≤ (lsA P).length ∨ i = 1)) → (∀ a, a < i → a < (lsA P).length → ∀ b, b < a → smo P a b) → (lsA P).length + 1 - i < f4 → XW p l e rmX7_isToldSmoothnessTrue s m args below meth c D (wX ad cI cZ) A 4 (MQ below (XPI D (tyz cI cZ) (wX ad cI cZ) A (fun r P' _ => r = bI (smP P) ∧ P' = P)) args s 0 0 A) 17 [(0, .ref (ad 0)), (1, .int (nI i))] [] P T12 := by
    intro f4
    induction f4 with
    | zero => intro i hi hq hm; exact absurd hm (Nat.not_lt_zero _)
    | succ f4 ih17 =>
      intro i hi hq hm17
      refine x_iload_n (q := 18) C dX7_isToldSmoothnessTrue_17 rfl 1 rfl rfl ?_
      refine x_aload_n (q := 19) C dX7_isToldSmoothnessTrue_18 rfl 0 rfl rfl ?_
      refine xg_X7_open (q := 22) C tfl_X7_40 dX7_isToldSmoothnessTrue_19 rfl ?_
      refine x_Vf (q := 25) (As := []) (rest := [.int (nI i)]) C (c_X3_howMany hD ) xs_X3_howMany tim_X3_howMany tsel_X3_howMany tml_X7_137 (by decide) 5 rfl (ci := 3) rfl rfl rfl (Nat.le_of_ble_eq_true rfl) dX7_isToldSmoothnessTrue_22 rfl ?_
      refine x_topn ((lsA P).length) (by rw [hT12 27 (by decide) (by decide)]; exact hO.1) ?_
      refine x_icmp_ge_n (q := 28) (tgt := 97) C dX7_isToldSmoothnessTrue_25 (by omega) (by omega) (by decide) rfl (fun c25 => ?_) (fun c25 => ?_)
      · refine x_iconst (q := 98) (v := nI 1) C dX7_isToldSmoothnessTrue_97 (by decide) rfl ?_
        exact x_zret C dX7_isToldSmoothnessTrue_98 rfl ⟨bI_t (fun a ha => hq a (by omega) ha), rfl⟩
      · have hgi := lsA_get (P := P) (i := i) (by omega)
        refine x_iconst (q := 29) (v := nI 0) C dX7_isToldSmoothnessTrue_28 (by decide) rfl ?_
        refine x_istore_n (q := 30) (lv' := [(0, .ref (ad 0)), (1, .int (nI i)), (2, .int (nI 0))]) C dX7_isToldSmoothnessTrue_29 rfl (by decide) rfl rfl rfl ?_
        have L30 : ∀ (f5 : Nat) (j : Nat), (j ≤ i) → (∀ b, b < j → smo P i b) → i - j < f5 → XW p l e rmX7_isToldSmoothnessTrue s m args below meth c D (wX ad cI cZ) A 4 (MQ below (XPI D (tyz cI cZ) (wX ad cI cZ) A (fun r P' _ => r = bI (smP P) ∧ P' = P)) args s 0 0 A) 30 [(0, .ref (ad 0)), (1, .int (nI i)), (2, .int (nI j))] [] P T12 := by
          intro f5
          induction f5 with
          | zero => intro j hj hr hm; exact absurd hm (Nat.not_lt_zero _)
          | succ f5 ih30 =>
            intro j hj hr hm30
            refine x_iload_n (q := 31) C dX7_isToldSmoothnessTrue_30 rfl 2 rfl rfl ?_
            refine x_iload_n (q := 32) C dX7_isToldSmoothnessTrue_31 rfl 1 rfl rfl ?_
            refine x_icmp_ge_n (q := 35) (tgt := 91) C dX7_isToldSmoothnessTrue_32 (by omega) (by omega) (by decide) rfl (fun c32 => ?_) (fun c32 => ?_)
            · refine x_iinc (q := 94) (v := nI (i + 1)) (lv' := [(0, .ref (ad 0)), (1, .int (nI (i + 1))), (2, .int (nI j))]) C dX7_isToldSmoothnessTrue_91 1 rfl (nI_add i 1) (by decide) rfl rfl rfl ?_
              refine x_goto (tgt := 17) C dX7_isToldSmoothnessTrue_94 (by decide) ?_
              refine x_lv [0, 1] rfl ?_
              exact ih17 (i + 1) (by omega) (lt_s hq (fun _ b hb => hr b (by omega))) (by omega)
            · have hgj := lsA_get (P := P) (i := j) (by omega)
              refine x_aload_n (q := 36) C dX7_isToldSmoothnessTrue_35 rfl 0 rfl rfl ?_
              refine xg_X7_open (q := 39) C tfl_X7_40 dX7_isToldSmoothnessTrue_36 rfl ?_
              refine x_iload_n (q := 40) C dX7_isToldSmoothnessTrue_39 rfl 1 rfl rfl ?_
              refine x_Vf (q := 43) (As := [.int (nI i)]) (rest := []) C (c_X3_worthAt hD i (by omega)) xs_X3_worthAt tim_X3_worthAt tsel_X3_worthAt tml_X7_230 (by decide) 5 rfl (ci := 3) rfl rfl rfl (Nat.le_of_ble_eq_true rfl) dX7_isToldSmoothnessTrue_40 rfl ?_
              refine x_aload_n (q := 44) C dX7_isToldSmoothnessTrue_43 rfl 0 rfl rfl ?_
              refine xg_X7_open (q := 47) C tfl_X7_40 dX7_isToldSmoothnessTrue_44 rfl ?_
              refine x_iload_n (q := 48) C dX7_isToldSmoothnessTrue_47 rfl 2 rfl rfl ?_
              refine x_Vf (q := 51) (As := [.int (nI j)]) (rest := [.int (T12 15 i)]) C (c_X3_worthAt hD j (by omega)) xs_X3_worthAt tim_X3_worthAt tsel_X3_worthAt tml_X7_230 (by decide) 5 rfl (ci := 3) rfl rfl rfl (Nat.le_of_ble_eq_true rfl) dX7_isToldSmoothnessTrue_48 rfl ?_
              refine x_isub (q := 52) C dX7_isToldSmoothnessTrue_51 rfl ?_
              refine x_mabs (q := 55) C tml_X7_233 tst_Mabs tini_Math tco_Mabs (by decide) (Nat.le_of_ble_eq_true rfl) dX7_isToldSmoothnessTrue_52 rfl ?_
              refine x_topi (fun z6 hz6 => ?_)
              refine x_istore_n (q := 56) (lv' := [(0, .ref (ad 0)), (1, .int (nI i)), (2, .int (nI j)), (3, .int z6)]) C dX7_isToldSmoothnessTrue_55 rfl (by decide) rfl rfl rfl ?_
              have hzz := hz6
              refine x_iload_n (q := 57) C dX7_isToldSmoothnessTrue_56 rfl 3 rfl rfl ?_
              refine x_aload_n (q := 58) C dX7_isToldSmoothnessTrue_57 rfl 0 rfl rfl ?_
              refine xg_X7_knobs (q := 61) C tfl_X7_10 dX7_isToldSmoothnessTrue_58 rfl ?_
              refine x_aload_n (q := 62) C dX7_isToldSmoothnessTrue_61 rfl 0 rfl rfl ?_
              refine xg_X7_open (q := 65) C tfl_X7_40 dX7_isToldSmoothnessTrue_62 rfl ?_
              refine x_iload_n (q := 66) C dX7_isToldSmoothnessTrue_65 rfl 1 rfl rfl ?_
              refine x_Vf (q := 69) (As := [.int (nI i)]) (rest := [.ref (ad 1), .int z6]) C (c_X3_settingAt hD i (by omega)) xs_X3_settingAt tim_X3_settingAt tsel_X3_settingAt tml_X7_225 (by decide) 5 rfl (ci := 3) rfl rfl rfl (Nat.le_of_ble_eq_true rfl) dX7_isToldSmoothnessTrue_66 rfl ?_
              refine x_topn ((lsA P).getD i 0) (by rw [hT12 14 (by decide) (by decide)]; exact hO.2 i (by omega)) ?_
              refine x_aload_n (q := 70) C dX7_isToldSmoothnessTrue_69 rfl 0 rfl rfl ?_
              refine xg_X7_open (q := 73) C tfl_X7_40 dX7_isToldSmoothnessTrue_70 rfl ?_
              refine x_iload_n (q := 74) C dX7_isToldSmoothnessTrue_73 rfl 2 rfl rfl ?_
              refine x_Vf (q := 77) (As := [.int (nI j)]) (rest := [.int (nI ((lsA P).getD i 0)), .ref (ad 1), .int z6]) C (c_X3_settingAt hD j (by omega)) xs_X3_settingAt tim_X3_settingAt tsel_X3_settingAt tml_X7_225 (by decide) 5 rfl (ci := 3) rfl rfl rfl (Nat.le_of_ble_eq_true rfl) dX7_isToldSmoothnessTrue_74 rfl ?_
              refine x_topn ((lsA P).getD j 0) (by rw [hT12 14 (by decide) (by decide)]; exact hO.2 j (by omega)) ?_
              refine x_Vf (q := 80) (As := [.int (nI ((lsA P).getD i 0)), .int (nI ((lsA P).getD j 0))]) (rest := [.int z6]) C (c_X2_off hD ok ((lsA P).getD i 0) ((lsA P).getD j 0) (by omega) (by omega)) xs_X2_off tim_X2_off tsel_X2_off tml_X7_238 (by decide) 1 rfl (ci := 2) rfl rfl rfl (Nat.le_of_ble_eq_true rfl) dX7_isToldSmoothnessTrue_77 rfl ?_
              refine x_icmp_le (q := 83) (tgt := 85) C dX7_isToldSmoothnessTrue_80 (by decide) rfl (fun c80 => ?_) (fun c80 => ?_)
              · refine x_iinc (q := 88) (v := nI (j + 1)) (lv' := [(0, .ref (ad 0)), (1, .int (nI i)), (2, .int (nI (j + 1))), (3, .int z6)]) C dX7_isToldSmoothnessTrue_85 2 rfl (nI_add j 1) (by decide) rfl rfl rfl ?_
                refine x_goto (tgt := 30) C dX7_isToldSmoothnessTrue_88 (by decide) ?_
                refine x_lv [0, 1, 2] rfl ?_
                exact ih30 (j + 1) (by omega) (lt_s hr (by rw [smo, show wl P (lsA P) i = T12 15 i from (hW12 i (by omega)).symm, show wl P (lsA P) j = T12 15 j from (hW12 j (by omega)).symm]; rw [hzz] at c80; exact c80)) (by omega)
              · refine x_iconst (q := 84) (v := nI 0) C dX7_isToldSmoothnessTrue_83 (by decide) rfl ?_
                exact x_zret C dX7_isToldSmoothnessTrue_84 rfl ⟨bI_f (fun h => c80 (by have e := h i (by omega) j (by omega); rw [smo, show wl P (lsA P) i = T12 15 i from (hW12 i (by omega)).symm, show wl P (lsA P) j = T12 15 j from (hW12 j (by omega)).symm] at e; rw [hzz]; exact e)), rfl⟩
        exact L30 _ 0 (Nat.zero_le _) (fun b hb => absurd hb (Nat.not_lt_zero b)) (Nat.lt_succ_self _)
  exact L17 _ 1 ⟨Nat.le_refl _, Or.inr rfl⟩ (fun a ha _ b hb => by omega) (Nat.lt_succ_self _)

set_option maxRecDepth 100000 in
set_option maxHeartbeats 4000000 in
theorem c_X7_left (hD : ∀ P T, va_D A (wX ad cI cZ P T)) {P T : St} (ok : okX P) (x : Int32) : XMI l D (tyz cI cZ) (wX ad cI cZ) A yX7_left cX7_left 2 (some .int) rmX7_left [.ref (ad 0), .int x] P T (fun r P' _ => r = FleftX P x ∧ P' = P) := by
  have okc := ok.1
  have hk6 := okc_kn6 okc
  have hS144 := okc_S144 okc
  have hS1 := okc_S1 okc
  have hnr := okc_nr12 okc
  have hnt := okc_nt60 okc
  have hnz := okc_nz50 okc
  have hsd := okc_sdb okc
  have hLl := lsA_len okc
  have hLb := lsA_b okc
  refine x_start_i (lv := [(0, .ref (ad 0)), (1, .int x)]) (own := RX7) (by decide) rfl hD (Nat.le_of_ble_eq_true rfl) rfl ?_
  intro p e s m args below meth c C
  refine x_iload_n (q := 1) C dX7_left_0 rfl 1 rfl rfl ?_
  refine x_iconst (q := 2) (v := nI 0) C dX7_left_1 (by decide) rfl ?_
  refine x_iconst (q := 3) (v := nI 2) C dX7_left_2 (by decide) rfl ?_
  refine x_Sf (q := 6) (As := [.int x, .int (nI 0), .int (nI 2)]) (rest := []) C (c_X7_isWithin hD x (nI 0) (nI 2) ) xs_X7_isWithin tst_X7_isWithin tml_X7_58 (by decide) rfl rfl (Nat.le_of_ble_eq_true rfl) dX7_left_3 rfl ?_
  refine x_if_ne_b (q := 9) (tgt := 11) C dX7_left_6 (by decide) rfl (fun c6 => ?_) (fun c6 => ?_)
  · refine x_aload_n (q := 12) C dX7_left_11 rfl 0 rfl rfl ?_
    refine xg_X7_open (q := 15) C tfl_X7_40 dX7_left_12 rfl ?_
    refine x_aload_n (q := 16) C dX7_left_15 rfl 0 rfl rfl ?_
    refine xg_X7_knobs (q := 19) C tfl_X7_10 dX7_left_16 rfl ?_
    refine x_aload_n (q := 20) C dX7_left_19 rfl 0 rfl rfl ?_
    refine xg_X7_rules (q := 23) C tfl_X7_19 dX7_left_20 rfl ?_
    refine x_Vv (q := 26) (As := [.ref (ad 1), .ref (ad 2)]) (rest := []) C (c_X3_gather hD ok) xs_X3_gather tim_X3_gather tsel_X3_gather tml_X7_133 (by decide) 5 rfl (ci := 3) rfl rfl rfl (Nat.le_of_ble_eq_true rfl) dX7_left_23 rfl (fun Pz T23 hg => ?_)
    obtain ⟨hPz, hT23, hO23⟩ := hg
    rw [hPz]; clear hPz Pz
    refine x_iload_n (q := 27) C dX7_left_26 rfl 1 rfl rfl ?_
    refine x_iconst (q := 28) (v := nI 2) C dX7_left_27 (by decide) rfl ?_
    refine x_icmp_ne (q := 31) (tgt := 44) C dX7_left_28 (by decide) rfl (fun c28 => ?_) (fun c28 => ?_)
    · refine x_aload_n (q := 45) C dX7_left_44 rfl 0 rfl rfl ?_
      refine xg_X7_bounds (q := 48) C tfl_X7_47 dX7_left_45 rfl ?_
      refine x_aload_n (q := 49) C dX7_left_48 rfl 0 rfl rfl ?_
      refine xg_X7_trials (q := 52) C tfl_X7_33 dX7_left_49 rfl ?_
      refine x_aload_n (q := 53) C dX7_left_52 rfl 0 rfl rfl ?_
      refine xg_X7_knobs (q := 56) C tfl_X7_10 dX7_left_53 rfl ?_
      refine x_Vv (q := 59) (As := [.ref (ad 4), .ref (ad 1)]) (rest := []) C (c_X0_measureAll hD ok) xs_X0_measureAll tim_X0_measureAll tsel_X0_measureAll tml_X7_175 (by decide) 6 rfl (ci := 0) rfl rfl rfl (Nat.le_of_ble_eq_true rfl) dX7_left_56 rfl (fun Pz T56 hg => ?_)
      obtain ⟨hPz, hT56, hF56, hR56⟩ := hg
      rw [hPz]; clear hPz Pz
      have hO : opn T56 (lsA P) := opn_keep hO23 (hT56 27 (by decide) (by decide)) (hT56 14 (by decide) (by decide))
      have hms : msd P T56 := ⟨hO, hF56, hR56⟩
      refine x_iload_n (q := 60) C dX7_left_59 rfl 1 rfl rfl ?_
      refine x_if_ne (q := 63) (tgt := 77) C dX7_left_60 (by decide) rfl (fun c60 => ?_) (fun c60 => ?_)
      · refine x_aload_n (q := 78) C dX7_left_77 rfl 0 rfl rfl ?_
        refine xg_X7_bounds (q := 81) C tfl_X7_47 dX7_left_78 rfl ?_
        refine x_aload_n (q := 82) C dX7_left_81 rfl 0 rfl rfl ?_
        refine xg_X7_open (q := 85) C tfl_X7_40 dX7_left_82 rfl ?_
        refine x_Vf (q := 88) (As := [.ref (ad 5)]) (rest := []) C (c_X0_nextOf hD (lsA P) hO hLl hLb ) xs_X0_nextOf tim_X0_nextOf tsel_X0_nextOf tml_X7_183 (by decide) 6 rfl (ci := 0) rfl rfl rfl (Nat.le_of_ble_eq_true rfl) dX7_left_85 rfl ?_
        exact x_iret C dX7_left_88 ⟨by rw [FleftX, if_pos c6, if_neg c28]; rw [if_neg c60, ← no_eq hms], rfl⟩
      · refine x_aload_n (q := 64) C dX7_left_63 rfl 0 rfl rfl ?_
        refine xg_X7_bounds (q := 67) C tfl_X7_47 dX7_left_64 rfl ?_
        refine x_aload_n (q := 68) C dX7_left_67 rfl 0 rfl rfl ?_
        refine xg_X7_open (q := 71) C tfl_X7_40 dX7_left_68 rfl ?_
        refine x_Vf (q := 74) (As := [.ref (ad 5)]) (rest := []) C (c_X0_howManyLeft hD (lsA P) hO hLl hLb ) xs_X0_howManyLeft tim_X0_howManyLeft tsel_X0_howManyLeft tml_X7_179 (by decide) 6 rfl (ci := 0) rfl rfl rfl (Nat.le_of_ble_eq_true rfl) dX7_left_71 rfl ?_
        refine x_goto (tgt := 88) C dX7_left_74 (by decide) ?_
        exact x_iret C dX7_left_88 ⟨by rw [FleftX, if_pos c6, if_neg c28]; rw [if_pos c60, ← lm_eq hms], rfl⟩
    · refine x_aload_n (q := 32) C dX7_left_31 rfl 0 rfl rfl ?_
      refine x_Vi (q := 35) (As := []) (rest := []) C (c_X7_isToldSmoothnessTrue hD ok hO23) xs_X7_isToldSmoothnessTrue tim_X7_isToldSmoothnessTrue tsel_X7_isToldSmoothnessTrue tml_X7_172 (by decide) 0 rfl (ci := 7) rfl rfl rfl (Nat.le_of_ble_eq_true rfl) dX7_left_32 rfl (fun rz Pz T32 hg => ?_)
      obtain ⟨hrz, hPz⟩ := hg
      rw [hrz, hPz]; clear hrz hPz Pz rz
      refine x_if_eq_b (q := 38) (tgt := 42) C dX7_left_35 (by decide) rfl (fun c35 => ?_) (fun c35 => ?_)
      · refine x_iconst (q := 43) (v := nI 0) C dX7_left_42 (by decide) rfl ?_
        exact x_iret C dX7_left_43 ⟨by rw [FleftX, if_pos c6, if_pos c28]; exact bI_f c35, rfl⟩
      · refine x_iconst (q := 39) (v := nI 1) C dX7_left_38 (by decide) rfl ?_
        refine x_goto (tgt := 43) C dX7_left_39 (by decide) ?_
        exact x_iret C dX7_left_43 ⟨by rw [FleftX, if_pos c6, if_pos c28]; exact bI_t c35, rfl⟩
  · refine x_iconst (q := 10) (v := (-1)) C dX7_left_9 (by decide) rfl ?_
    exact x_iret C dX7_left_10 ⟨if_f c6, rfl⟩

set_option maxRecDepth 100000 in
set_option maxHeartbeats 4000000 in
theorem c_X7_nextToSearch (hD : ∀ P T, va_D A (wX ad cI cZ P T)) {P T : St} (ok : okX P) (hms : msd P T) : XMI l D (tyz cI cZ) (wX ad cI cZ) A yX7_nextToSearch cX7_nextToSearch 2 (some .int) rmX7_nextToSearch [.ref (ad 0)] P T (fun r P' T' => r = onv (nts P) ∧ P' = P ∧ T' = T) := by
  have okc := ok.1
  have hk6 := okc_kn6 okc
  have hS144 := okc_S144 okc
  have hS1 := okc_S1 okc
  have hnr := okc_nr12 okc
  have hnt := okc_nt60 okc
  have hnz := okc_nz50 okc
  have hsd := okc_sdb okc
  have hLl := lsA_len okc
  have hLb := lsA_b okc
  have hO := hms.1
  refine x_start_i (lv := [(0, .ref (ad 0))]) (own := RX7) (by decide) rfl hD (Nat.le_of_ble_eq_true rfl) rfl ?_
  intro p e s m args below meth c C
  refine x_aload_n (q := 1) C dX7_nextToSearch_0 rfl 0 rfl rfl ?_
  refine xg_X7_trials (q := 4) C tfl_X7_33 dX7_nextToSearch_1 rfl ?_
  refine x_Vf (q := 7) (As := []) (rest := []) C (c_X6_isFull hD ) xs_X6_isFull tim_X6_isFull tsel_X6_isFull tml_X7_147 (by decide) 4 rfl (ci := 6) rfl rfl rfl (Nat.le_of_ble_eq_true rfl) dX7_nextToSearch_4 rfl ?_
  refine x_if_ne_b (q := 10) (tgt := 25) C dX7_nextToSearch_7 (by decide) rfl (fun c7 => ?_) (fun c7 => ?_)
  · refine x_bipush (q := 27) (v := (-4)) C dX7_nextToSearch_25 (by decide) rfl ?_
    exact x_iret C dX7_nextToSearch_27 (by first | exact ⟨by rw [nts, if_pos (Or.inl c7)]; rfl, rfl, rfl⟩ | exact ⟨by rw [nts, if_pos (Or.inr c22)]; rfl, rfl, rfl⟩ | exact ⟨by rw [nts, if_neg (fun h => h.elim c7 c22), hj]; dsimp only; rw [if_pos ⟨c53, Decidable.byContradiction (fun q => c66 ((foX_4 hnt).mpr q))⟩]; rfl, rfl, rfl⟩)
  · refine x_aload_n (q := 11) C dX7_nextToSearch_10 rfl 0 rfl rfl ?_
    refine xg_X7_bounds (q := 14) C tfl_X7_47 dX7_nextToSearch_11 rfl ?_
    refine x_aload_n (q := 15) C dX7_nextToSearch_14 rfl 0 rfl rfl ?_
    refine xg_X7_open (q := 18) C tfl_X7_40 dX7_nextToSearch_15 rfl ?_
    refine x_Vf (q := 21) (As := [.ref (ad 5)]) (rest := []) C (c_X0_howManyLeft hD (lsA P) hO hLl hLb ) xs_X0_howManyLeft tim_X0_howManyLeft tsel_X0_howManyLeft tml_X7_179 (by decide) 6 rfl (ci := 0) rfl rfl rfl (Nat.le_of_ble_eq_true rfl) dX7_nextToSearch_18 rfl ?_
    refine x_topn (lmP P) (by rw [lm_eq hms]) ?_
    refine x_iconst (q := 22) (v := nI 1) C dX7_nextToSearch_21 (by decide) rfl ?_
    refine x_icmp_ne_n (q := 25) (tgt := 28) C dX7_nextToSearch_22 (by have := fa_cnt_le (fun i => decide (barP P ≤ lr P i)) (lsA P).length; unfold lmP; omega) (by omega) (by decide) rfl (fun c22 => ?_) (fun c22 => ?_)
    · refine x_aload_n (q := 29) C dX7_nextToSearch_28 rfl 0 rfl rfl ?_
      refine xg_X7_bounds (q := 32) C tfl_X7_47 dX7_nextToSearch_29 rfl ?_
      refine x_aload_n (q := 33) C dX7_nextToSearch_32 rfl 0 rfl rfl ?_
      refine xg_X7_open (q := 36) C tfl_X7_40 dX7_nextToSearch_33 rfl ?_
      refine x_Vf (q := 39) (As := [.ref (ad 5)]) (rest := []) C (c_X0_nextOf hD (lsA P) hO hLl hLb ) xs_X0_nextOf tim_X0_nextOf tsel_X0_nextOf tml_X7_183 (by decide) 6 rfl (ci := 0) rfl rfl rfl (Nat.le_of_ble_eq_true rfl) dX7_nextToSearch_36 rfl ?_
      refine x_tope (nov (lsA P) (noP P)) (no_eq hms) ?_
      refine x_istore_n (q := 40) (lv' := [(0, .ref (ad 0)), (1, .int (nov (lsA P) (noP P)))]) C dX7_nextToSearch_39 rfl (by decide) rfl rfl rfl ?_
      refine x_iload_n (q := 41) C dX7_nextToSearch_40 rfl 1 rfl rfl ?_
      refine x_bipush (q := 43) (v := (-4)) C dX7_nextToSearch_41 (by decide) rfl ?_
      refine x_icmp_eq (q := 46) (tgt := 72) C dX7_nextToSearch_43 (by decide) rfl (fun c43 => ?_) (fun c43 => ?_)
      · have hn0 : noP P = none := nov_none hLb (Nat.le_refl _) (fun j hj => nxo_lt hj) c43
        refine x_iload_n (q := 73) C dX7_nextToSearch_72 rfl 1 rfl rfl ?_
        exact x_iret C dX7_nextToSearch_73 ⟨by rw [nts, if_neg (fun h => h.elim c7 c22), hn0]; rfl, rfl, rfl⟩
      · obtain ⟨j, hj⟩ := nov_some c43
        have hjl := nxo_lt hj
        have hg := lsA_get (P := P) (i := j) hjl
        rw [hj]
        rw [show nov (lsA P) (some j) = nI ((lsA P).getD j 0) from rfl]
        refine x_aload_n (q := 47) C dX7_nextToSearch_46 rfl 0 rfl rfl ?_
        refine xg_X7_trials (q := 50) C tfl_X7_33 dX7_nextToSearch_47 rfl ?_
        refine x_Vf (q := 53) (As := []) (rest := []) C (c_X6_currentNoise hD ) xs_X6_currentNoise tim_X6_currentNoise tsel_X6_currentNoise tml_X7_201 (by decide) 4 rfl (ci := 6) rfl rfl rfl (Nat.le_of_ble_eq_true rfl) dX7_nextToSearch_50 rfl ?_
        refine x_topn (nz P) (okc_nz okc) ?_
        refine x_if_ne_n (q := 56) (tgt := 72) C dX7_nextToSearch_53 (by omega) (by decide) rfl (fun c53 => ?_) (fun c53 => ?_)
        · refine x_iload_n (q := 73) C dX7_nextToSearch_72 rfl 1 rfl rfl ?_
          exact x_iret C dX7_nextToSearch_73 ⟨by rw [nts, if_neg (fun h => h.elim c7 c22), hj]; dsimp only; rw [if_neg (fun h => by first | exact c53 h.1 | exact (foX_4 hnt).mp c66 h.2)]; rfl, rfl, rfl⟩
        · refine x_aload_n (q := 57) C dX7_nextToSearch_56 rfl 0 rfl rfl ?_
          refine xg_X7_trials (q := 60) C tfl_X7_33 dX7_nextToSearch_57 rfl ?_
          refine x_iload_n (q := 61) C dX7_nextToSearch_60 rfl 1 rfl rfl ?_
          refine x_Vf (q := 64) (As := [.int (nI ((lsA P).getD j 0))]) (rest := []) C (c_X6_firstOf hD ok ((lsA P).getD j 0) (by omega)) xs_X6_firstOf tim_X6_firstOf tsel_X6_firstOf tml_X7_192 (by decide) 4 rfl (ci := 6) rfl rfl rfl (Nat.le_of_ble_eq_true rfl) dX7_nextToSearch_61 rfl ?_
          refine x_bipush (q := 66) (v := (-4)) C dX7_nextToSearch_64 (by decide) rfl ?_
          refine x_icmp_eq (q := 69) (tgt := 72) C dX7_nextToSearch_66 (by decide) rfl (fun c66 => ?_) (fun c66 => ?_)
          · refine x_iload_n (q := 73) C dX7_nextToSearch_72 rfl 1 rfl rfl ?_
            exact x_iret C dX7_nextToSearch_73 ⟨by rw [nts, if_neg (fun h => h.elim c7 c22), hj]; dsimp only; rw [if_neg (fun h => by first | exact c53 h.1 | exact (foX_4 hnt).mp c66 h.2)]; rfl, rfl, rfl⟩
          · refine x_bipush (q := 71) (v := (-4)) C dX7_nextToSearch_69 (by decide) rfl ?_
            exact x_iret C dX7_nextToSearch_71 (by first | exact ⟨by rw [nts, if_pos (Or.inl c7)]; rfl, rfl, rfl⟩ | exact ⟨by rw [nts, if_pos (Or.inr c22)]; rfl, rfl, rfl⟩ | exact ⟨by rw [nts, if_neg (fun h => h.elim c7 c22), hj]; dsimp only; rw [if_pos ⟨c53, Decidable.byContradiction (fun q => c66 ((foX_4 hnt).mpr q))⟩]; rfl, rfl, rfl⟩)
    · refine x_bipush (q := 27) (v := (-4)) C dX7_nextToSearch_25 (by decide) rfl ?_
      exact x_iret C dX7_nextToSearch_27 (by first | exact ⟨by rw [nts, if_pos (Or.inl c7)]; rfl, rfl, rfl⟩ | exact ⟨by rw [nts, if_pos (Or.inr c22)]; rfl, rfl, rfl⟩ | exact ⟨by rw [nts, if_neg (fun h => h.elim c7 c22), hj]; dsimp only; rw [if_pos ⟨c53, Decidable.byContradiction (fun q => c66 ((foX_4 hnt).mpr q))⟩]; rfl, rfl, rfl⟩)

end BENCHB
